abbrev MST : Type := (Nat → Int64) × (Nat → Int64) × (Nat → Int64) × (Nat → Int32) × (Nat → Int32) × (Nat → Int32) × (Nat → Int64) × (Nat → Int32)
def mrS (i n : Nat) (f8 : Nat → Int32) (f9 : Nat → Int64) (f11 : Nat → Int32) (q : MST) : MST := ((vp_updL q.1 i (mW i f8 f9 f11 (q.1 i) n)), (if (q.2.2.2.2.2.1 i) = 0 then (vp_updL q.2.1 i (mW i f8 f9 f11 (q.1 i) n)) else (if 0 < (fX4_order (nI i) (mW i f8 f9 f11 (q.1 i) n) (q.2.1 i)) then (vp_updL q.2.1 i (mW i f8 f9 f11 (q.1 i) n)) else q.2.1)), (if (q.2.2.2.2.2.1 i) = 0 then (vp_updL q.2.2.1 i (mW i f8 f9 f11 (q.1 i) n)) else (if (fX4_order (nI i) (mW i f8 f9 f11 (q.1 i) n) (q.2.2.1 i)) < 0 then (vp_updL q.2.2.1 i (mW i f8 f9 f11 (q.1 i) n)) else q.2.2.1)), (upd q.2.2.2.1 i ((q.2.2.2.1 i) + (1:Int32))), (upd q.2.2.2.2.1 i (1:Int32)), (upd q.2.2.2.2.2.1 i (1:Int32)), (mo (12 * i) n (mO i f8 f9 f11 (q.1 i)) q.2.2.2.2.2.2.1), (mo (12 * i) n (mL i f8 f9 f11 (q.1 i)) q.2.2.2.2.2.2.2))
def mpS (i n : Nat) (f8 : Nat → Int32) (f9 : Nat → Int64) (f11 : Nat → Int32) (q : MST) : Nat → MST
  | 0 => q
  | k + 1 => mrS i n f8 f9 f11 (mpS i n f8 f9 f11 q k)
def mpC (i n : Nat) (f8 : Nat → Int32) (f9 : Nat → Int64) (f11 : Nat → Int32) (q : MST) : Nat → Int32
  | 0 => 0
  | k + 1 => mpC i n f8 f9 f11 q k + mC i f8 f9 f11 ((mpS i n f8 f9 f11 q k).1 i) n
def fX4_play (f1 : Nat → Int64) (f2 : Nat → Int64) (f3 : Nat → Int64) (f4 : Nat → Int32) (f6 : Nat → Int32) (f7 : Nat → Int32) (f8 : Nat → Int32) (f9 : Nat → Int64) (f10 : Nat → Int64) (f11 : Nat → Int32) (f12 : Nat → Int32) (i : Nat) (n : Nat) (q : Nat) : Int32 := mpC i n f8 f9 f11 (f1, f2, f3, f4, f6, f7, f10, f12) q
set_option maxHeartbeats 4000000 in
set_option maxRecDepth 100000 in
theorem kX4_play (l : Launch) (G : GT) (ma : Nat) (d0 : Nat) (d1 : Nat) (d2 : Nat) (d3 : Nat) (d4 : Nat) (d5 : Nat) (d6 : Nat) (d7 : Nat) (d8 : Nat) (d9 : Nat) (d10 : Nat) (d11 : Nat) (d12 : Nat) (d13 : Nat) (d14 : Nat) (d15 : Nat) (d16 : Nat) (cd : Int32) (f1 : Nat → Int64) (f2 : Nat → Int64) (f3 : Nat → Int64) (f4 : Nat → Int32) (f5 : Nat → Int32) (f6 : Nat → Int32) (f7 : Nat → Int32) (f8 : Nat → Int32) (f9 : Nat → Int64) (f10 : Nat → Int64) (f11 : Nat → Int32) (f12 : Nat → Int32) (i : Nat) (n : Nat) (q : Nat) (hi4 : i < 4) (hm : f5 i = nI n) (hn : n ≤ 12) (hq1 : 1 ≤ q) (hq2 : q ≤ 50) : CI l yX4_play wsX4_play { frames := 5, cells := 0, slots := 0, locals := 134 } G [.ref ma, .int (nI i), .int (nI q)] [(ma, .inr (4, [.ref d0, .ref d1, .ref d2, .ref d3, .ref d4, .ref d5, .ref d6, .ref d7, .ref d8, .ref d9, .ref d10, .ref d11, .ref d12, .ref d13, .ref d14, .ref d15, .ref d16, .int cd])), (d1, .inl (G.2.1 1, 4, .inr (.inl f1))), (d2, .inl (G.2.1 1, 4, .inr (.inl f2))), (d3, .inl (G.2.1 1, 4, .inr (.inl f3))), (d4, .inl (G.2.1 0, 4, .inl f4)), (d5, .inl (G.2.1 0, 4, .inl f5)), (d6, .inl (G.2.1 2, 4, .inl f6)), (d7, .inl (G.2.1 2, 4, .inl f7)), (d8, .inl (G.2.1 0, 48, .inl f8)), (d9, .inl (G.2.1 1, 48, .inr (.inl f9))), (d10, .inl (G.2.1 1, 48, .inr (.inl f10))), (d11, .inl (G.2.1 2, 48, .inl f11)), (d12, .inl (G.2.1 2, 48, .inl f12))] (fX4_play f1 f2 f3 f4 f6 f7 f8 f9 f10 f11 f12 i n q) [(ma, .inr (4, [.ref d0, .ref d1, .ref d2, .ref d3, .ref d4, .ref d5, .ref d6, .ref d7, .ref d8, .ref d9, .ref d10, .ref d11, .ref d12, .ref d13, .ref d14, .ref d15, .ref d16, .int (0:Int32)])), (d1, .inl (G.2.1 1, 4, .inr (.inl ((mpS i n f8 f9 f11 (f1, f2, f3, f4, f6, f7, f10, f12) q).1)))), (d2, .inl (G.2.1 1, 4, .inr (.inl ((mpS i n f8 f9 f11 (f1, f2, f3, f4, f6, f7, f10, f12) q).2.1)))), (d3, .inl (G.2.1 1, 4, .inr (.inl ((mpS i n f8 f9 f11 (f1, f2, f3, f4, f6, f7, f10, f12) q).2.2.1)))), (d4, .inl (G.2.1 0, 4, .inl ((mpS i n f8 f9 f11 (f1, f2, f3, f4, f6, f7, f10, f12) q).2.2.2.1))), (d5, .inl (G.2.1 0, 4, .inl f5)), (d6, .inl (G.2.1 2, 4, .inl ((mpS i n f8 f9 f11 (f1, f2, f3, f4, f6, f7, f10, f12) q).2.2.2.2.1))), (d7, .inl (G.2.1 2, 4, .inl ((mpS i n f8 f9 f11 (f1, f2, f3, f4, f6, f7, f10, f12) q).2.2.2.2.2.1))), (d8, .inl (G.2.1 0, 48, .inl f8)), (d9, .inl (G.2.1 1, 48, .inr (.inl f9))), (d10, .inl (G.2.1 1, 48, .inr (.inl ((mpS i n f8 f9 f11 (f1, f2, f3, f4, f6, f7, f10, f12) q).2.2.2.2.2.2.1)))), (d11, .inl (G.2.1 2, 48, .inl f11)), (d12, .inl (G.2.1 2, 48, .inl ((mpS i n f8 f9 f11 (f1, f2, f3, f4, f6, f7, f10, f12) q).2.2.2.2.2.2.2)))] := by
  refine en_i (cc := cX4_play) (maxL := 5) (ret := (some .int)) (own := RX4) (by decide) rfl rfl (Nat.le_of_ble_eq_true rfl) ?_
  intro p e s m below meth c A ls hx hb hr hts hown hml hlocks hA hK hE hP hD hS hl
  have hl : lv_has ls 5 [(0, .ref ma), (1, .int (nI i)), (2, .int (nI q))] := hl
  refine lv_aload_n hx hb dX4_play_0 rfl (lv_at hl 0 rfl) ?_
  refine lv_iload_n hx hb dX4_play_1 rfl (lv_at hl 1 rfl) ?_
  refine cs_i (As := [.int (nI i)]) (rest := [.ref ma]) ⟨hx, hb, hml, hown, hts⟩ (kX4_isWire l G (nI i)) (va_cwS 1 hts gX4_play_X4_isWire rfl rfl rfl (by decide +kernel) ⟨Nat.le_of_ble_eq_true rfl, Nat.le_of_ble_eq_true rfl⟩) hE hK hP hD hS hA hl.1 [] rfl rfl rfl rfl rfl rfl (Nat.le_of_ble_eq_true rfl) dX4_play_2 ⟨Nat.zero_le _, Nat.zero_le _⟩ (fun H locs hP hD hS => ?_)
  have hP : va_P G.1 vwCl [(ma, .inr (4, [.ref d0, .ref d1, .ref d2, .ref d3, .ref d4, .ref d5, .ref d6, .ref d7, .ref d8, .ref d9, .ref d10, .ref d11, .ref d12, .ref d13, .ref d14, .ref d15, .ref d16, .int cd])), (d1, .inl (G.2.1 1, 4, .inr (.inl f1))), (d2, .inl (G.2.1 1, 4, .inr (.inl f2))), (d3, .inl (G.2.1 1, 4, .inr (.inl f3))), (d4, .inl (G.2.1 0, 4, .inl f4)), (d5, .inl (G.2.1 0, 4, .inl f5)), (d6, .inl (G.2.1 2, 4, .inl f6)), (d7, .inl (G.2.1 2, 4, .inl f7)), (d8, .inl (G.2.1 0, 48, .inl f8)), (d9, .inl (G.2.1 1, 48, .inr (.inl f9))), (d10, .inl (G.2.1 1, 48, .inr (.inl f10))), (d11, .inl (G.2.1 2, 48, .inl f11)), (d12, .inl (G.2.1 2, 48, .inl f12))] H := hP
  have hD : va_D A [(ma, .inr (4, [.ref d0, .ref d1, .ref d2, .ref d3, .ref d4, .ref d5, .ref d6, .ref d7, .ref d8, .ref d9, .ref d10, .ref d11, .ref d12, .ref d13, .ref d14, .ref d15, .ref d16, .int cd])), (d1, .inl (G.2.1 1, 4, .inr (.inl f1))), (d2, .inl (G.2.1 1, 4, .inr (.inl f2))), (d3, .inl (G.2.1 1, 4, .inr (.inl f3))), (d4, .inl (G.2.1 0, 4, .inl f4)), (d5, .inl (G.2.1 0, 4, .inl f5)), (d6, .inl (G.2.1 2, 4, .inl f6)), (d7, .inl (G.2.1 2, 4, .inl f7)), (d8, .inl (G.2.1 0, 48, .inl f8)), (d9, .inl (G.2.1 1, 48, .inr (.inl f9))), (d10, .inl (G.2.1 1, 48, .inr (.inl f10))), (d11, .inl (G.2.1 2, 48, .inl f11)), (d12, .inl (G.2.1 2, 48, .inl f12))] := hD
  refine bz_eq (tgt := 19) hx hb dX4_play_5 (by decide) (fun h9 => absurd h9 (isW4_1 hi4)) (fun _ => ?_)
  refine lv_iload_n hx hb dX4_play_8 rfl (lv_at hl 2 rfl) ?_
  refine lv_iconst (v := (1:Int32)) hx hb dX4_play_9 (by decide) ?_
  refine bi_lt (tgt := 19) hx hb dX4_play_10 (by decide) (fun h9 => absurd h9 (n_ge1 hq1 hq2)) (fun _ => ?_)
  refine lv_iload_n hx hb dX4_play_13 rfl (lv_at hl 2 rfl) ?_
  refine lv_bipush (v := (50:Int32)) hx hb dX4_play_14 (by decide) ?_
  refine bi_le (tgt := 23) hx hb dX4_play_16 (by decide) (fun h9 => absurd h9 (n_le50 hq2)) (fun _ => ?_)
  refine lv_iconst (v := (0:Int32)) hx hb dX4_play_23 (by decide) ?_
  refine lv_iconst (v := (0:Int32)) hx hb dX4_play_24 (by decide) ?_
  refine cv_i (As := [.int (0:Int32), .int (0:Int32)]) (rest := []) (ws' := [(ma, .inr (4, [.ref d0, .ref d1, .ref d2, .ref d3, .ref d4, .ref d5, .ref d6, .ref d7, .ref d8, .ref d9, .ref d10, .ref d11, .ref d12, .ref d13, .ref d14, .ref d15, .ref d16, .int (0:Int32)])), (d1, .inl (G.2.1 1, 4, .inr (.inl f1))), (d2, .inl (G.2.1 1, 4, .inr (.inl f2))), (d3, .inl (G.2.1 1, 4, .inr (.inl f3))), (d4, .inl (G.2.1 0, 4, .inl f4)), (d5, .inl (G.2.1 0, 4, .inl f5)), (d6, .inl (G.2.1 2, 4, .inl f6)), (d7, .inl (G.2.1 2, 4, .inl f7)), (d8, .inl (G.2.1 0, 48, .inl f8)), (d9, .inl (G.2.1 1, 48, .inr (.inl f9))), (d10, .inl (G.2.1 1, 48, .inr (.inl f10))), (d11, .inl (G.2.1 2, 48, .inl f11)), (d12, .inl (G.2.1 2, 48, .inl f12))]) ⟨hx, hb, hml, hown, hts⟩ (kX4_refuses00 l G ma d0 d1 d2 d3 d4 d5 d6 d7 d8 d9 d10 d11 d12 d13 d14 d15 d16 cd) (cwV 2 hts gX4_play_X4_refuses rfl rfl rfl (by decide +kernel) ⟨Nat.le_of_ble_eq_true rfl, Nat.le_of_ble_eq_true rfl⟩) (va_recv hK hP (ci := 4) (q0 := 0) rfl rfl) hE hK hP hD hS hA hl.1 [0] rfl rfl rfl rfl rfl rfl (Nat.le_of_ble_eq_true rfl) dX4_play_25 ⟨Nat.zero_le _, Nat.zero_le _⟩ (fun H locs hP hD hS => ?_)
  refine bz_eq (tgt := 33) hx hb dX4_play_28 (by decide) (fun _ => ?_) (fun h9 => absurd rfl h9)
  refine lv_iconst (v := (0:Int32)) hx hb dX4_play_33 (by decide) ?_
  refine lv_istore_n (lv' := [(3, .int (0:Int32)), (0, .ref ma), (1, .int (nI i)), (2, .int (nI q))]) hx hb dX4_play_34 rfl hl (by decide) rfl (fun ls hl => ?_)
  refine lv_iconst (v := (0:Int32)) hx hb dX4_play_35 (by decide) ?_
  refine lv_istore (lv' := [(4, .int (0:Int32)), (3, .int (0:Int32)), (0, .ref ma), (1, .int (nI i)), (2, .int (nI q))]) hx hb dX4_play_36 hl (by decide) rfl (fun ls hl => ?_)
  have hP : va_P G.1 vwCl [(ma, .inr (4, [.ref d0, .ref d1, .ref d2, .ref d3, .ref d4, .ref d5, .ref d6, .ref d7, .ref d8, .ref d9, .ref d10, .ref d11, .ref d12, .ref d13, .ref d14, .ref d15, .ref d16, .int (0:Int32)])), (d1, .inl (G.2.1 1, 4, .inr (.inl ((mpS i n f8 f9 f11 (f1, f2, f3, f4, f6, f7, f10, f12) 0).1)))), (d2, .inl (G.2.1 1, 4, .inr (.inl ((mpS i n f8 f9 f11 (f1, f2, f3, f4, f6, f7, f10, f12) 0).2.1)))), (d3, .inl (G.2.1 1, 4, .inr (.inl ((mpS i n f8 f9 f11 (f1, f2, f3, f4, f6, f7, f10, f12) 0).2.2.1)))), (d4, .inl (G.2.1 0, 4, .inl ((mpS i n f8 f9 f11 (f1, f2, f3, f4, f6, f7, f10, f12) 0).2.2.2.1))), (d5, .inl (G.2.1 0, 4, .inl f5)), (d6, .inl (G.2.1 2, 4, .inl ((mpS i n f8 f9 f11 (f1, f2, f3, f4, f6, f7, f10, f12) 0).2.2.2.2.1))), (d7, .inl (G.2.1 2, 4, .inl ((mpS i n f8 f9 f11 (f1, f2, f3, f4, f6, f7, f10, f12) 0).2.2.2.2.2.1))), (d8, .inl (G.2.1 0, 48, .inl f8)), (d9, .inl (G.2.1 1, 48, .inr (.inl f9))), (d10, .inl (G.2.1 1, 48, .inr (.inl ((mpS i n f8 f9 f11 (f1, f2, f3, f4, f6, f7, f10, f12) 0).2.2.2.2.2.2.1)))), (d11, .inl (G.2.1 2, 48, .inl f11)), (d12, .inl (G.2.1 2, 48, .inl ((mpS i n f8 f9 f11 (f1, f2, f3, f4, f6, f7, f10, f12) 0).2.2.2.2.2.2.2)))] H := hP
  have hD : va_D A [(ma, .inr (4, [.ref d0, .ref d1, .ref d2, .ref d3, .ref d4, .ref d5, .ref d6, .ref d7, .ref d8, .ref d9, .ref d10, .ref d11, .ref d12, .ref d13, .ref d14, .ref d15, .ref d16, .int (0:Int32)])), (d1, .inl (G.2.1 1, 4, .inr (.inl ((mpS i n f8 f9 f11 (f1, f2, f3, f4, f6, f7, f10, f12) 0).1)))), (d2, .inl (G.2.1 1, 4, .inr (.inl ((mpS i n f8 f9 f11 (f1, f2, f3, f4, f6, f7, f10, f12) 0).2.1)))), (d3, .inl (G.2.1 1, 4, .inr (.inl ((mpS i n f8 f9 f11 (f1, f2, f3, f4, f6, f7, f10, f12) 0).2.2.1)))), (d4, .inl (G.2.1 0, 4, .inl ((mpS i n f8 f9 f11 (f1, f2, f3, f4, f6, f7, f10, f12) 0).2.2.2.1))), (d5, .inl (G.2.1 0, 4, .inl f5)), (d6, .inl (G.2.1 2, 4, .inl ((mpS i n f8 f9 f11 (f1, f2, f3, f4, f6, f7, f10, f12) 0).2.2.2.2.1))), (d7, .inl (G.2.1 2, 4, .inl ((mpS i n f8 f9 f11 (f1, f2, f3, f4, f6, f7, f10, f12) 0).2.2.2.2.2.1))), (d8, .inl (G.2.1 0, 48, .inl f8)), (d9, .inl (G.2.1 1, 48, .inr (.inl f9))), (d10, .inl (G.2.1 1, 48, .inr (.inl ((mpS i n f8 f9 f11 (f1, f2, f3, f4, f6, f7, f10, f12) 0).2.2.2.2.2.2.1)))), (d11, .inl (G.2.1 2, 48, .inl f11)), (d12, .inl (G.2.1 2, 48, .inl ((mpS i n f8 f9 f11 (f1, f2, f3, f4, f6, f7, f10, f12) 0).2.2.2.2.2.2.2)))] := hD
  refine lp_1 (T := Int32) G A q (fun k y => y = mpC i n f8 f9 f11 (f1, f2, f3, f4, f6, f7, f10, f12) k) (fun k y => [(ma, .inr (4, [.ref d0, .ref d1, .ref d2, .ref d3, .ref d4, .ref d5, .ref d6, .ref d7, .ref d8, .ref d9, .ref d10, .ref d11, .ref d12, .ref d13, .ref d14, .ref d15, .ref d16, .int (0:Int32)])), (d1, .inl (G.2.1 1, 4, .inr (.inl ((mpS i n f8 f9 f11 (f1, f2, f3, f4, f6, f7, f10, f12) k).1)))), (d2, .inl (G.2.1 1, 4, .inr (.inl ((mpS i n f8 f9 f11 (f1, f2, f3, f4, f6, f7, f10, f12) k).2.1)))), (d3, .inl (G.2.1 1, 4, .inr (.inl ((mpS i n f8 f9 f11 (f1, f2, f3, f4, f6, f7, f10, f12) k).2.2.1)))), (d4, .inl (G.2.1 0, 4, .inl ((mpS i n f8 f9 f11 (f1, f2, f3, f4, f6, f7, f10, f12) k).2.2.2.1))), (d5, .inl (G.2.1 0, 4, .inl f5)), (d6, .inl (G.2.1 2, 4, .inl ((mpS i n f8 f9 f11 (f1, f2, f3, f4, f6, f7, f10, f12) k).2.2.2.2.1))), (d7, .inl (G.2.1 2, 4, .inl ((mpS i n f8 f9 f11 (f1, f2, f3, f4, f6, f7, f10, f12) k).2.2.2.2.2.1))), (d8, .inl (G.2.1 0, 48, .inl f8)), (d9, .inl (G.2.1 1, 48, .inr (.inl f9))), (d10, .inl (G.2.1 1, 48, .inr (.inl ((mpS i n f8 f9 f11 (f1, f2, f3, f4, f6, f7, f10, f12) k).2.2.2.2.2.2.1)))), (d11, .inl (G.2.1 2, 48, .inl f11)), (d12, .inl (G.2.1 2, 48, .inl ((mpS i n f8 f9 f11 (f1, f2, f3, f4, f6, f7, f10, f12) k).2.2.2.2.2.2.2)))]) 5 (fun k y => [(4, .int (nI k)), (3, .int y), (0, .ref ma), (1, .int (nI i)), (2, .int (nI q))]) 38 (fun k yy hk hi ih H locs ls hP hD hS hl => ?_) 0 (0:Int32) (by first | exact Nat.zero_le _ | omega) rfl _ _ _ hP hD hS (lv_sub hl [0, 1, 2, 3, 4] rfl)
  obtain ⟨ch, rfl⟩ : ∃ z, z = yy := ⟨_, rfl⟩
  have hl : lv_has ls 5 [(4, .int (nI k)), (3, .int ch), (0, .ref ma), (1, .int (nI i)), (2, .int (nI q))] := hl
  have hi : ch = mpC i n f8 f9 f11 (f1, f2, f3, f4, f6, f7, f10, f12) k := hi
  have hP : va_P G.1 vwCl [(ma, .inr (4, [.ref d0, .ref d1, .ref d2, .ref d3, .ref d4, .ref d5, .ref d6, .ref d7, .ref d8, .ref d9, .ref d10, .ref d11, .ref d12, .ref d13, .ref d14, .ref d15, .ref d16, .int (0:Int32)])), (d1, .inl (G.2.1 1, 4, .inr (.inl ((mpS i n f8 f9 f11 (f1, f2, f3, f4, f6, f7, f10, f12) k).1)))), (d2, .inl (G.2.1 1, 4, .inr (.inl ((mpS i n f8 f9 f11 (f1, f2, f3, f4, f6, f7, f10, f12) k).2.1)))), (d3, .inl (G.2.1 1, 4, .inr (.inl ((mpS i n f8 f9 f11 (f1, f2, f3, f4, f6, f7, f10, f12) k).2.2.1)))), (d4, .inl (G.2.1 0, 4, .inl ((mpS i n f8 f9 f11 (f1, f2, f3, f4, f6, f7, f10, f12) k).2.2.2.1))), (d5, .inl (G.2.1 0, 4, .inl f5)), (d6, .inl (G.2.1 2, 4, .inl ((mpS i n f8 f9 f11 (f1, f2, f3, f4, f6, f7, f10, f12) k).2.2.2.2.1))), (d7, .inl (G.2.1 2, 4, .inl ((mpS i n f8 f9 f11 (f1, f2, f3, f4, f6, f7, f10, f12) k).2.2.2.2.2.1))), (d8, .inl (G.2.1 0, 48, .inl f8)), (d9, .inl (G.2.1 1, 48, .inr (.inl f9))), (d10, .inl (G.2.1 1, 48, .inr (.inl ((mpS i n f8 f9 f11 (f1, f2, f3, f4, f6, f7, f10, f12) k).2.2.2.2.2.2.1)))), (d11, .inl (G.2.1 2, 48, .inl f11)), (d12, .inl (G.2.1 2, 48, .inl ((mpS i n f8 f9 f11 (f1, f2, f3, f4, f6, f7, f10, f12) k).2.2.2.2.2.2.2)))] H := hP
  have hD : va_D A [(ma, .inr (4, [.ref d0, .ref d1, .ref d2, .ref d3, .ref d4, .ref d5, .ref d6, .ref d7, .ref d8, .ref d9, .ref d10, .ref d11, .ref d12, .ref d13, .ref d14, .ref d15, .ref d16, .int (0:Int32)])), (d1, .inl (G.2.1 1, 4, .inr (.inl ((mpS i n f8 f9 f11 (f1, f2, f3, f4, f6, f7, f10, f12) k).1)))), (d2, .inl (G.2.1 1, 4, .inr (.inl ((mpS i n f8 f9 f11 (f1, f2, f3, f4, f6, f7, f10, f12) k).2.1)))), (d3, .inl (G.2.1 1, 4, .inr (.inl ((mpS i n f8 f9 f11 (f1, f2, f3, f4, f6, f7, f10, f12) k).2.2.1)))), (d4, .inl (G.2.1 0, 4, .inl ((mpS i n f8 f9 f11 (f1, f2, f3, f4, f6, f7, f10, f12) k).2.2.2.1))), (d5, .inl (G.2.1 0, 4, .inl f5)), (d6, .inl (G.2.1 2, 4, .inl ((mpS i n f8 f9 f11 (f1, f2, f3, f4, f6, f7, f10, f12) k).2.2.2.2.1))), (d7, .inl (G.2.1 2, 4, .inl ((mpS i n f8 f9 f11 (f1, f2, f3, f4, f6, f7, f10, f12) k).2.2.2.2.2.1))), (d8, .inl (G.2.1 0, 48, .inl f8)), (d9, .inl (G.2.1 1, 48, .inr (.inl f9))), (d10, .inl (G.2.1 1, 48, .inr (.inl ((mpS i n f8 f9 f11 (f1, f2, f3, f4, f6, f7, f10, f12) k).2.2.2.2.2.2.1)))), (d11, .inl (G.2.1 2, 48, .inl f11)), (d12, .inl (G.2.1 2, 48, .inl ((mpS i n f8 f9 f11 (f1, f2, f3, f4, f6, f7, f10, f12) k).2.2.2.2.2.2.2)))] := hD
  refine lv_iload hx hb dX4_play_38 (lv_at hl 0 rfl) ?_
  refine lv_iload_n hx hb dX4_play_40 rfl (lv_at hl 4 rfl) ?_
  refine bi_ge (tgt := 58) hx hb dX4_play_41 (by decide) (fun c_1 => ?_) (fun c_1 => ?_)
  · refine lv_iload_n hx hb dX4_play_44 rfl (lv_at hl 1 rfl) ?_
    refine lv_aload_n hx hb dX4_play_45 rfl (lv_at hl 2 rfl) ?_
    refine lv_iload_n hx hb dX4_play_46 rfl (lv_at hl 3 rfl) ?_
    refine cv_i (As := [.int (nI i)]) (rest := [.int ch]) (ws' := [(ma, .inr (4, [.ref d0, .ref d1, .ref d2, .ref d3, .ref d4, .ref d5, .ref d6, .ref d7, .ref d8, .ref d9, .ref d10, .ref d11, .ref d12, .ref d13, .ref d14, .ref d15, .ref d16, .int (0:Int32)])), (d1, .inl (G.2.1 1, 4, .inr (.inl (vp_updL ((mpS i n f8 f9 f11 (f1, f2, f3, f4, f6, f7, f10, f12) k).1) i (mW i f8 f9 f11 (((mpS i n f8 f9 f11 (f1, f2, f3, f4, f6, f7, f10, f12) k).1) i) n))))), (d2, .inl (G.2.1 1, 4, .inr (.inl (if (((mpS i n f8 f9 f11 (f1, f2, f3, f4, f6, f7, f10, f12) k).2.2.2.2.2.1) i) = 0 then (vp_updL ((mpS i n f8 f9 f11 (f1, f2, f3, f4, f6, f7, f10, f12) k).2.1) i (mW i f8 f9 f11 (((mpS i n f8 f9 f11 (f1, f2, f3, f4, f6, f7, f10, f12) k).1) i) n)) else (if 0 < (fX4_order (nI i) (mW i f8 f9 f11 (((mpS i n f8 f9 f11 (f1, f2, f3, f4, f6, f7, f10, f12) k).1) i) n) (((mpS i n f8 f9 f11 (f1, f2, f3, f4, f6, f7, f10, f12) k).2.1) i)) then (vp_updL ((mpS i n f8 f9 f11 (f1, f2, f3, f4, f6, f7, f10, f12) k).2.1) i (mW i f8 f9 f11 (((mpS i n f8 f9 f11 (f1, f2, f3, f4, f6, f7, f10, f12) k).1) i) n)) else ((mpS i n f8 f9 f11 (f1, f2, f3, f4, f6, f7, f10, f12) k).2.1)))))), (d3, .inl (G.2.1 1, 4, .inr (.inl (if (((mpS i n f8 f9 f11 (f1, f2, f3, f4, f6, f7, f10, f12) k).2.2.2.2.2.1) i) = 0 then (vp_updL ((mpS i n f8 f9 f11 (f1, f2, f3, f4, f6, f7, f10, f12) k).2.2.1) i (mW i f8 f9 f11 (((mpS i n f8 f9 f11 (f1, f2, f3, f4, f6, f7, f10, f12) k).1) i) n)) else (if (fX4_order (nI i) (mW i f8 f9 f11 (((mpS i n f8 f9 f11 (f1, f2, f3, f4, f6, f7, f10, f12) k).1) i) n) (((mpS i n f8 f9 f11 (f1, f2, f3, f4, f6, f7, f10, f12) k).2.2.1) i)) < 0 then (vp_updL ((mpS i n f8 f9 f11 (f1, f2, f3, f4, f6, f7, f10, f12) k).2.2.1) i (mW i f8 f9 f11 (((mpS i n f8 f9 f11 (f1, f2, f3, f4, f6, f7, f10, f12) k).1) i) n)) else ((mpS i n f8 f9 f11 (f1, f2, f3, f4, f6, f7, f10, f12) k).2.2.1)))))), (d4, .inl (G.2.1 0, 4, .inl (upd ((mpS i n f8 f9 f11 (f1, f2, f3, f4, f6, f7, f10, f12) k).2.2.2.1) i ((((mpS i n f8 f9 f11 (f1, f2, f3, f4, f6, f7, f10, f12) k).2.2.2.1) i) + (1:Int32))))), (d5, .inl (G.2.1 0, 4, .inl f5)), (d6, .inl (G.2.1 2, 4, .inl (upd ((mpS i n f8 f9 f11 (f1, f2, f3, f4, f6, f7, f10, f12) k).2.2.2.2.1) i (1:Int32)))), (d7, .inl (G.2.1 2, 4, .inl (upd ((mpS i n f8 f9 f11 (f1, f2, f3, f4, f6, f7, f10, f12) k).2.2.2.2.2.1) i (1:Int32)))), (d8, .inl (G.2.1 0, 48, .inl f8)), (d9, .inl (G.2.1 1, 48, .inr (.inl f9))), (d10, .inl (G.2.1 1, 48, .inr (.inl (mo (12 * i) n (mO i f8 f9 f11 (((mpS i n f8 f9 f11 (f1, f2, f3, f4, f6, f7, f10, f12) k).1) i)) ((mpS i n f8 f9 f11 (f1, f2, f3, f4, f6, f7, f10, f12) k).2.2.2.2.2.2.1))))), (d11, .inl (G.2.1 2, 48, .inl f11)), (d12, .inl (G.2.1 2, 48, .inl (mo (12 * i) n (mL i f8 f9 f11 (((mpS i n f8 f9 f11 (f1, f2, f3, f4, f6, f7, f10, f12) k).1) i)) ((mpS i n f8 f9 f11 (f1, f2, f3, f4, f6, f7, f10, f12) k).2.2.2.2.2.2.2))))]) ⟨hx, hb, hml, hown, hts⟩ (kX4_round l G ma d0 d1 d2 d3 d4 d5 d6 d7 d8 d9 d10 d11 d12 d13 d14 d15 d16 (0:Int32) ((mpS i n f8 f9 f11 (f1, f2, f3, f4, f6, f7, f10, f12) k).1) ((mpS i n f8 f9 f11 (f1, f2, f3, f4, f6, f7, f10, f12) k).2.1) ((mpS i n f8 f9 f11 (f1, f2, f3, f4, f6, f7, f10, f12) k).2.2.1) ((mpS i n f8 f9 f11 (f1, f2, f3, f4, f6, f7, f10, f12) k).2.2.2.1) f5 ((mpS i n f8 f9 f11 (f1, f2, f3, f4, f6, f7, f10, f12) k).2.2.2.2.1) ((mpS i n f8 f9 f11 (f1, f2, f3, f4, f6, f7, f10, f12) k).2.2.2.2.2.1) f8 f9 ((mpS i n f8 f9 f11 (f1, f2, f3, f4, f6, f7, f10, f12) k).2.2.2.2.2.2.1) f11 ((mpS i n f8 f9 f11 (f1, f2, f3, f4, f6, f7, f10, f12) k).2.2.2.2.2.2.2) i n (by first | assumption | omega) (by first | assumption | omega) (by first | assumption | omega)) (cwV 1 hts gX4_play_X4_round rfl rfl rfl (by decide +kernel) ⟨Nat.le_of_ble_eq_true rfl, Nat.le_of_ble_eq_true rfl⟩) (va_recv hK hP (ci := 4) (q0 := 0) rfl rfl) hE hK hP hD hS hA hl.1 [0, 1, 2, 3, 4, 5, 6, 7, 8, 9, 10, 11, 12] rfl rfl rfl rfl rfl rfl (Nat.le_of_ble_eq_true rfl) dX4_play_47 ⟨Nat.zero_le _, Nat.zero_le _⟩ (fun H locs hP hD hS => ?_)
    refine lv_iadd hx hb dX4_play_50 ?_
    refine lv_istore_n (lv' := [(3, .int (ch + (fX4_round ((mpS i n f8 f9 f11 (f1, f2, f3, f4, f6, f7, f10, f12) k).1) f8 f9 f11 i n))), (4, .int (nI k)), (0, .ref ma), (1, .int (nI i)), (2, .int (nI q))]) hx hb dX4_play_51 rfl hl (by decide) rfl (fun ls hl => ?_)
    refine lv_iinc (v := (nI (k + 1))) (lv' := [(4, .int (nI (k + 1))), (3, .int (ch + (fX4_round ((mpS i n f8 f9 f11 (f1, f2, f3, f4, f6, f7, f10, f12) k).1) f8 f9 f11 i n))), (0, .ref ma), (1, .int (nI i)), (2, .int (nI q))]) hx hb dX4_play_52 hl (k := 1) rfl (by rw [← nI_1]; rfl) (by decide) rfl (fun ls hl => ?_)
    refine lv_goto (tgt := 38) hx hb dX4_play_55 (by decide) ?_
    have hP : va_P G.1 vwCl [(ma, .inr (4, [.ref d0, .ref d1, .ref d2, .ref d3, .ref d4, .ref d5, .ref d6, .ref d7, .ref d8, .ref d9, .ref d10, .ref d11, .ref d12, .ref d13, .ref d14, .ref d15, .ref d16, .int (0:Int32)])), (d1, .inl (G.2.1 1, 4, .inr (.inl ((mpS i n f8 f9 f11 (f1, f2, f3, f4, f6, f7, f10, f12) (k + 1)).1)))), (d2, .inl (G.2.1 1, 4, .inr (.inl ((mpS i n f8 f9 f11 (f1, f2, f3, f4, f6, f7, f10, f12) (k + 1)).2.1)))), (d3, .inl (G.2.1 1, 4, .inr (.inl ((mpS i n f8 f9 f11 (f1, f2, f3, f4, f6, f7, f10, f12) (k + 1)).2.2.1)))), (d4, .inl (G.2.1 0, 4, .inl ((mpS i n f8 f9 f11 (f1, f2, f3, f4, f6, f7, f10, f12) (k + 1)).2.2.2.1))), (d5, .inl (G.2.1 0, 4, .inl f5)), (d6, .inl (G.2.1 2, 4, .inl ((mpS i n f8 f9 f11 (f1, f2, f3, f4, f6, f7, f10, f12) (k + 1)).2.2.2.2.1))), (d7, .inl (G.2.1 2, 4, .inl ((mpS i n f8 f9 f11 (f1, f2, f3, f4, f6, f7, f10, f12) (k + 1)).2.2.2.2.2.1))), (d8, .inl (G.2.1 0, 48, .inl f8)), (d9, .inl (G.2.1 1, 48, .inr (.inl f9))), (d10, .inl (G.2.1 1, 48, .inr (.inl ((mpS i n f8 f9 f11 (f1, f2, f3, f4, f6, f7, f10, f12) (k + 1)).2.2.2.2.2.2.1)))), (d11, .inl (G.2.1 2, 48, .inl f11)), (d12, .inl (G.2.1 2, 48, .inl ((mpS i n f8 f9 f11 (f1, f2, f3, f4, f6, f7, f10, f12) (k + 1)).2.2.2.2.2.2.2)))] H := hP
    have hD : va_D A [(ma, .inr (4, [.ref d0, .ref d1, .ref d2, .ref d3, .ref d4, .ref d5, .ref d6, .ref d7, .ref d8, .ref d9, .ref d10, .ref d11, .ref d12, .ref d13, .ref d14, .ref d15, .ref d16, .int (0:Int32)])), (d1, .inl (G.2.1 1, 4, .inr (.inl ((mpS i n f8 f9 f11 (f1, f2, f3, f4, f6, f7, f10, f12) (k + 1)).1)))), (d2, .inl (G.2.1 1, 4, .inr (.inl ((mpS i n f8 f9 f11 (f1, f2, f3, f4, f6, f7, f10, f12) (k + 1)).2.1)))), (d3, .inl (G.2.1 1, 4, .inr (.inl ((mpS i n f8 f9 f11 (f1, f2, f3, f4, f6, f7, f10, f12) (k + 1)).2.2.1)))), (d4, .inl (G.2.1 0, 4, .inl ((mpS i n f8 f9 f11 (f1, f2, f3, f4, f6, f7, f10, f12) (k + 1)).2.2.2.1))), (d5, .inl (G.2.1 0, 4, .inl f5)), (d6, .inl (G.2.1 2, 4, .inl ((mpS i n f8 f9 f11 (f1, f2, f3, f4, f6, f7, f10, f12) (k + 1)).2.2.2.2.1))), (d7, .inl (G.2.1 2, 4, .inl ((mpS i n f8 f9 f11 (f1, f2, f3, f4, f6, f7, f10, f12) (k + 1)).2.2.2.2.2.1))), (d8, .inl (G.2.1 0, 48, .inl f8)), (d9, .inl (G.2.1 1, 48, .inr (.inl f9))), (d10, .inl (G.2.1 1, 48, .inr (.inl ((mpS i n f8 f9 f11 (f1, f2, f3, f4, f6, f7, f10, f12) (k + 1)).2.2.2.2.2.2.1)))), (d11, .inl (G.2.1 2, 48, .inl f11)), (d12, .inl (G.2.1 2, 48, .inl ((mpS i n f8 f9 f11 (f1, f2, f3, f4, f6, f7, f10, f12) (k + 1)).2.2.2.2.2.2.2)))] := hD
    exact ih (nk_lt hk (by omega) c_1) (ch + (fX4_round ((mpS i n f8 f9 f11 (f1, f2, f3, f4, f6, f7, f10, f12) k).1) f8 f9 f11 i n)) (by show _ = mpC i n f8 f9 f11 (f1, f2, f3, f4, f6, f7, f10, f12) (k + 1); rw [mpC, ← hi]; rfl) _ _ _ hP hD hS (lv_sub hl [0, 1, 2, 3, 4] rfl)
  · rw [nk_ge hk (by omega) c_1] at hP hD
    have hP : va_P G.1 vwCl [(ma, .inr (4, [.ref d0, .ref d1, .ref d2, .ref d3, .ref d4, .ref d5, .ref d6, .ref d7, .ref d8, .ref d9, .ref d10, .ref d11, .ref d12, .ref d13, .ref d14, .ref d15, .ref d16, .int (0:Int32)])), (d1, .inl (G.2.1 1, 4, .inr (.inl ((mpS i n f8 f9 f11 (f1, f2, f3, f4, f6, f7, f10, f12) q).1)))), (d2, .inl (G.2.1 1, 4, .inr (.inl ((mpS i n f8 f9 f11 (f1, f2, f3, f4, f6, f7, f10, f12) q).2.1)))), (d3, .inl (G.2.1 1, 4, .inr (.inl ((mpS i n f8 f9 f11 (f1, f2, f3, f4, f6, f7, f10, f12) q).2.2.1)))), (d4, .inl (G.2.1 0, 4, .inl ((mpS i n f8 f9 f11 (f1, f2, f3, f4, f6, f7, f10, f12) q).2.2.2.1))), (d5, .inl (G.2.1 0, 4, .inl f5)), (d6, .inl (G.2.1 2, 4, .inl ((mpS i n f8 f9 f11 (f1, f2, f3, f4, f6, f7, f10, f12) q).2.2.2.2.1))), (d7, .inl (G.2.1 2, 4, .inl ((mpS i n f8 f9 f11 (f1, f2, f3, f4, f6, f7, f10, f12) q).2.2.2.2.2.1))), (d8, .inl (G.2.1 0, 48, .inl f8)), (d9, .inl (G.2.1 1, 48, .inr (.inl f9))), (d10, .inl (G.2.1 1, 48, .inr (.inl ((mpS i n f8 f9 f11 (f1, f2, f3, f4, f6, f7, f10, f12) q).2.2.2.2.2.2.1)))), (d11, .inl (G.2.1 2, 48, .inl f11)), (d12, .inl (G.2.1 2, 48, .inl ((mpS i n f8 f9 f11 (f1, f2, f3, f4, f6, f7, f10, f12) q).2.2.2.2.2.2.2)))] H := hP
    have hD : va_D A [(ma, .inr (4, [.ref d0, .ref d1, .ref d2, .ref d3, .ref d4, .ref d5, .ref d6, .ref d7, .ref d8, .ref d9, .ref d10, .ref d11, .ref d12, .ref d13, .ref d14, .ref d15, .ref d16, .int (0:Int32)])), (d1, .inl (G.2.1 1, 4, .inr (.inl ((mpS i n f8 f9 f11 (f1, f2, f3, f4, f6, f7, f10, f12) q).1)))), (d2, .inl (G.2.1 1, 4, .inr (.inl ((mpS i n f8 f9 f11 (f1, f2, f3, f4, f6, f7, f10, f12) q).2.1)))), (d3, .inl (G.2.1 1, 4, .inr (.inl ((mpS i n f8 f9 f11 (f1, f2, f3, f4, f6, f7, f10, f12) q).2.2.1)))), (d4, .inl (G.2.1 0, 4, .inl ((mpS i n f8 f9 f11 (f1, f2, f3, f4, f6, f7, f10, f12) q).2.2.2.1))), (d5, .inl (G.2.1 0, 4, .inl f5)), (d6, .inl (G.2.1 2, 4, .inl ((mpS i n f8 f9 f11 (f1, f2, f3, f4, f6, f7, f10, f12) q).2.2.2.2.1))), (d7, .inl (G.2.1 2, 4, .inl ((mpS i n f8 f9 f11 (f1, f2, f3, f4, f6, f7, f10, f12) q).2.2.2.2.2.1))), (d8, .inl (G.2.1 0, 48, .inl f8)), (d9, .inl (G.2.1 1, 48, .inr (.inl f9))), (d10, .inl (G.2.1 1, 48, .inr (.inl ((mpS i n f8 f9 f11 (f1, f2, f3, f4, f6, f7, f10, f12) q).2.2.2.2.2.2.1)))), (d11, .inl (G.2.1 2, 48, .inl f11)), (d12, .inl (G.2.1 2, 48, .inl ((mpS i n f8 f9 f11 (f1, f2, f3, f4, f6, f7, f10, f12) q).2.2.2.2.2.2.2)))] := hD
    refine lv_iload_n hx hb dX4_play_58 rfl (lv_at hl 1 rfl) ?_
    exact rt_i hx hb hr hlocks hP hD hS dX4_play_59 (by rw [hi, nk_ge hk (by omega) c_1]; rfl)
set_option maxHeartbeats 4000000 in
set_option maxRecDepth 100000 in
theorem kX4_playB0 (l : Launch) (G : GT) (ma : Nat) (d0 : Nat) (d1 : Nat) (d2 : Nat) (d3 : Nat) (d4 : Nat) (d5 : Nat) (d6 : Nat) (d7 : Nat) (d8 : Nat) (d9 : Nat) (d10 : Nat) (d11 : Nat) (d12 : Nat) (d13 : Nat) (d14 : Nat) (d15 : Nat) (d16 : Nat) (cd : Int32) (wi : Int32) (qi : Int32) (hwi : fX4_isWire wi = 0) : CI l yX4_play wsX4_play { frames := 1, cells := 0, slots := 0, locals := 22 } G [.ref ma, .int wi, .int qi] [(ma, .inr (4, [.ref d0, .ref d1, .ref d2, .ref d3, .ref d4, .ref d5, .ref d6, .ref d7, .ref d8, .ref d9, .ref d10, .ref d11, .ref d12, .ref d13, .ref d14, .ref d15, .ref d16, .int cd]))] (0:Int32) [(ma, .inr (4, [.ref d0, .ref d1, .ref d2, .ref d3, .ref d4, .ref d5, .ref d6, .ref d7, .ref d8, .ref d9, .ref d10, .ref d11, .ref d12, .ref d13, .ref d14, .ref d15, .ref d16, .int (1:Int32)]))] := by
  refine en_i (cc := cX4_play) (maxL := 5) (ret := (some .int)) (own := RX4) (by decide) rfl rfl (Nat.le_of_ble_eq_true rfl) ?_
  intro p e s m below meth c A ls hx hb hr hts hown hml hlocks hA hK hE hP hD hS hl
  have hl : lv_has ls 5 [(0, .ref ma), (1, .int wi), (2, .int qi)] := hl
  refine lv_aload_n hx hb dX4_play_0 rfl (lv_at hl 0 rfl) ?_
  refine lv_iload_n hx hb dX4_play_1 rfl (lv_at hl 1 rfl) ?_
  refine cs_i (As := [.int wi]) (rest := [.ref ma]) ⟨hx, hb, hml, hown, hts⟩ (kX4_isWire l G wi) (va_cwS 1 hts gX4_play_X4_isWire rfl rfl rfl (by decide +kernel) ⟨Nat.le_of_ble_eq_true rfl, Nat.le_of_ble_eq_true rfl⟩) hE hK hP hD hS hA hl.1 [] rfl rfl rfl rfl rfl rfl (Nat.le_of_ble_eq_true rfl) dX4_play_2 ⟨Nat.zero_le _, Nat.zero_le _⟩ (fun H locs hP hD hS => ?_)
  have hP : va_P G.1 vwCl [(ma, .inr (4, [.ref d0, .ref d1, .ref d2, .ref d3, .ref d4, .ref d5, .ref d6, .ref d7, .ref d8, .ref d9, .ref d10, .ref d11, .ref d12, .ref d13, .ref d14, .ref d15, .ref d16, .int cd]))] H := hP
  have hD : va_D A [(ma, .inr (4, [.ref d0, .ref d1, .ref d2, .ref d3, .ref d4, .ref d5, .ref d6, .ref d7, .ref d8, .ref d9, .ref d10, .ref d11, .ref d12, .ref d13, .ref d14, .ref d15, .ref d16, .int cd]))] := hD
  refine bz_eq (tgt := 19) hx hb dX4_play_5 (by decide) (fun _ => ?_) (fun h9 => absurd hwi h9)
  refine lv_iconst (v := (1:Int32)) hx hb dX4_play_19 (by decide) ?_
  refine lv_goto (tgt := 24) hx hb dX4_play_20 (by decide) ?_
  refine lv_iconst (v := (0:Int32)) hx hb dX4_play_24 (by decide) ?_
  refine cv_i (As := [.int (1:Int32), .int (0:Int32)]) (rest := []) (ws' := [(ma, .inr (4, [.ref d0, .ref d1, .ref d2, .ref d3, .ref d4, .ref d5, .ref d6, .ref d7, .ref d8, .ref d9, .ref d10, .ref d11, .ref d12, .ref d13, .ref d14, .ref d15, .ref d16, .int (1:Int32)]))]) ⟨hx, hb, hml, hown, hts⟩ (kX4_refuses10 l G ma d0 d1 d2 d3 d4 d5 d6 d7 d8 d9 d10 d11 d12 d13 d14 d15 d16 cd) (cwV 2 hts gX4_play_X4_refuses rfl rfl rfl (by decide +kernel) ⟨Nat.le_of_ble_eq_true rfl, Nat.le_of_ble_eq_true rfl⟩) (va_recv hK hP (ci := 4) (q0 := 0) rfl rfl) hE hK hP hD hS hA hl.1 [0] rfl rfl rfl rfl rfl rfl (Nat.le_of_ble_eq_true rfl) dX4_play_25 ⟨Nat.zero_le _, Nat.zero_le _⟩ (fun H locs hP hD hS => ?_)
  refine bz_eq (tgt := 33) hx hb dX4_play_28 (by decide) (fun h9 => absurd h9 (by decide)) (fun _ => ?_)
  refine lv_iconst (v := (0:Int32)) hx hb dX4_play_31 (by decide) ?_
  exact rt_i hx hb hr hlocks hP hD hS dX4_play_32 rfl
set_option maxHeartbeats 4000000 in
set_option maxRecDepth 100000 in
theorem kX4_playB1 (l : Launch) (G : GT) (ma : Nat) (d0 : Nat) (d1 : Nat) (d2 : Nat) (d3 : Nat) (d4 : Nat) (d5 : Nat) (d6 : Nat) (d7 : Nat) (d8 : Nat) (d9 : Nat) (d10 : Nat) (d11 : Nat) (d12 : Nat) (d13 : Nat) (d14 : Nat) (d15 : Nat) (d16 : Nat) (cd : Int32) (i : Nat) (qi : Int32) (hi4 : i < 4) (hq : qi < (1:Int32)) : CI l yX4_play wsX4_play { frames := 1, cells := 0, slots := 0, locals := 22 } G [.ref ma, .int (nI i), .int qi] [(ma, .inr (4, [.ref d0, .ref d1, .ref d2, .ref d3, .ref d4, .ref d5, .ref d6, .ref d7, .ref d8, .ref d9, .ref d10, .ref d11, .ref d12, .ref d13, .ref d14, .ref d15, .ref d16, .int cd]))] (0:Int32) [(ma, .inr (4, [.ref d0, .ref d1, .ref d2, .ref d3, .ref d4, .ref d5, .ref d6, .ref d7, .ref d8, .ref d9, .ref d10, .ref d11, .ref d12, .ref d13, .ref d14, .ref d15, .ref d16, .int (1:Int32)]))] := by
  refine en_i (cc := cX4_play) (maxL := 5) (ret := (some .int)) (own := RX4) (by decide) rfl rfl (Nat.le_of_ble_eq_true rfl) ?_
  intro p e s m below meth c A ls hx hb hr hts hown hml hlocks hA hK hE hP hD hS hl
  have hl : lv_has ls 5 [(0, .ref ma), (1, .int (nI i)), (2, .int qi)] := hl
  refine lv_aload_n hx hb dX4_play_0 rfl (lv_at hl 0 rfl) ?_
  refine lv_iload_n hx hb dX4_play_1 rfl (lv_at hl 1 rfl) ?_
  refine cs_i (As := [.int (nI i)]) (rest := [.ref ma]) ⟨hx, hb, hml, hown, hts⟩ (kX4_isWire l G (nI i)) (va_cwS 1 hts gX4_play_X4_isWire rfl rfl rfl (by decide +kernel) ⟨Nat.le_of_ble_eq_true rfl, Nat.le_of_ble_eq_true rfl⟩) hE hK hP hD hS hA hl.1 [] rfl rfl rfl rfl rfl rfl (Nat.le_of_ble_eq_true rfl) dX4_play_2 ⟨Nat.zero_le _, Nat.zero_le _⟩ (fun H locs hP hD hS => ?_)
  have hP : va_P G.1 vwCl [(ma, .inr (4, [.ref d0, .ref d1, .ref d2, .ref d3, .ref d4, .ref d5, .ref d6, .ref d7, .ref d8, .ref d9, .ref d10, .ref d11, .ref d12, .ref d13, .ref d14, .ref d15, .ref d16, .int cd]))] H := hP
  have hD : va_D A [(ma, .inr (4, [.ref d0, .ref d1, .ref d2, .ref d3, .ref d4, .ref d5, .ref d6, .ref d7, .ref d8, .ref d9, .ref d10, .ref d11, .ref d12, .ref d13, .ref d14, .ref d15, .ref d16, .int cd]))] := hD
  refine bz_eq (tgt := 19) hx hb dX4_play_5 (by decide) (fun h9 => absurd h9 (isW4_1 hi4)) (fun _ => ?_)
  refine lv_iload_n hx hb dX4_play_8 rfl (lv_at hl 2 rfl) ?_
  refine lv_iconst (v := (1:Int32)) hx hb dX4_play_9 (by decide) ?_
  refine bi_lt (tgt := 19) hx hb dX4_play_10 (by decide) (fun _ => ?_) (fun h9 => absurd hq h9)
  refine lv_iconst (v := (1:Int32)) hx hb dX4_play_19 (by decide) ?_
  refine lv_goto (tgt := 24) hx hb dX4_play_20 (by decide) ?_
  refine lv_iconst (v := (0:Int32)) hx hb dX4_play_24 (by decide) ?_
  refine cv_i (As := [.int (1:Int32), .int (0:Int32)]) (rest := []) (ws' := [(ma, .inr (4, [.ref d0, .ref d1, .ref d2, .ref d3, .ref d4, .ref d5, .ref d6, .ref d7, .ref d8, .ref d9, .ref d10, .ref d11, .ref d12, .ref d13, .ref d14, .ref d15, .ref d16, .int (1:Int32)]))]) ⟨hx, hb, hml, hown, hts⟩ (kX4_refuses10 l G ma d0 d1 d2 d3 d4 d5 d6 d7 d8 d9 d10 d11 d12 d13 d14 d15 d16 cd) (cwV 2 hts gX4_play_X4_refuses rfl rfl rfl (by decide +kernel) ⟨Nat.le_of_ble_eq_true rfl, Nat.le_of_ble_eq_true rfl⟩) (va_recv hK hP (ci := 4) (q0 := 0) rfl rfl) hE hK hP hD hS hA hl.1 [0] rfl rfl rfl rfl rfl rfl (Nat.le_of_ble_eq_true rfl) dX4_play_25 ⟨Nat.zero_le _, Nat.zero_le _⟩ (fun H locs hP hD hS => ?_)
  refine bz_eq (tgt := 33) hx hb dX4_play_28 (by decide) (fun h9 => absurd h9 (by decide)) (fun _ => ?_)
  refine lv_iconst (v := (0:Int32)) hx hb dX4_play_31 (by decide) ?_
  exact rt_i hx hb hr hlocks hP hD hS dX4_play_32 rfl
set_option maxHeartbeats 4000000 in
set_option maxRecDepth 100000 in
theorem kX4_playB2 (l : Launch) (G : GT) (ma : Nat) (d0 : Nat) (d1 : Nat) (d2 : Nat) (d3 : Nat) (d4 : Nat) (d5 : Nat) (d6 : Nat) (d7 : Nat) (d8 : Nat) (d9 : Nat) (d10 : Nat) (d11 : Nat) (d12 : Nat) (d13 : Nat) (d14 : Nat) (d15 : Nat) (d16 : Nat) (cd : Int32) (i : Nat) (qi : Int32) (hi4 : i < 4) (hq : ¬ qi < (1:Int32)) (hq2 : (50:Int32) < qi) : CI l yX4_play wsX4_play { frames := 1, cells := 0, slots := 0, locals := 22 } G [.ref ma, .int (nI i), .int qi] [(ma, .inr (4, [.ref d0, .ref d1, .ref d2, .ref d3, .ref d4, .ref d5, .ref d6, .ref d7, .ref d8, .ref d9, .ref d10, .ref d11, .ref d12, .ref d13, .ref d14, .ref d15, .ref d16, .int cd]))] (0:Int32) [(ma, .inr (4, [.ref d0, .ref d1, .ref d2, .ref d3, .ref d4, .ref d5, .ref d6, .ref d7, .ref d8, .ref d9, .ref d10, .ref d11, .ref d12, .ref d13, .ref d14, .ref d15, .ref d16, .int (1:Int32)]))] := by
  refine en_i (cc := cX4_play) (maxL := 5) (ret := (some .int)) (own := RX4) (by decide) rfl rfl (Nat.le_of_ble_eq_true rfl) ?_
  intro p e s m below meth c A ls hx hb hr hts hown hml hlocks hA hK hE hP hD hS hl
  have hl : lv_has ls 5 [(0, .ref ma), (1, .int (nI i)), (2, .int qi)] := hl
  refine lv_aload_n hx hb dX4_play_0 rfl (lv_at hl 0 rfl) ?_
  refine lv_iload_n hx hb dX4_play_1 rfl (lv_at hl 1 rfl) ?_
  refine cs_i (As := [.int (nI i)]) (rest := [.ref ma]) ⟨hx, hb, hml, hown, hts⟩ (kX4_isWire l G (nI i)) (va_cwS 1 hts gX4_play_X4_isWire rfl rfl rfl (by decide +kernel) ⟨Nat.le_of_ble_eq_true rfl, Nat.le_of_ble_eq_true rfl⟩) hE hK hP hD hS hA hl.1 [] rfl rfl rfl rfl rfl rfl (Nat.le_of_ble_eq_true rfl) dX4_play_2 ⟨Nat.zero_le _, Nat.zero_le _⟩ (fun H locs hP hD hS => ?_)
  have hP : va_P G.1 vwCl [(ma, .inr (4, [.ref d0, .ref d1, .ref d2, .ref d3, .ref d4, .ref d5, .ref d6, .ref d7, .ref d8, .ref d9, .ref d10, .ref d11, .ref d12, .ref d13, .ref d14, .ref d15, .ref d16, .int cd]))] H := hP
  have hD : va_D A [(ma, .inr (4, [.ref d0, .ref d1, .ref d2, .ref d3, .ref d4, .ref d5, .ref d6, .ref d7, .ref d8, .ref d9, .ref d10, .ref d11, .ref d12, .ref d13, .ref d14, .ref d15, .ref d16, .int cd]))] := hD
  refine bz_eq (tgt := 19) hx hb dX4_play_5 (by decide) (fun h9 => absurd h9 (isW4_1 hi4)) (fun _ => ?_)
  refine lv_iload_n hx hb dX4_play_8 rfl (lv_at hl 2 rfl) ?_
  refine lv_iconst (v := (1:Int32)) hx hb dX4_play_9 (by decide) ?_
  refine bi_lt (tgt := 19) hx hb dX4_play_10 (by decide) (fun h9 => absurd h9 hq) (fun _ => ?_)
  refine lv_iload_n hx hb dX4_play_13 rfl (lv_at hl 2 rfl) ?_
  refine lv_bipush (v := (50:Int32)) hx hb dX4_play_14 (by decide) ?_
  refine bi_le (tgt := 23) hx hb dX4_play_16 (by decide) (fun _ => ?_) (fun h9 => absurd hq2 h9)
  refine lv_iconst (v := (1:Int32)) hx hb dX4_play_19 (by decide) ?_
  refine lv_goto (tgt := 24) hx hb dX4_play_20 (by decide) ?_
  refine lv_iconst (v := (0:Int32)) hx hb dX4_play_24 (by decide) ?_
  refine cv_i (As := [.int (1:Int32), .int (0:Int32)]) (rest := []) (ws' := [(ma, .inr (4, [.ref d0, .ref d1, .ref d2, .ref d3, .ref d4, .ref d5, .ref d6, .ref d7, .ref d8, .ref d9, .ref d10, .ref d11, .ref d12, .ref d13, .ref d14, .ref d15, .ref d16, .int (1:Int32)]))]) ⟨hx, hb, hml, hown, hts⟩ (kX4_refuses10 l G ma d0 d1 d2 d3 d4 d5 d6 d7 d8 d9 d10 d11 d12 d13 d14 d15 d16 cd) (cwV 2 hts gX4_play_X4_refuses rfl rfl rfl (by decide +kernel) ⟨Nat.le_of_ble_eq_true rfl, Nat.le_of_ble_eq_true rfl⟩) (va_recv hK hP (ci := 4) (q0 := 0) rfl rfl) hE hK hP hD hS hA hl.1 [0] rfl rfl rfl rfl rfl rfl (Nat.le_of_ble_eq_true rfl) dX4_play_25 ⟨Nat.zero_le _, Nat.zero_le _⟩ (fun H locs hP hD hS => ?_)
  refine bz_eq (tgt := 33) hx hb dX4_play_28 (by decide) (fun h9 => absurd h9 (by decide)) (fun _ => ?_)
  refine lv_iconst (v := (0:Int32)) hx hb dX4_play_31 (by decide) ?_
  exact rt_i hx hb hr hlocks hP hD hS dX4_play_32 rfl
set_option maxHeartbeats 4000000 in
set_option maxRecDepth 100000 in
theorem kX4_code0 (l : Launch) (G : GT) (ma : Nat) (d0 : Nat) (d1 : Nat) (d2 : Nat) (d3 : Nat) (d4 : Nat) (d5 : Nat) (d6 : Nat) (d7 : Nat) (d8 : Nat) (d9 : Nat) (d10 : Nat) (d11 : Nat) (d12 : Nat) (d13 : Nat) (d14 : Nat) (d15 : Nat) (d16 : Nat) (cd : Int32) (f0 : Nat → Int64) (i : Nat) (hi4 : i < 4) : CL l yX4_code wsX4_code { frames := 1, cells := 0, slots := 0, locals := 22 } G [.ref ma, .int (nI i), .int (0:Int32)] [(ma, .inr (4, [.ref d0, .ref d1, .ref d2, .ref d3, .ref d4, .ref d5, .ref d6, .ref d7, .ref d8, .ref d9, .ref d10, .ref d11, .ref d12, .ref d13, .ref d14, .ref d15, .ref d16, .int cd])), (d0, .inl (G.2.1 1, 4, .inr (.inl f0)))] (f0 i) [(ma, .inr (4, [.ref d0, .ref d1, .ref d2, .ref d3, .ref d4, .ref d5, .ref d6, .ref d7, .ref d8, .ref d9, .ref d10, .ref d11, .ref d12, .ref d13, .ref d14, .ref d15, .ref d16, .int (0:Int32)])), (d0, .inl (G.2.1 1, 4, .inr (.inl f0)))] := by
  refine en_l (cc := cX4_code) (maxL := 4) (ret := (some .long)) (own := RX4) (by decide) rfl rfl (Nat.le_of_ble_eq_true rfl) ?_
  intro p e s m below meth c A ls hx hb hr hts hown hml hlocks hA hK hE hP hD hS hl
  have hl : lv_has ls 4 [(0, .ref ma), (1, .int (nI i)), (2, .int (0:Int32))] := hl
  refine lv_iload_n hx hb dX4_code_0 rfl (lv_at hl 1 rfl) ?_
  refine cs_i (As := [.int (nI i)]) (rest := []) ⟨hx, hb, hml, hown, hts⟩ (kX4_isWire l G (nI i)) (va_cwS 1 hts gX4_code_X4_isWire rfl rfl rfl (by decide +kernel) ⟨Nat.le_of_ble_eq_true rfl, Nat.le_of_ble_eq_true rfl⟩) hE hK hP hD hS hA hl.1 [] rfl rfl rfl rfl rfl rfl (Nat.le_of_ble_eq_true rfl) dX4_code_1 ⟨Nat.zero_le _, Nat.zero_le _⟩ (fun H locs hP hD hS => ?_)
  have hP : va_P G.1 vwCl [(ma, .inr (4, [.ref d0, .ref d1, .ref d2, .ref d3, .ref d4, .ref d5, .ref d6, .ref d7, .ref d8, .ref d9, .ref d10, .ref d11, .ref d12, .ref d13, .ref d14, .ref d15, .ref d16, .int cd])), (d0, .inl (G.2.1 1, 4, .inr (.inl f0)))] H := hP
  have hD : va_D A [(ma, .inr (4, [.ref d0, .ref d1, .ref d2, .ref d3, .ref d4, .ref d5, .ref d6, .ref d7, .ref d8, .ref d9, .ref d10, .ref d11, .ref d12, .ref d13, .ref d14, .ref d15, .ref d16, .int cd])), (d0, .inl (G.2.1 1, 4, .inr (.inl f0)))] := hD
  refine bz_eq (tgt := 16) hx hb dX4_code_4 (by decide) (fun h9 => absurd h9 (isW4_1 hi4)) (fun _ => ?_)
  refine lv_iload_n hx hb dX4_code_7 rfl (lv_at hl 2 rfl) ?_
  refine bz_lt (tgt := 16) hx hb dX4_code_8 (by decide) (fun h9 => absurd h9 (by decide)) (fun _ => ?_)
  refine lv_iload_n hx hb dX4_code_11 rfl (lv_at hl 2 rfl) ?_
  refine lv_iconst (v := (3:Int32)) hx hb dX4_code_12 (by decide) ?_
  refine bi_le (tgt := 20) hx hb dX4_code_13 (by decide) (fun h9 => absurd h9 (by decide)) (fun _ => ?_)
  refine lv_iconst (v := (0:Int32)) hx hb dX4_code_20 (by decide) ?_
  refine lv_istore_n (lv' := [(3, .int (0:Int32)), (0, .ref ma), (1, .int (nI i)), (2, .int (0:Int32))]) hx hb dX4_code_21 rfl hl (by decide) rfl (fun ls hl => ?_)
  refine lv_aload_n hx hb dX4_code_22 rfl (lv_at hl 1 rfl) ?_
  refine lv_iload_n hx hb dX4_code_23 rfl (lv_at hl 0 rfl) ?_
  refine lv_iload_n hx hb dX4_code_24 rfl (lv_at hl 0 rfl) ?_
  refine bz_ne (tgt := 54) hx hb dX4_code_25 (by decide) (fun _ => ?_) (fun h9 => absurd rfl h9)
  refine lv_iload_n hx hb dX4_code_28 rfl (lv_at hl 3 rfl) ?_
  refine lv_iconst (v := (1:Int32)) hx hb dX4_code_29 (by decide) ?_
  refine bi_le (tgt := 54) hx hb dX4_code_30 (by decide) (fun h9 => absurd h9 (by decide)) (fun _ => ?_)
  refine lv_iconst (v := (0:Int32)) hx hb dX4_code_54 (by decide) ?_
  refine cv_i (As := [.int (0:Int32), .int (0:Int32)]) (rest := []) (ws' := [(ma, .inr (4, [.ref d0, .ref d1, .ref d2, .ref d3, .ref d4, .ref d5, .ref d6, .ref d7, .ref d8, .ref d9, .ref d10, .ref d11, .ref d12, .ref d13, .ref d14, .ref d15, .ref d16, .int (0:Int32)])), (d0, .inl (G.2.1 1, 4, .inr (.inl f0)))]) ⟨hx, hb, hml, hown, hts⟩ (kX4_refuses00 l G ma d0 d1 d2 d3 d4 d5 d6 d7 d8 d9 d10 d11 d12 d13 d14 d15 d16 cd) (cwV 2 hts gX4_code_X4_refuses rfl rfl rfl (by decide +kernel) ⟨Nat.le_of_ble_eq_true rfl, Nat.le_of_ble_eq_true rfl⟩) (va_recv hK hP (ci := 4) (q0 := 0) rfl rfl) hE hK hP hD hS hA hl.1 [0] rfl rfl rfl rfl rfl rfl (Nat.le_of_ble_eq_true rfl) dX4_code_55 ⟨Nat.zero_le _, Nat.zero_le _⟩ (fun H locs hP hD hS => ?_)
  refine bz_eq (tgt := 63) hx hb dX4_code_58 (by decide) (fun _ => ?_) (fun h9 => absurd rfl h9)
  refine lv_iload_n hx hb dX4_code_63 rfl (lv_at hl 3 rfl) ?_
  refine bz_ne (tgt := 76) hx hb dX4_code_64 (by decide) (fun _ => ?_) (fun h9 => absurd rfl h9)
  refine lv_aload_n hx hb dX4_code_67 rfl (lv_at hl 1 rfl) ?_
  refine va_get (D := G.1) (ci := 4) (v := .ref d0) (C := RX4) (T := TX4) (N := 18) hx hb hts (by decide +kernel) hown hK hP 0 rfl rfl 0 (by decide) (hts (.fieldLink RX4 7 "PedalBoardModel" "dry" "[J") (by decide +kernel)) (fun _ h9 => h9) rfl dX4_code_68 ?_
  refine lv_iload_n hx hb dX4_code_71 rfl (lv_at hl 2 rfl) ?_
  refine ar_lld hx hb hK hP 1 rfl i rfl (by omega) (by decide) dX4_code_72 ?_
  refine lv_goto (tgt := 110) hx hb dX4_code_73 (by decide) ?_
  exact rt_l hx hb hr hlocks hP hD hS dX4_code_110 rfl
set_option maxHeartbeats 4000000 in
set_option maxRecDepth 100000 in
theorem kX4_code1 (l : Launch) (G : GT) (ma : Nat) (d0 : Nat) (d1 : Nat) (d2 : Nat) (d3 : Nat) (d4 : Nat) (d5 : Nat) (d6 : Nat) (d7 : Nat) (d8 : Nat) (d9 : Nat) (d10 : Nat) (d11 : Nat) (d12 : Nat) (d13 : Nat) (d14 : Nat) (d15 : Nat) (d16 : Nat) (cd : Int32) (f1 : Nat → Int64) (i : Nat) (hi4 : i < 4) : CL l yX4_code wsX4_code { frames := 1, cells := 0, slots := 0, locals := 22 } G [.ref ma, .int (nI i), .int (1:Int32)] [(ma, .inr (4, [.ref d0, .ref d1, .ref d2, .ref d3, .ref d4, .ref d5, .ref d6, .ref d7, .ref d8, .ref d9, .ref d10, .ref d11, .ref d12, .ref d13, .ref d14, .ref d15, .ref d16, .int cd])), (d1, .inl (G.2.1 1, 4, .inr (.inl f1)))] (f1 i) [(ma, .inr (4, [.ref d0, .ref d1, .ref d2, .ref d3, .ref d4, .ref d5, .ref d6, .ref d7, .ref d8, .ref d9, .ref d10, .ref d11, .ref d12, .ref d13, .ref d14, .ref d15, .ref d16, .int (0:Int32)])), (d1, .inl (G.2.1 1, 4, .inr (.inl f1)))] := by
  refine en_l (cc := cX4_code) (maxL := 4) (ret := (some .long)) (own := RX4) (by decide) rfl rfl (Nat.le_of_ble_eq_true rfl) ?_
  intro p e s m below meth c A ls hx hb hr hts hown hml hlocks hA hK hE hP hD hS hl
  have hl : lv_has ls 4 [(0, .ref ma), (1, .int (nI i)), (2, .int (1:Int32))] := hl
  refine lv_iload_n hx hb dX4_code_0 rfl (lv_at hl 1 rfl) ?_
  refine cs_i (As := [.int (nI i)]) (rest := []) ⟨hx, hb, hml, hown, hts⟩ (kX4_isWire l G (nI i)) (va_cwS 1 hts gX4_code_X4_isWire rfl rfl rfl (by decide +kernel) ⟨Nat.le_of_ble_eq_true rfl, Nat.le_of_ble_eq_true rfl⟩) hE hK hP hD hS hA hl.1 [] rfl rfl rfl rfl rfl rfl (Nat.le_of_ble_eq_true rfl) dX4_code_1 ⟨Nat.zero_le _, Nat.zero_le _⟩ (fun H locs hP hD hS => ?_)
  have hP : va_P G.1 vwCl [(ma, .inr (4, [.ref d0, .ref d1, .ref d2, .ref d3, .ref d4, .ref d5, .ref d6, .ref d7, .ref d8, .ref d9, .ref d10, .ref d11, .ref d12, .ref d13, .ref d14, .ref d15, .ref d16, .int cd])), (d1, .inl (G.2.1 1, 4, .inr (.inl f1)))] H := hP
  have hD : va_D A [(ma, .inr (4, [.ref d0, .ref d1, .ref d2, .ref d3, .ref d4, .ref d5, .ref d6, .ref d7, .ref d8, .ref d9, .ref d10, .ref d11, .ref d12, .ref d13, .ref d14, .ref d15, .ref d16, .int cd])), (d1, .inl (G.2.1 1, 4, .inr (.inl f1)))] := hD
  refine bz_eq (tgt := 16) hx hb dX4_code_4 (by decide) (fun h9 => absurd h9 (isW4_1 hi4)) (fun _ => ?_)
  refine lv_iload_n hx hb dX4_code_7 rfl (lv_at hl 2 rfl) ?_
  refine bz_lt (tgt := 16) hx hb dX4_code_8 (by decide) (fun h9 => absurd h9 (by decide)) (fun _ => ?_)
  refine lv_iload_n hx hb dX4_code_11 rfl (lv_at hl 2 rfl) ?_
  refine lv_iconst (v := (3:Int32)) hx hb dX4_code_12 (by decide) ?_
  refine bi_le (tgt := 20) hx hb dX4_code_13 (by decide) (fun h9 => absurd h9 (by decide)) (fun _ => ?_)
  refine lv_iconst (v := (0:Int32)) hx hb dX4_code_20 (by decide) ?_
  refine lv_istore_n (lv' := [(3, .int (0:Int32)), (0, .ref ma), (1, .int (nI i)), (2, .int (1:Int32))]) hx hb dX4_code_21 rfl hl (by decide) rfl (fun ls hl => ?_)
  refine lv_aload_n hx hb dX4_code_22 rfl (lv_at hl 1 rfl) ?_
  refine lv_iload_n hx hb dX4_code_23 rfl (lv_at hl 0 rfl) ?_
  refine lv_iload_n hx hb dX4_code_24 rfl (lv_at hl 0 rfl) ?_
  refine bz_ne (tgt := 54) hx hb dX4_code_25 (by decide) (fun _ => ?_) (fun h9 => absurd rfl h9)
  refine lv_iload_n hx hb dX4_code_28 rfl (lv_at hl 3 rfl) ?_
  refine lv_iconst (v := (1:Int32)) hx hb dX4_code_29 (by decide) ?_
  refine bi_le (tgt := 54) hx hb dX4_code_30 (by decide) (fun h9 => absurd h9 (by decide)) (fun _ => ?_)
  refine lv_iconst (v := (0:Int32)) hx hb dX4_code_54 (by decide) ?_
  refine cv_i (As := [.int (0:Int32), .int (0:Int32)]) (rest := []) (ws' := [(ma, .inr (4, [.ref d0, .ref d1, .ref d2, .ref d3, .ref d4, .ref d5, .ref d6, .ref d7, .ref d8, .ref d9, .ref d10, .ref d11, .ref d12, .ref d13, .ref d14, .ref d15, .ref d16, .int (0:Int32)])), (d1, .inl (G.2.1 1, 4, .inr (.inl f1)))]) ⟨hx, hb, hml, hown, hts⟩ (kX4_refuses00 l G ma d0 d1 d2 d3 d4 d5 d6 d7 d8 d9 d10 d11 d12 d13 d14 d15 d16 cd) (cwV 2 hts gX4_code_X4_refuses rfl rfl rfl (by decide +kernel) ⟨Nat.le_of_ble_eq_true rfl, Nat.le_of_ble_eq_true rfl⟩) (va_recv hK hP (ci := 4) (q0 := 0) rfl rfl) hE hK hP hD hS hA hl.1 [0] rfl rfl rfl rfl rfl rfl (Nat.le_of_ble_eq_true rfl) dX4_code_55 ⟨Nat.zero_le _, Nat.zero_le _⟩ (fun H locs hP hD hS => ?_)
  refine bz_eq (tgt := 63) hx hb dX4_code_58 (by decide) (fun _ => ?_) (fun h9 => absurd rfl h9)
  refine lv_iload_n hx hb dX4_code_63 rfl (lv_at hl 3 rfl) ?_
  refine bz_ne (tgt := 76) hx hb dX4_code_64 (by decide) (fun h9 => absurd h9 (by decide)) (fun _ => ?_)
  refine lv_iload_n hx hb dX4_code_76 rfl (lv_at hl 3 rfl) ?_
  refine lv_iconst (v := (1:Int32)) hx hb dX4_code_77 (by decide) ?_
  refine bi_ne (tgt := 90) hx hb dX4_code_78 (by decide) (fun _ => ?_) (fun h9 => absurd rfl h9)
  refine lv_aload_n hx hb dX4_code_81 rfl (lv_at hl 1 rfl) ?_
  refine va_get (D := G.1) (ci := 4) (v := .ref d1) (C := RX4) (T := TX4) (N := 18) hx hb hts (by decide +kernel) hown hK hP 0 rfl rfl 1 (by decide) (hts (.fieldLink RX4 13 "PedalBoardModel" "wet" "[J") (by decide +kernel)) (fun _ h9 => h9) rfl dX4_code_82 ?_
  refine lv_iload_n hx hb dX4_code_85 rfl (lv_at hl 2 rfl) ?_
  refine ar_lld hx hb hK hP 1 rfl i rfl (by omega) (by decide) dX4_code_86 ?_
  refine lv_goto (tgt := 110) hx hb dX4_code_87 (by decide) ?_
  exact rt_l hx hb hr hlocks hP hD hS dX4_code_110 rfl
set_option maxHeartbeats 4000000 in
set_option maxRecDepth 100000 in
theorem kX4_code2 (l : Launch) (G : GT) (ma : Nat) (d0 : Nat) (d1 : Nat) (d2 : Nat) (d3 : Nat) (d4 : Nat) (d5 : Nat) (d6 : Nat) (d7 : Nat) (d8 : Nat) (d9 : Nat) (d10 : Nat) (d11 : Nat) (d12 : Nat) (d13 : Nat) (d14 : Nat) (d15 : Nat) (d16 : Nat) (cd : Int32) (f2 : Nat → Int64) (f7 : Nat → Int32) (i : Nat) (hi4 : i < 4) (hpk : ¬ f7 i = 0) : CL l yX4_code wsX4_code { frames := 1, cells := 0, slots := 0, locals := 22 } G [.ref ma, .int (nI i), .int (2:Int32)] [(ma, .inr (4, [.ref d0, .ref d1, .ref d2, .ref d3, .ref d4, .ref d5, .ref d6, .ref d7, .ref d8, .ref d9, .ref d10, .ref d11, .ref d12, .ref d13, .ref d14, .ref d15, .ref d16, .int cd])), (d2, .inl (G.2.1 1, 4, .inr (.inl f2))), (d7, .inl (G.2.1 2, 4, .inl f7))] (f2 i) [(ma, .inr (4, [.ref d0, .ref d1, .ref d2, .ref d3, .ref d4, .ref d5, .ref d6, .ref d7, .ref d8, .ref d9, .ref d10, .ref d11, .ref d12, .ref d13, .ref d14, .ref d15, .ref d16, .int (0:Int32)])), (d2, .inl (G.2.1 1, 4, .inr (.inl f2))), (d7, .inl (G.2.1 2, 4, .inl f7))] := by
  refine en_l (cc := cX4_code) (maxL := 4) (ret := (some .long)) (own := RX4) (by decide) rfl rfl (Nat.le_of_ble_eq_true rfl) ?_
  intro p e s m below meth c A ls hx hb hr hts hown hml hlocks hA hK hE hP hD hS hl
  have hl : lv_has ls 4 [(0, .ref ma), (1, .int (nI i)), (2, .int (2:Int32))] := hl
  refine lv_iload_n hx hb dX4_code_0 rfl (lv_at hl 1 rfl) ?_
  refine cs_i (As := [.int (nI i)]) (rest := []) ⟨hx, hb, hml, hown, hts⟩ (kX4_isWire l G (nI i)) (va_cwS 1 hts gX4_code_X4_isWire rfl rfl rfl (by decide +kernel) ⟨Nat.le_of_ble_eq_true rfl, Nat.le_of_ble_eq_true rfl⟩) hE hK hP hD hS hA hl.1 [] rfl rfl rfl rfl rfl rfl (Nat.le_of_ble_eq_true rfl) dX4_code_1 ⟨Nat.zero_le _, Nat.zero_le _⟩ (fun H locs hP hD hS => ?_)
  have hP : va_P G.1 vwCl [(ma, .inr (4, [.ref d0, .ref d1, .ref d2, .ref d3, .ref d4, .ref d5, .ref d6, .ref d7, .ref d8, .ref d9, .ref d10, .ref d11, .ref d12, .ref d13, .ref d14, .ref d15, .ref d16, .int cd])), (d2, .inl (G.2.1 1, 4, .inr (.inl f2))), (d7, .inl (G.2.1 2, 4, .inl f7))] H := hP
  have hD : va_D A [(ma, .inr (4, [.ref d0, .ref d1, .ref d2, .ref d3, .ref d4, .ref d5, .ref d6, .ref d7, .ref d8, .ref d9, .ref d10, .ref d11, .ref d12, .ref d13, .ref d14, .ref d15, .ref d16, .int cd])), (d2, .inl (G.2.1 1, 4, .inr (.inl f2))), (d7, .inl (G.2.1 2, 4, .inl f7))] := hD
  refine bz_eq (tgt := 16) hx hb dX4_code_4 (by decide) (fun h9 => absurd h9 (isW4_1 hi4)) (fun _ => ?_)
  refine lv_iload_n hx hb dX4_code_7 rfl (lv_at hl 2 rfl) ?_
  refine bz_lt (tgt := 16) hx hb dX4_code_8 (by decide) (fun h9 => absurd h9 (by decide)) (fun _ => ?_)
  refine lv_iload_n hx hb dX4_code_11 rfl (lv_at hl 2 rfl) ?_
  refine lv_iconst (v := (3:Int32)) hx hb dX4_code_12 (by decide) ?_
  refine bi_le (tgt := 20) hx hb dX4_code_13 (by decide) (fun h9 => absurd h9 (by decide)) (fun _ => ?_)
  refine lv_iconst (v := (0:Int32)) hx hb dX4_code_20 (by decide) ?_
  refine lv_istore_n (lv' := [(3, .int (0:Int32)), (0, .ref ma), (1, .int (nI i)), (2, .int (2:Int32))]) hx hb dX4_code_21 rfl hl (by decide) rfl (fun ls hl => ?_)
  refine lv_aload_n hx hb dX4_code_22 rfl (lv_at hl 1 rfl) ?_
  refine lv_iload_n hx hb dX4_code_23 rfl (lv_at hl 0 rfl) ?_
  refine lv_iload_n hx hb dX4_code_24 rfl (lv_at hl 0 rfl) ?_
  refine bz_ne (tgt := 54) hx hb dX4_code_25 (by decide) (fun _ => ?_) (fun h9 => absurd rfl h9)
  refine lv_iload_n hx hb dX4_code_28 rfl (lv_at hl 3 rfl) ?_
  refine lv_iconst (v := (1:Int32)) hx hb dX4_code_29 (by decide) ?_
  refine bi_le (tgt := 54) hx hb dX4_code_30 (by decide) (fun _ => ?_) (fun h9 => absurd (by decide) h9)
  refine lv_aload_n hx hb dX4_code_33 rfl (lv_at hl 1 rfl) ?_
  refine va_get (D := G.1) (ci := 4) (v := .ref d7) (C := RX4) (T := TX4) (N := 18) hx hb hts (by decide +kernel) hown hK hP 0 rfl rfl 7 (by decide) (hts (.fieldLink RX4 33 "PedalBoardModel" "peaked" "[Z") (by decide +kernel)) (fun _ h9 => h9) rfl dX4_code_34 ?_
  refine lv_iload_n hx hb dX4_code_37 rfl (lv_at hl 0 rfl) ?_
  refine bz_eq (tgt := 45) hx hb dX4_code_38 (by decide) (fun _ => ?_) (fun h9 => absurd rfl h9)
  refine lv_iload_n hx hb dX4_code_45 rfl (lv_at hl 2 rfl) ?_
  refine ar_zld hx hb hK hP 2 rfl i rfl (by omega) (by decide) dX4_code_46 ?_
  refine bz_ne (tgt := 54) hx hb dX4_code_47 (by decide) (fun h9 => absurd h9 hpk) (fun _ => ?_)
  refine lv_iconst (v := (0:Int32)) hx hb dX4_code_54 (by decide) ?_
  refine cv_i (As := [.int (0:Int32), .int (0:Int32)]) (rest := []) (ws' := [(ma, .inr (4, [.ref d0, .ref d1, .ref d2, .ref d3, .ref d4, .ref d5, .ref d6, .ref d7, .ref d8, .ref d9, .ref d10, .ref d11, .ref d12, .ref d13, .ref d14, .ref d15, .ref d16, .int (0:Int32)])), (d2, .inl (G.2.1 1, 4, .inr (.inl f2))), (d7, .inl (G.2.1 2, 4, .inl f7))]) ⟨hx, hb, hml, hown, hts⟩ (kX4_refuses00 l G ma d0 d1 d2 d3 d4 d5 d6 d7 d8 d9 d10 d11 d12 d13 d14 d15 d16 cd) (cwV 2 hts gX4_code_X4_refuses rfl rfl rfl (by decide +kernel) ⟨Nat.le_of_ble_eq_true rfl, Nat.le_of_ble_eq_true rfl⟩) (va_recv hK hP (ci := 4) (q0 := 0) rfl rfl) hE hK hP hD hS hA hl.1 [0] rfl rfl rfl rfl rfl rfl (Nat.le_of_ble_eq_true rfl) dX4_code_55 ⟨Nat.zero_le _, Nat.zero_le _⟩ (fun H locs hP hD hS => ?_)
  refine bz_eq (tgt := 63) hx hb dX4_code_58 (by decide) (fun _ => ?_) (fun h9 => absurd rfl h9)
  refine lv_iload_n hx hb dX4_code_63 rfl (lv_at hl 3 rfl) ?_
  refine bz_ne (tgt := 76) hx hb dX4_code_64 (by decide) (fun h9 => absurd h9 (by decide)) (fun _ => ?_)
  refine lv_iload_n hx hb dX4_code_76 rfl (lv_at hl 3 rfl) ?_
  refine lv_iconst (v := (1:Int32)) hx hb dX4_code_77 (by decide) ?_
  refine bi_ne (tgt := 90) hx hb dX4_code_78 (by decide) (fun h9 => absurd h9 (by decide)) (fun _ => ?_)
  refine lv_iload_n hx hb dX4_code_90 rfl (lv_at hl 3 rfl) ?_
  refine lv_iconst (v := (2:Int32)) hx hb dX4_code_91 (by decide) ?_
  refine bi_ne (tgt := 104) hx hb dX4_code_92 (by decide) (fun _ => ?_) (fun h9 => absurd rfl h9)
  refine lv_aload_n hx hb dX4_code_95 rfl (lv_at hl 1 rfl) ?_
  refine va_get (D := G.1) (ci := 4) (v := .ref d2) (C := RX4) (T := TX4) (N := 18) hx hb hts (by decide +kernel) hown hK hP 0 rfl rfl 2 (by decide) (hts (.fieldLink RX4 16 "PedalBoardModel" "most" "[J") (by decide +kernel)) (fun _ h9 => h9) rfl dX4_code_96 ?_
  refine lv_iload_n hx hb dX4_code_99 rfl (lv_at hl 2 rfl) ?_
  refine ar_lld hx hb hK hP 1 rfl i rfl (by omega) (by decide) dX4_code_100 ?_
  refine lv_goto (tgt := 110) hx hb dX4_code_101 (by decide) ?_
  exact rt_l hx hb hr hlocks hP hD hS dX4_code_110 rfl
set_option maxHeartbeats 4000000 in
set_option maxRecDepth 100000 in
theorem kX4_code3 (l : Launch) (G : GT) (ma : Nat) (d0 : Nat) (d1 : Nat) (d2 : Nat) (d3 : Nat) (d4 : Nat) (d5 : Nat) (d6 : Nat) (d7 : Nat) (d8 : Nat) (d9 : Nat) (d10 : Nat) (d11 : Nat) (d12 : Nat) (d13 : Nat) (d14 : Nat) (d15 : Nat) (d16 : Nat) (cd : Int32) (f3 : Nat → Int64) (f7 : Nat → Int32) (i : Nat) (hi4 : i < 4) (hpk : ¬ f7 i = 0) : CL l yX4_code wsX4_code { frames := 1, cells := 0, slots := 0, locals := 22 } G [.ref ma, .int (nI i), .int (3:Int32)] [(ma, .inr (4, [.ref d0, .ref d1, .ref d2, .ref d3, .ref d4, .ref d5, .ref d6, .ref d7, .ref d8, .ref d9, .ref d10, .ref d11, .ref d12, .ref d13, .ref d14, .ref d15, .ref d16, .int cd])), (d3, .inl (G.2.1 1, 4, .inr (.inl f3))), (d7, .inl (G.2.1 2, 4, .inl f7))] (f3 i) [(ma, .inr (4, [.ref d0, .ref d1, .ref d2, .ref d3, .ref d4, .ref d5, .ref d6, .ref d7, .ref d8, .ref d9, .ref d10, .ref d11, .ref d12, .ref d13, .ref d14, .ref d15, .ref d16, .int (0:Int32)])), (d3, .inl (G.2.1 1, 4, .inr (.inl f3))), (d7, .inl (G.2.1 2, 4, .inl f7))] := by
  refine en_l (cc := cX4_code) (maxL := 4) (ret := (some .long)) (own := RX4) (by decide) rfl rfl (Nat.le_of_ble_eq_true rfl) ?_
  intro p e s m below meth c A ls hx hb hr hts hown hml hlocks hA hK hE hP hD hS hl
  have hl : lv_has ls 4 [(0, .ref ma), (1, .int (nI i)), (2, .int (3:Int32))] := hl
  refine lv_iload_n hx hb dX4_code_0 rfl (lv_at hl 1 rfl) ?_
  refine cs_i (As := [.int (nI i)]) (rest := []) ⟨hx, hb, hml, hown, hts⟩ (kX4_isWire l G (nI i)) (va_cwS 1 hts gX4_code_X4_isWire rfl rfl rfl (by decide +kernel) ⟨Nat.le_of_ble_eq_true rfl, Nat.le_of_ble_eq_true rfl⟩) hE hK hP hD hS hA hl.1 [] rfl rfl rfl rfl rfl rfl (Nat.le_of_ble_eq_true rfl) dX4_code_1 ⟨Nat.zero_le _, Nat.zero_le _⟩ (fun H locs hP hD hS => ?_)
  have hP : va_P G.1 vwCl [(ma, .inr (4, [.ref d0, .ref d1, .ref d2, .ref d3, .ref d4, .ref d5, .ref d6, .ref d7, .ref d8, .ref d9, .ref d10, .ref d11, .ref d12, .ref d13, .ref d14, .ref d15, .ref d16, .int cd])), (d3, .inl (G.2.1 1, 4, .inr (.inl f3))), (d7, .inl (G.2.1 2, 4, .inl f7))] H := hP
  have hD : va_D A [(ma, .inr (4, [.ref d0, .ref d1, .ref d2, .ref d3, .ref d4, .ref d5, .ref d6, .ref d7, .ref d8, .ref d9, .ref d10, .ref d11, .ref d12, .ref d13, .ref d14, .ref d15, .ref d16, .int cd])), (d3, .inl (G.2.1 1, 4, .inr (.inl f3))), (d7, .inl (G.2.1 2, 4, .inl f7))] := hD
  refine bz_eq (tgt := 16) hx hb dX4_code_4 (by decide) (fun h9 => absurd h9 (isW4_1 hi4)) (fun _ => ?_)
  refine lv_iload_n hx hb dX4_code_7 rfl (lv_at hl 2 rfl) ?_
  refine bz_lt (tgt := 16) hx hb dX4_code_8 (by decide) (fun h9 => absurd h9 (by decide)) (fun _ => ?_)
  refine lv_iload_n hx hb dX4_code_11 rfl (lv_at hl 2 rfl) ?_
  refine lv_iconst (v := (3:Int32)) hx hb dX4_code_12 (by decide) ?_
  refine bi_le (tgt := 20) hx hb dX4_code_13 (by decide) (fun h9 => absurd h9 (by decide)) (fun _ => ?_)
  refine lv_iconst (v := (0:Int32)) hx hb dX4_code_20 (by decide) ?_
  refine lv_istore_n (lv' := [(3, .int (0:Int32)), (0, .ref ma), (1, .int (nI i)), (2, .int (3:Int32))]) hx hb dX4_code_21 rfl hl (by decide) rfl (fun ls hl => ?_)
  refine lv_aload_n hx hb dX4_code_22 rfl (lv_at hl 1 rfl) ?_
  refine lv_iload_n hx hb dX4_code_23 rfl (lv_at hl 0 rfl) ?_
  refine lv_iload_n hx hb dX4_code_24 rfl (lv_at hl 0 rfl) ?_
  refine bz_ne (tgt := 54) hx hb dX4_code_25 (by decide) (fun _ => ?_) (fun h9 => absurd rfl h9)
  refine lv_iload_n hx hb dX4_code_28 rfl (lv_at hl 3 rfl) ?_
  refine lv_iconst (v := (1:Int32)) hx hb dX4_code_29 (by decide) ?_
  refine bi_le (tgt := 54) hx hb dX4_code_30 (by decide) (fun _ => ?_) (fun h9 => absurd (by decide) h9)
  refine lv_aload_n hx hb dX4_code_33 rfl (lv_at hl 1 rfl) ?_
  refine va_get (D := G.1) (ci := 4) (v := .ref d7) (C := RX4) (T := TX4) (N := 18) hx hb hts (by decide +kernel) hown hK hP 0 rfl rfl 7 (by decide) (hts (.fieldLink RX4 33 "PedalBoardModel" "peaked" "[Z") (by decide +kernel)) (fun _ h9 => h9) rfl dX4_code_34 ?_
  refine lv_iload_n hx hb dX4_code_37 rfl (lv_at hl 0 rfl) ?_
  refine bz_eq (tgt := 45) hx hb dX4_code_38 (by decide) (fun _ => ?_) (fun h9 => absurd rfl h9)
  refine lv_iload_n hx hb dX4_code_45 rfl (lv_at hl 2 rfl) ?_
  refine ar_zld hx hb hK hP 2 rfl i rfl (by omega) (by decide) dX4_code_46 ?_
  refine bz_ne (tgt := 54) hx hb dX4_code_47 (by decide) (fun h9 => absurd h9 hpk) (fun _ => ?_)
  refine lv_iconst (v := (0:Int32)) hx hb dX4_code_54 (by decide) ?_
  refine cv_i (As := [.int (0:Int32), .int (0:Int32)]) (rest := []) (ws' := [(ma, .inr (4, [.ref d0, .ref d1, .ref d2, .ref d3, .ref d4, .ref d5, .ref d6, .ref d7, .ref d8, .ref d9, .ref d10, .ref d11, .ref d12, .ref d13, .ref d14, .ref d15, .ref d16, .int (0:Int32)])), (d3, .inl (G.2.1 1, 4, .inr (.inl f3))), (d7, .inl (G.2.1 2, 4, .inl f7))]) ⟨hx, hb, hml, hown, hts⟩ (kX4_refuses00 l G ma d0 d1 d2 d3 d4 d5 d6 d7 d8 d9 d10 d11 d12 d13 d14 d15 d16 cd) (cwV 2 hts gX4_code_X4_refuses rfl rfl rfl (by decide +kernel) ⟨Nat.le_of_ble_eq_true rfl, Nat.le_of_ble_eq_true rfl⟩) (va_recv hK hP (ci := 4) (q0 := 0) rfl rfl) hE hK hP hD hS hA hl.1 [0] rfl rfl rfl rfl rfl rfl (Nat.le_of_ble_eq_true rfl) dX4_code_55 ⟨Nat.zero_le _, Nat.zero_le _⟩ (fun H locs hP hD hS => ?_)
  refine bz_eq (tgt := 63) hx hb dX4_code_58 (by decide) (fun _ => ?_) (fun h9 => absurd rfl h9)
  refine lv_iload_n hx hb dX4_code_63 rfl (lv_at hl 3 rfl) ?_
  refine bz_ne (tgt := 76) hx hb dX4_code_64 (by decide) (fun h9 => absurd h9 (by decide)) (fun _ => ?_)
  refine lv_iload_n hx hb dX4_code_76 rfl (lv_at hl 3 rfl) ?_
  refine lv_iconst (v := (1:Int32)) hx hb dX4_code_77 (by decide) ?_
  refine bi_ne (tgt := 90) hx hb dX4_code_78 (by decide) (fun h9 => absurd h9 (by decide)) (fun _ => ?_)
  refine lv_iload_n hx hb dX4_code_90 rfl (lv_at hl 3 rfl) ?_
  refine lv_iconst (v := (2:Int32)) hx hb dX4_code_91 (by decide) ?_
  refine bi_ne (tgt := 104) hx hb dX4_code_92 (by decide) (fun h9 => absurd h9 (by decide)) (fun _ => ?_)
  refine lv_aload_n hx hb dX4_code_104 rfl (lv_at hl 1 rfl) ?_
  refine va_get (D := G.1) (ci := 4) (v := .ref d3) (C := RX4) (T := TX4) (N := 18) hx hb hts (by decide +kernel) hown hK hP 0 rfl rfl 3 (by decide) (hts (.fieldLink RX4 19 "PedalBoardModel" "least" "[J") (by decide +kernel)) (fun _ h9 => h9) rfl dX4_code_105 ?_
  refine lv_iload_n hx hb dX4_code_108 rfl (lv_at hl 2 rfl) ?_
  refine ar_lld hx hb hK hP 1 rfl i rfl (by omega) (by decide) dX4_code_109 ?_
  exact rt_l hx hb hr hlocks hP hD hS dX4_code_110 rfl
set_option maxHeartbeats 4000000 in
set_option maxRecDepth 100000 in
theorem kX4_codeB0 (l : Launch) (G : GT) (ma : Nat) (d0 : Nat) (d1 : Nat) (d2 : Nat) (d3 : Nat) (d4 : Nat) (d5 : Nat) (d6 : Nat) (d7 : Nat) (d8 : Nat) (d9 : Nat) (d10 : Nat) (d11 : Nat) (d12 : Nat) (d13 : Nat) (d14 : Nat) (d15 : Nat) (d16 : Nat) (cd : Int32) (wi : Int32) (wh : Int32) (hwi : fX4_isWire wi = 0) : CL l yX4_code wsX4_code { frames := 1, cells := 0, slots := 0, locals := 22 } G [.ref ma, .int wi, .int wh] [(ma, .inr (4, [.ref d0, .ref d1, .ref d2, .ref d3, .ref d4, .ref d5, .ref d6, .ref d7, .ref d8, .ref d9, .ref d10, .ref d11, .ref d12, .ref d13, .ref d14, .ref d15, .ref d16, .int cd]))] (0:Int64) [(ma, .inr (4, [.ref d0, .ref d1, .ref d2, .ref d3, .ref d4, .ref d5, .ref d6, .ref d7, .ref d8, .ref d9, .ref d10, .ref d11, .ref d12, .ref d13, .ref d14, .ref d15, .ref d16, .int (1:Int32)]))] := by
  refine en_l (cc := cX4_code) (maxL := 4) (ret := (some .long)) (own := RX4) (by decide) rfl rfl (Nat.le_of_ble_eq_true rfl) ?_
  intro p e s m below meth c A ls hx hb hr hts hown hml hlocks hA hK hE hP hD hS hl
  have hl : lv_has ls 4 [(0, .ref ma), (1, .int wi), (2, .int wh)] := hl
  refine lv_iload_n hx hb dX4_code_0 rfl (lv_at hl 1 rfl) ?_
  refine cs_i (As := [.int wi]) (rest := []) ⟨hx, hb, hml, hown, hts⟩ (kX4_isWire l G wi) (va_cwS 1 hts gX4_code_X4_isWire rfl rfl rfl (by decide +kernel) ⟨Nat.le_of_ble_eq_true rfl, Nat.le_of_ble_eq_true rfl⟩) hE hK hP hD hS hA hl.1 [] rfl rfl rfl rfl rfl rfl (Nat.le_of_ble_eq_true rfl) dX4_code_1 ⟨Nat.zero_le _, Nat.zero_le _⟩ (fun H locs hP hD hS => ?_)
  have hP : va_P G.1 vwCl [(ma, .inr (4, [.ref d0, .ref d1, .ref d2, .ref d3, .ref d4, .ref d5, .ref d6, .ref d7, .ref d8, .ref d9, .ref d10, .ref d11, .ref d12, .ref d13, .ref d14, .ref d15, .ref d16, .int cd]))] H := hP
  have hD : va_D A [(ma, .inr (4, [.ref d0, .ref d1, .ref d2, .ref d3, .ref d4, .ref d5, .ref d6, .ref d7, .ref d8, .ref d9, .ref d10, .ref d11, .ref d12, .ref d13, .ref d14, .ref d15, .ref d16, .int cd]))] := hD
  refine bz_eq (tgt := 16) hx hb dX4_code_4 (by decide) (fun _ => ?_) (fun h9 => absurd hwi h9)
  refine lv_iconst (v := (1:Int32)) hx hb dX4_code_16 (by decide) ?_
  refine lv_goto (tgt := 21) hx hb dX4_code_17 (by decide) ?_
  refine lv_istore_n (lv' := [(3, .int (1:Int32)), (0, .ref ma), (1, .int wi), (2, .int wh)]) hx hb dX4_code_21 rfl hl (by decide) rfl (fun ls hl => ?_)
  refine lv_aload_n hx hb dX4_code_22 rfl (lv_at hl 1 rfl) ?_
  refine lv_iload_n hx hb dX4_code_23 rfl (lv_at hl 0 rfl) ?_
  refine lv_iload_n hx hb dX4_code_24 rfl (lv_at hl 0 rfl) ?_
  refine bz_ne (tgt := 54) hx hb dX4_code_25 (by decide) (fun h9 => absurd h9 (by decide)) (fun _ => ?_)
  refine lv_iconst (v := (0:Int32)) hx hb dX4_code_54 (by decide) ?_
  refine cv_i (As := [.int (1:Int32), .int (0:Int32)]) (rest := []) (ws' := [(ma, .inr (4, [.ref d0, .ref d1, .ref d2, .ref d3, .ref d4, .ref d5, .ref d6, .ref d7, .ref d8, .ref d9, .ref d10, .ref d11, .ref d12, .ref d13, .ref d14, .ref d15, .ref d16, .int (1:Int32)]))]) ⟨hx, hb, hml, hown, hts⟩ (kX4_refuses10 l G ma d0 d1 d2 d3 d4 d5 d6 d7 d8 d9 d10 d11 d12 d13 d14 d15 d16 cd) (cwV 2 hts gX4_code_X4_refuses rfl rfl rfl (by decide +kernel) ⟨Nat.le_of_ble_eq_true rfl, Nat.le_of_ble_eq_true rfl⟩) (va_recv hK hP (ci := 4) (q0 := 0) rfl rfl) hE hK hP hD hS hA hl.1 [0] rfl rfl rfl rfl rfl rfl (Nat.le_of_ble_eq_true rfl) dX4_code_55 ⟨Nat.zero_le _, Nat.zero_le _⟩ (fun H locs hP hD hS => ?_)
  refine bz_eq (tgt := 63) hx hb dX4_code_58 (by decide) (fun h9 => absurd h9 (by decide)) (fun _ => ?_)
  refine lv_lconst (v := (0:Int64)) hx hb dX4_code_61 (by decide) ?_
  exact rt_l hx hb hr hlocks hP hD hS dX4_code_62 rfl
set_option maxHeartbeats 4000000 in
set_option maxRecDepth 100000 in
theorem kX4_codeB1 (l : Launch) (G : GT) (ma : Nat) (d0 : Nat) (d1 : Nat) (d2 : Nat) (d3 : Nat) (d4 : Nat) (d5 : Nat) (d6 : Nat) (d7 : Nat) (d8 : Nat) (d9 : Nat) (d10 : Nat) (d11 : Nat) (d12 : Nat) (d13 : Nat) (d14 : Nat) (d15 : Nat) (d16 : Nat) (cd : Int32) (i : Nat) (wh : Int32) (hi4 : i < 4) (hq : wh < 0) : CL l yX4_code wsX4_code { frames := 1, cells := 0, slots := 0, locals := 22 } G [.ref ma, .int (nI i), .int wh] [(ma, .inr (4, [.ref d0, .ref d1, .ref d2, .ref d3, .ref d4, .ref d5, .ref d6, .ref d7, .ref d8, .ref d9, .ref d10, .ref d11, .ref d12, .ref d13, .ref d14, .ref d15, .ref d16, .int cd]))] (0:Int64) [(ma, .inr (4, [.ref d0, .ref d1, .ref d2, .ref d3, .ref d4, .ref d5, .ref d6, .ref d7, .ref d8, .ref d9, .ref d10, .ref d11, .ref d12, .ref d13, .ref d14, .ref d15, .ref d16, .int (1:Int32)]))] := by
  refine en_l (cc := cX4_code) (maxL := 4) (ret := (some .long)) (own := RX4) (by decide) rfl rfl (Nat.le_of_ble_eq_true rfl) ?_
  intro p e s m below meth c A ls hx hb hr hts hown hml hlocks hA hK hE hP hD hS hl
  have hl : lv_has ls 4 [(0, .ref ma), (1, .int (nI i)), (2, .int wh)] := hl
  refine lv_iload_n hx hb dX4_code_0 rfl (lv_at hl 1 rfl) ?_
  refine cs_i (As := [.int (nI i)]) (rest := []) ⟨hx, hb, hml, hown, hts⟩ (kX4_isWire l G (nI i)) (va_cwS 1 hts gX4_code_X4_isWire rfl rfl rfl (by decide +kernel) ⟨Nat.le_of_ble_eq_true rfl, Nat.le_of_ble_eq_true rfl⟩) hE hK hP hD hS hA hl.1 [] rfl rfl rfl rfl rfl rfl (Nat.le_of_ble_eq_true rfl) dX4_code_1 ⟨Nat.zero_le _, Nat.zero_le _⟩ (fun H locs hP hD hS => ?_)
  have hP : va_P G.1 vwCl [(ma, .inr (4, [.ref d0, .ref d1, .ref d2, .ref d3, .ref d4, .ref d5, .ref d6, .ref d7, .ref d8, .ref d9, .ref d10, .ref d11, .ref d12, .ref d13, .ref d14, .ref d15, .ref d16, .int cd]))] H := hP
  have hD : va_D A [(ma, .inr (4, [.ref d0, .ref d1, .ref d2, .ref d3, .ref d4, .ref d5, .ref d6, .ref d7, .ref d8, .ref d9, .ref d10, .ref d11, .ref d12, .ref d13, .ref d14, .ref d15, .ref d16, .int cd]))] := hD
  refine bz_eq (tgt := 16) hx hb dX4_code_4 (by decide) (fun h9 => absurd h9 (isW4_1 hi4)) (fun _ => ?_)
  refine lv_iload_n hx hb dX4_code_7 rfl (lv_at hl 2 rfl) ?_
  refine bz_lt (tgt := 16) hx hb dX4_code_8 (by decide) (fun _ => ?_) (fun h9 => absurd hq h9)
  refine lv_iconst (v := (1:Int32)) hx hb dX4_code_16 (by decide) ?_
  refine lv_goto (tgt := 21) hx hb dX4_code_17 (by decide) ?_
  refine lv_istore_n (lv' := [(3, .int (1:Int32)), (0, .ref ma), (1, .int (nI i)), (2, .int wh)]) hx hb dX4_code_21 rfl hl (by decide) rfl (fun ls hl => ?_)
  refine lv_aload_n hx hb dX4_code_22 rfl (lv_at hl 1 rfl) ?_
  refine lv_iload_n hx hb dX4_code_23 rfl (lv_at hl 0 rfl) ?_
  refine lv_iload_n hx hb dX4_code_24 rfl (lv_at hl 0 rfl) ?_
  refine bz_ne (tgt := 54) hx hb dX4_code_25 (by decide) (fun h9 => absurd h9 (by decide)) (fun _ => ?_)
  refine lv_iconst (v := (0:Int32)) hx hb dX4_code_54 (by decide) ?_
  refine cv_i (As := [.int (1:Int32), .int (0:Int32)]) (rest := []) (ws' := [(ma, .inr (4, [.ref d0, .ref d1, .ref d2, .ref d3, .ref d4, .ref d5, .ref d6, .ref d7, .ref d8, .ref d9, .ref d10, .ref d11, .ref d12, .ref d13, .ref d14, .ref d15, .ref d16, .int (1:Int32)]))]) ⟨hx, hb, hml, hown, hts⟩ (kX4_refuses10 l G ma d0 d1 d2 d3 d4 d5 d6 d7 d8 d9 d10 d11 d12 d13 d14 d15 d16 cd) (cwV 2 hts gX4_code_X4_refuses rfl rfl rfl (by decide +kernel) ⟨Nat.le_of_ble_eq_true rfl, Nat.le_of_ble_eq_true rfl⟩) (va_recv hK hP (ci := 4) (q0 := 0) rfl rfl) hE hK hP hD hS hA hl.1 [0] rfl rfl rfl rfl rfl rfl (Nat.le_of_ble_eq_true rfl) dX4_code_55 ⟨Nat.zero_le _, Nat.zero_le _⟩ (fun H locs hP hD hS => ?_)
  refine bz_eq (tgt := 63) hx hb dX4_code_58 (by decide) (fun h9 => absurd h9 (by decide)) (fun _ => ?_)
  refine lv_lconst (v := (0:Int64)) hx hb dX4_code_61 (by decide) ?_
  exact rt_l hx hb hr hlocks hP hD hS dX4_code_62 rfl
set_option maxHeartbeats 4000000 in
set_option maxRecDepth 100000 in
theorem kX4_codeB2 (l : Launch) (G : GT) (ma : Nat) (d0 : Nat) (d1 : Nat) (d2 : Nat) (d3 : Nat) (d4 : Nat) (d5 : Nat) (d6 : Nat) (d7 : Nat) (d8 : Nat) (d9 : Nat) (d10 : Nat) (d11 : Nat) (d12 : Nat) (d13 : Nat) (d14 : Nat) (d15 : Nat) (d16 : Nat) (cd : Int32) (i : Nat) (wh : Int32) (hi4 : i < 4) (hq : ¬ wh < 0) (hq2 : (3:Int32) < wh) : CL l yX4_code wsX4_code { frames := 1, cells := 0, slots := 0, locals := 22 } G [.ref ma, .int (nI i), .int wh] [(ma, .inr (4, [.ref d0, .ref d1, .ref d2, .ref d3, .ref d4, .ref d5, .ref d6, .ref d7, .ref d8, .ref d9, .ref d10, .ref d11, .ref d12, .ref d13, .ref d14, .ref d15, .ref d16, .int cd]))] (0:Int64) [(ma, .inr (4, [.ref d0, .ref d1, .ref d2, .ref d3, .ref d4, .ref d5, .ref d6, .ref d7, .ref d8, .ref d9, .ref d10, .ref d11, .ref d12, .ref d13, .ref d14, .ref d15, .ref d16, .int (1:Int32)]))] := by
  refine en_l (cc := cX4_code) (maxL := 4) (ret := (some .long)) (own := RX4) (by decide) rfl rfl (Nat.le_of_ble_eq_true rfl) ?_
  intro p e s m below meth c A ls hx hb hr hts hown hml hlocks hA hK hE hP hD hS hl
  have hl : lv_has ls 4 [(0, .ref ma), (1, .int (nI i)), (2, .int wh)] := hl
  refine lv_iload_n hx hb dX4_code_0 rfl (lv_at hl 1 rfl) ?_
  refine cs_i (As := [.int (nI i)]) (rest := []) ⟨hx, hb, hml, hown, hts⟩ (kX4_isWire l G (nI i)) (va_cwS 1 hts gX4_code_X4_isWire rfl rfl rfl (by decide +kernel) ⟨Nat.le_of_ble_eq_true rfl, Nat.le_of_ble_eq_true rfl⟩) hE hK hP hD hS hA hl.1 [] rfl rfl rfl rfl rfl rfl (Nat.le_of_ble_eq_true rfl) dX4_code_1 ⟨Nat.zero_le _, Nat.zero_le _⟩ (fun H locs hP hD hS => ?_)
  have hP : va_P G.1 vwCl [(ma, .inr (4, [.ref d0, .ref d1, .ref d2, .ref d3, .ref d4, .ref d5, .ref d6, .ref d7, .ref d8, .ref d9, .ref d10, .ref d11, .ref d12, .ref d13, .ref d14, .ref d15, .ref d16, .int cd]))] H := hP
  have hD : va_D A [(ma, .inr (4, [.ref d0, .ref d1, .ref d2, .ref d3, .ref d4, .ref d5, .ref d6, .ref d7, .ref d8, .ref d9, .ref d10, .ref d11, .ref d12, .ref d13, .ref d14, .ref d15, .ref d16, .int cd]))] := hD
  refine bz_eq (tgt := 16) hx hb dX4_code_4 (by decide) (fun h9 => absurd h9 (isW4_1 hi4)) (fun _ => ?_)
  refine lv_iload_n hx hb dX4_code_7 rfl (lv_at hl 2 rfl) ?_
  refine bz_lt (tgt := 16) hx hb dX4_code_8 (by decide) (fun h9 => absurd h9 hq) (fun _ => ?_)
  refine lv_iload_n hx hb dX4_code_11 rfl (lv_at hl 2 rfl) ?_
  refine lv_iconst (v := (3:Int32)) hx hb dX4_code_12 (by decide) ?_
  refine bi_le (tgt := 20) hx hb dX4_code_13 (by decide) (fun _ => ?_) (fun h9 => absurd hq2 h9)
  refine lv_iconst (v := (1:Int32)) hx hb dX4_code_16 (by decide) ?_
  refine lv_goto (tgt := 21) hx hb dX4_code_17 (by decide) ?_
  refine lv_istore_n (lv' := [(3, .int (1:Int32)), (0, .ref ma), (1, .int (nI i)), (2, .int wh)]) hx hb dX4_code_21 rfl hl (by decide) rfl (fun ls hl => ?_)
  refine lv_aload_n hx hb dX4_code_22 rfl (lv_at hl 1 rfl) ?_
  refine lv_iload_n hx hb dX4_code_23 rfl (lv_at hl 0 rfl) ?_
  refine lv_iload_n hx hb dX4_code_24 rfl (lv_at hl 0 rfl) ?_
  refine bz_ne (tgt := 54) hx hb dX4_code_25 (by decide) (fun h9 => absurd h9 (by decide)) (fun _ => ?_)
  refine lv_iconst (v := (0:Int32)) hx hb dX4_code_54 (by decide) ?_
  refine cv_i (As := [.int (1:Int32), .int (0:Int32)]) (rest := []) (ws' := [(ma, .inr (4, [.ref d0, .ref d1, .ref d2, .ref d3, .ref d4, .ref d5, .ref d6, .ref d7, .ref d8, .ref d9, .ref d10, .ref d11, .ref d12, .ref d13, .ref d14, .ref d15, .ref d16, .int (1:Int32)]))]) ⟨hx, hb, hml, hown, hts⟩ (kX4_refuses10 l G ma d0 d1 d2 d3 d4 d5 d6 d7 d8 d9 d10 d11 d12 d13 d14 d15 d16 cd) (cwV 2 hts gX4_code_X4_refuses rfl rfl rfl (by decide +kernel) ⟨Nat.le_of_ble_eq_true rfl, Nat.le_of_ble_eq_true rfl⟩) (va_recv hK hP (ci := 4) (q0 := 0) rfl rfl) hE hK hP hD hS hA hl.1 [0] rfl rfl rfl rfl rfl rfl (Nat.le_of_ble_eq_true rfl) dX4_code_55 ⟨Nat.zero_le _, Nat.zero_le _⟩ (fun H locs hP hD hS => ?_)
  refine bz_eq (tgt := 63) hx hb dX4_code_58 (by decide) (fun h9 => absurd h9 (by decide)) (fun _ => ?_)
  refine lv_lconst (v := (0:Int64)) hx hb dX4_code_61 (by decide) ?_
  exact rt_l hx hb hr hlocks hP hD hS dX4_code_62 rfl
set_option maxHeartbeats 4000000 in
set_option maxRecDepth 100000 in
theorem kX4_codeB3 (l : Launch) (G : GT) (ma : Nat) (d0 : Nat) (d1 : Nat) (d2 : Nat) (d3 : Nat) (d4 : Nat) (d5 : Nat) (d6 : Nat) (d7 : Nat) (d8 : Nat) (d9 : Nat) (d10 : Nat) (d11 : Nat) (d12 : Nat) (d13 : Nat) (d14 : Nat) (d15 : Nat) (d16 : Nat) (cd : Int32) (f7 : Nat → Int32) (i : Nat) (hi4 : i < 4) (hpk : f7 i = 0) : CL l yX4_code wsX4_code { frames := 1, cells := 0, slots := 0, locals := 22 } G [.ref ma, .int (nI i), .int (2:Int32)] [(ma, .inr (4, [.ref d0, .ref d1, .ref d2, .ref d3, .ref d4, .ref d5, .ref d6, .ref d7, .ref d8, .ref d9, .ref d10, .ref d11, .ref d12, .ref d13, .ref d14, .ref d15, .ref d16, .int cd])), (d7, .inl (G.2.1 2, 4, .inl f7))] (0:Int64) [(ma, .inr (4, [.ref d0, .ref d1, .ref d2, .ref d3, .ref d4, .ref d5, .ref d6, .ref d7, .ref d8, .ref d9, .ref d10, .ref d11, .ref d12, .ref d13, .ref d14, .ref d15, .ref d16, .int (2:Int32)])), (d7, .inl (G.2.1 2, 4, .inl f7))] := by
  refine en_l (cc := cX4_code) (maxL := 4) (ret := (some .long)) (own := RX4) (by decide) rfl rfl (Nat.le_of_ble_eq_true rfl) ?_
  intro p e s m below meth c A ls hx hb hr hts hown hml hlocks hA hK hE hP hD hS hl
  have hl : lv_has ls 4 [(0, .ref ma), (1, .int (nI i)), (2, .int (2:Int32))] := hl
  refine lv_iload_n hx hb dX4_code_0 rfl (lv_at hl 1 rfl) ?_
  refine cs_i (As := [.int (nI i)]) (rest := []) ⟨hx, hb, hml, hown, hts⟩ (kX4_isWire l G (nI i)) (va_cwS 1 hts gX4_code_X4_isWire rfl rfl rfl (by decide +kernel) ⟨Nat.le_of_ble_eq_true rfl, Nat.le_of_ble_eq_true rfl⟩) hE hK hP hD hS hA hl.1 [] rfl rfl rfl rfl rfl rfl (Nat.le_of_ble_eq_true rfl) dX4_code_1 ⟨Nat.zero_le _, Nat.zero_le _⟩ (fun H locs hP hD hS => ?_)
  have hP : va_P G.1 vwCl [(ma, .inr (4, [.ref d0, .ref d1, .ref d2, .ref d3, .ref d4, .ref d5, .ref d6, .ref d7, .ref d8, .ref d9, .ref d10, .ref d11, .ref d12, .ref d13, .ref d14, .ref d15, .ref d16, .int cd])), (d7, .inl (G.2.1 2, 4, .inl f7))] H := hP
  have hD : va_D A [(ma, .inr (4, [.ref d0, .ref d1, .ref d2, .ref d3, .ref d4, .ref d5, .ref d6, .ref d7, .ref d8, .ref d9, .ref d10, .ref d11, .ref d12, .ref d13, .ref d14, .ref d15, .ref d16, .int cd])), (d7, .inl (G.2.1 2, 4, .inl f7))] := hD
  refine bz_eq (tgt := 16) hx hb dX4_code_4 (by decide) (fun h9 => absurd h9 (isW4_1 hi4)) (fun _ => ?_)
  refine lv_iload_n hx hb dX4_code_7 rfl (lv_at hl 2 rfl) ?_
  refine bz_lt (tgt := 16) hx hb dX4_code_8 (by decide) (fun h9 => absurd h9 (by decide)) (fun _ => ?_)
  refine lv_iload_n hx hb dX4_code_11 rfl (lv_at hl 2 rfl) ?_
  refine lv_iconst (v := (3:Int32)) hx hb dX4_code_12 (by decide) ?_
  refine bi_le (tgt := 20) hx hb dX4_code_13 (by decide) (fun h9 => absurd h9 (by decide)) (fun _ => ?_)
  refine lv_iconst (v := (0:Int32)) hx hb dX4_code_20 (by decide) ?_
  refine lv_istore_n (lv' := [(3, .int (0:Int32)), (0, .ref ma), (1, .int (nI i)), (2, .int (2:Int32))]) hx hb dX4_code_21 rfl hl (by decide) rfl (fun ls hl => ?_)
  refine lv_aload_n hx hb dX4_code_22 rfl (lv_at hl 1 rfl) ?_
  refine lv_iload_n hx hb dX4_code_23 rfl (lv_at hl 0 rfl) ?_
  refine lv_iload_n hx hb dX4_code_24 rfl (lv_at hl 0 rfl) ?_
  refine bz_ne (tgt := 54) hx hb dX4_code_25 (by decide) (fun _ => ?_) (fun h9 => absurd rfl h9)
  refine lv_iload_n hx hb dX4_code_28 rfl (lv_at hl 3 rfl) ?_
  refine lv_iconst (v := (1:Int32)) hx hb dX4_code_29 (by decide) ?_
  refine bi_le (tgt := 54) hx hb dX4_code_30 (by decide) (fun _ => ?_) (fun h9 => absurd (by decide) h9)
  refine lv_aload_n hx hb dX4_code_33 rfl (lv_at hl 1 rfl) ?_
  refine va_get (D := G.1) (ci := 4) (v := .ref d7) (C := RX4) (T := TX4) (N := 18) hx hb hts (by decide +kernel) hown hK hP 0 rfl rfl 7 (by decide) (hts (.fieldLink RX4 33 "PedalBoardModel" "peaked" "[Z") (by decide +kernel)) (fun _ h9 => h9) rfl dX4_code_34 ?_
  refine lv_iload_n hx hb dX4_code_37 rfl (lv_at hl 0 rfl) ?_
  refine bz_eq (tgt := 45) hx hb dX4_code_38 (by decide) (fun _ => ?_) (fun h9 => absurd rfl h9)
  refine lv_iload_n hx hb dX4_code_45 rfl (lv_at hl 2 rfl) ?_
  refine ar_zld hx hb hK hP 1 rfl i rfl (by omega) (by decide) dX4_code_46 ?_
  refine bz_ne (tgt := 54) hx hb dX4_code_47 (by decide) (fun _ => ?_) (fun h9 => absurd hpk h9)
  refine lv_iconst (v := (1:Int32)) hx hb dX4_code_50 (by decide) ?_
  refine lv_goto (tgt := 55) hx hb dX4_code_51 (by decide) ?_
  refine cv_i (As := [.int (0:Int32), .int (1:Int32)]) (rest := []) (ws' := [(ma, .inr (4, [.ref d0, .ref d1, .ref d2, .ref d3, .ref d4, .ref d5, .ref d6, .ref d7, .ref d8, .ref d9, .ref d10, .ref d11, .ref d12, .ref d13, .ref d14, .ref d15, .ref d16, .int (2:Int32)])), (d7, .inl (G.2.1 2, 4, .inl f7))]) ⟨hx, hb, hml, hown, hts⟩ (kX4_refuses01 l G ma d0 d1 d2 d3 d4 d5 d6 d7 d8 d9 d10 d11 d12 d13 d14 d15 d16 cd) (cwV 2 hts gX4_code_X4_refuses rfl rfl rfl (by decide +kernel) ⟨Nat.le_of_ble_eq_true rfl, Nat.le_of_ble_eq_true rfl⟩) (va_recv hK hP (ci := 4) (q0 := 0) rfl rfl) hE hK hP hD hS hA hl.1 [0] rfl rfl rfl rfl rfl rfl (Nat.le_of_ble_eq_true rfl) dX4_code_55 ⟨Nat.zero_le _, Nat.zero_le _⟩ (fun H locs hP hD hS => ?_)
  refine bz_eq (tgt := 63) hx hb dX4_code_58 (by decide) (fun h9 => absurd h9 (by decide)) (fun _ => ?_)
  refine lv_lconst (v := (0:Int64)) hx hb dX4_code_61 (by decide) ?_
  exact rt_l hx hb hr hlocks hP hD hS dX4_code_62 rfl
set_option maxHeartbeats 4000000 in
set_option maxRecDepth 100000 in
theorem kX4_codeB4 (l : Launch) (G : GT) (ma : Nat) (d0 : Nat) (d1 : Nat) (d2 : Nat) (d3 : Nat) (d4 : Nat) (d5 : Nat) (d6 : Nat) (d7 : Nat) (d8 : Nat) (d9 : Nat) (d10 : Nat) (d11 : Nat) (d12 : Nat) (d13 : Nat) (d14 : Nat) (d15 : Nat) (d16 : Nat) (cd : Int32) (f7 : Nat → Int32) (i : Nat) (hi4 : i < 4) (hpk : f7 i = 0) : CL l yX4_code wsX4_code { frames := 1, cells := 0, slots := 0, locals := 22 } G [.ref ma, .int (nI i), .int (3:Int32)] [(ma, .inr (4, [.ref d0, .ref d1, .ref d2, .ref d3, .ref d4, .ref d5, .ref d6, .ref d7, .ref d8, .ref d9, .ref d10, .ref d11, .ref d12, .ref d13, .ref d14, .ref d15, .ref d16, .int cd])), (d7, .inl (G.2.1 2, 4, .inl f7))] (0:Int64) [(ma, .inr (4, [.ref d0, .ref d1, .ref d2, .ref d3, .ref d4, .ref d5, .ref d6, .ref d7, .ref d8, .ref d9, .ref d10, .ref d11, .ref d12, .ref d13, .ref d14, .ref d15, .ref d16, .int (2:Int32)])), (d7, .inl (G.2.1 2, 4, .inl f7))] := by
  refine en_l (cc := cX4_code) (maxL := 4) (ret := (some .long)) (own := RX4) (by decide) rfl rfl (Nat.le_of_ble_eq_true rfl) ?_
  intro p e s m below meth c A ls hx hb hr hts hown hml hlocks hA hK hE hP hD hS hl
  have hl : lv_has ls 4 [(0, .ref ma), (1, .int (nI i)), (2, .int (3:Int32))] := hl
  refine lv_iload_n hx hb dX4_code_0 rfl (lv_at hl 1 rfl) ?_
  refine cs_i (As := [.int (nI i)]) (rest := []) ⟨hx, hb, hml, hown, hts⟩ (kX4_isWire l G (nI i)) (va_cwS 1 hts gX4_code_X4_isWire rfl rfl rfl (by decide +kernel) ⟨Nat.le_of_ble_eq_true rfl, Nat.le_of_ble_eq_true rfl⟩) hE hK hP hD hS hA hl.1 [] rfl rfl rfl rfl rfl rfl (Nat.le_of_ble_eq_true rfl) dX4_code_1 ⟨Nat.zero_le _, Nat.zero_le _⟩ (fun H locs hP hD hS => ?_)
  have hP : va_P G.1 vwCl [(ma, .inr (4, [.ref d0, .ref d1, .ref d2, .ref d3, .ref d4, .ref d5, .ref d6, .ref d7, .ref d8, .ref d9, .ref d10, .ref d11, .ref d12, .ref d13, .ref d14, .ref d15, .ref d16, .int cd])), (d7, .inl (G.2.1 2, 4, .inl f7))] H := hP
  have hD : va_D A [(ma, .inr (4, [.ref d0, .ref d1, .ref d2, .ref d3, .ref d4, .ref d5, .ref d6, .ref d7, .ref d8, .ref d9, .ref d10, .ref d11, .ref d12, .ref d13, .ref d14, .ref d15, .ref d16, .int cd])), (d7, .inl (G.2.1 2, 4, .inl f7))] := hD
  refine bz_eq (tgt := 16) hx hb dX4_code_4 (by decide) (fun h9 => absurd h9 (isW4_1 hi4)) (fun _ => ?_)
  refine lv_iload_n hx hb dX4_code_7 rfl (lv_at hl 2 rfl) ?_
  refine bz_lt (tgt := 16) hx hb dX4_code_8 (by decide) (fun h9 => absurd h9 (by decide)) (fun _ => ?_)
  refine lv_iload_n hx hb dX4_code_11 rfl (lv_at hl 2 rfl) ?_
  refine lv_iconst (v := (3:Int32)) hx hb dX4_code_12 (by decide) ?_
  refine bi_le (tgt := 20) hx hb dX4_code_13 (by decide) (fun h9 => absurd h9 (by decide)) (fun _ => ?_)
  refine lv_iconst (v := (0:Int32)) hx hb dX4_code_20 (by decide) ?_
  refine lv_istore_n (lv' := [(3, .int (0:Int32)), (0, .ref ma), (1, .int (nI i)), (2, .int (3:Int32))]) hx hb dX4_code_21 rfl hl (by decide) rfl (fun ls hl => ?_)
  refine lv_aload_n hx hb dX4_code_22 rfl (lv_at hl 1 rfl) ?_
  refine lv_iload_n hx hb dX4_code_23 rfl (lv_at hl 0 rfl) ?_
  refine lv_iload_n hx hb dX4_code_24 rfl (lv_at hl 0 rfl) ?_
  refine bz_ne (tgt := 54) hx hb dX4_code_25 (by decide) (fun _ => ?_) (fun h9 => absurd rfl h9)
  refine lv_iload_n hx hb dX4_code_28 rfl (lv_at hl 3 rfl) ?_
  refine lv_iconst (v := (1:Int32)) hx hb dX4_code_29 (by decide) ?_
  refine bi_le (tgt := 54) hx hb dX4_code_30 (by decide) (fun _ => ?_) (fun h9 => absurd (by decide) h9)
  refine lv_aload_n hx hb dX4_code_33 rfl (lv_at hl 1 rfl) ?_
  refine va_get (D := G.1) (ci := 4) (v := .ref d7) (C := RX4) (T := TX4) (N := 18) hx hb hts (by decide +kernel) hown hK hP 0 rfl rfl 7 (by decide) (hts (.fieldLink RX4 33 "PedalBoardModel" "peaked" "[Z") (by decide +kernel)) (fun _ h9 => h9) rfl dX4_code_34 ?_
  refine lv_iload_n hx hb dX4_code_37 rfl (lv_at hl 0 rfl) ?_
  refine bz_eq (tgt := 45) hx hb dX4_code_38 (by decide) (fun _ => ?_) (fun h9 => absurd rfl h9)
  refine lv_iload_n hx hb dX4_code_45 rfl (lv_at hl 2 rfl) ?_
  refine ar_zld hx hb hK hP 1 rfl i rfl (by omega) (by decide) dX4_code_46 ?_
  refine bz_ne (tgt := 54) hx hb dX4_code_47 (by decide) (fun _ => ?_) (fun h9 => absurd hpk h9)
  refine lv_iconst (v := (1:Int32)) hx hb dX4_code_50 (by decide) ?_
  refine lv_goto (tgt := 55) hx hb dX4_code_51 (by decide) ?_
  refine cv_i (As := [.int (0:Int32), .int (1:Int32)]) (rest := []) (ws' := [(ma, .inr (4, [.ref d0, .ref d1, .ref d2, .ref d3, .ref d4, .ref d5, .ref d6, .ref d7, .ref d8, .ref d9, .ref d10, .ref d11, .ref d12, .ref d13, .ref d14, .ref d15, .ref d16, .int (2:Int32)])), (d7, .inl (G.2.1 2, 4, .inl f7))]) ⟨hx, hb, hml, hown, hts⟩ (kX4_refuses01 l G ma d0 d1 d2 d3 d4 d5 d6 d7 d8 d9 d10 d11 d12 d13 d14 d15 d16 cd) (cwV 2 hts gX4_code_X4_refuses rfl rfl rfl (by decide +kernel) ⟨Nat.le_of_ble_eq_true rfl, Nat.le_of_ble_eq_true rfl⟩) (va_recv hK hP (ci := 4) (q0 := 0) rfl rfl) hE hK hP hD hS hA hl.1 [0] rfl rfl rfl rfl rfl rfl (Nat.le_of_ble_eq_true rfl) dX4_code_55 ⟨Nat.zero_le _, Nat.zero_le _⟩ (fun H locs hP hD hS => ?_)
  refine bz_eq (tgt := 63) hx hb dX4_code_58 (by decide) (fun h9 => absurd h9 (by decide)) (fun _ => ?_)
  refine lv_lconst (v := (0:Int64)) hx hb dX4_code_61 (by decide) ?_
  exact rt_l hx hb hr hlocks hP hD hS dX4_code_62 rfl
set_option maxHeartbeats 4000000 in
set_option maxRecDepth 100000 in
theorem kX4_trace (l : Launch) (G : GT) (ma : Nat) (d0 : Nat) (d1 : Nat) (d2 : Nat) (d3 : Nat) (d4 : Nat) (d5 : Nat) (d6 : Nat) (d7 : Nat) (d8 : Nat) (d9 : Nat) (d10 : Nat) (d11 : Nat) (d12 : Nat) (d13 : Nat) (d14 : Nat) (d15 : Nat) (d16 : Nat) (cd : Int32) (f5 : Nat → Int32) (f6 : Nat → Int32) (f10 : Nat → Int64) (i : Nat) (n : Nat) (u : Nat) (hi4 : i < 4) (hm : f5 i = nI n) (hn : n ≤ 12) (hu : u < n) (htr : ¬ f6 i = 0) : CL l yX4_trace wsX4_trace { frames := 2, cells := 0, slots := 0, locals := 42 } G [.ref ma, .int (nI i), .int (nI u)] [(ma, .inr (4, [.ref d0, .ref d1, .ref d2, .ref d3, .ref d4, .ref d5, .ref d6, .ref d7, .ref d8, .ref d9, .ref d10, .ref d11, .ref d12, .ref d13, .ref d14, .ref d15, .ref d16, .int cd])), (d5, .inl (G.2.1 0, 4, .inl f5)), (d6, .inl (G.2.1 2, 4, .inl f6)), (d10, .inl (G.2.1 1, 48, .inr (.inl f10)))] (f10 ((12 * i) + u)) [(ma, .inr (4, [.ref d0, .ref d1, .ref d2, .ref d3, .ref d4, .ref d5, .ref d6, .ref d7, .ref d8, .ref d9, .ref d10, .ref d11, .ref d12, .ref d13, .ref d14, .ref d15, .ref d16, .int (0:Int32)])), (d5, .inl (G.2.1 0, 4, .inl f5)), (d6, .inl (G.2.1 2, 4, .inl f6)), (d10, .inl (G.2.1 1, 48, .inr (.inl f10)))] := by
  refine en_l (cc := cX4_trace) (maxL := 4) (ret := (some .long)) (own := RX4) (by decide) rfl rfl (Nat.le_of_ble_eq_true rfl) ?_
  intro p e s m below meth c A ls hx hb hr hts hown hml hlocks hA hK hE hP hD hS hl
  have hl : lv_has ls 4 [(0, .ref ma), (1, .int (nI i)), (2, .int (nI u))] := hl
  refine lv_aload_n hx hb dX4_trace_0 rfl (lv_at hl 0 rfl) ?_
  refine lv_iload_n hx hb dX4_trace_1 rfl (lv_at hl 1 rfl) ?_
  refine lv_iload_n hx hb dX4_trace_2 rfl (lv_at hl 2 rfl) ?_
  refine cv_i (As := [.int (nI i), .int (nI u)]) (rest := []) (ws' := [(ma, .inr (4, [.ref d0, .ref d1, .ref d2, .ref d3, .ref d4, .ref d5, .ref d6, .ref d7, .ref d8, .ref d9, .ref d10, .ref d11, .ref d12, .ref d13, .ref d14, .ref d15, .ref d16, .int cd])), (d5, .inl (G.2.1 0, 4, .inl f5)), (d6, .inl (G.2.1 2, 4, .inl f6)), (d10, .inl (G.2.1 1, 48, .inr (.inl f10)))]) ⟨hx, hb, hml, hown, hts⟩ (kX4_isPedal l G ma d0 d1 d2 d3 d4 d5 d6 d7 d8 d9 d10 d11 d12 d13 d14 d15 d16 cd f5 i n (nI u) (by first | assumption | omega) (by first | assumption | omega)) (cwV 2 hts gX4_trace_X4_isPedal rfl rfl rfl (by decide +kernel) ⟨Nat.le_of_ble_eq_true rfl, Nat.le_of_ble_eq_true rfl⟩) (va_recv hK hP (ci := 4) (q0 := 0) rfl rfl) hE hK hP hD hS hA hl.1 [0, 1] rfl rfl rfl rfl rfl rfl (Nat.le_of_ble_eq_true rfl) dX4_trace_3 ⟨Nat.zero_le _, Nat.zero_le _⟩ (fun H locs hP hD hS => ?_)
  refine bz_ne (tgt := 13) hx hb dX4_trace_6 (by decide) (fun h9 => absurd h9 (isP_1 hn hu)) (fun _ => ?_)
  refine lv_iconst (v := (0:Int32)) hx hb dX4_trace_13 (by decide) ?_
  refine lv_istore_n (lv' := [(3, .int (0:Int32)), (0, .ref ma), (1, .int (nI i)), (2, .int (nI u))]) hx hb dX4_trace_14 rfl hl (by decide) rfl (fun ls hl => ?_)
  refine lv_aload_n hx hb dX4_trace_15 rfl (lv_at hl 1 rfl) ?_
  refine lv_iload_n hx hb dX4_trace_16 rfl (lv_at hl 0 rfl) ?_
  refine lv_iload_n hx hb dX4_trace_17 rfl (lv_at hl 0 rfl) ?_
  refine bz_ne (tgt := 42) hx hb dX4_trace_18 (by decide) (fun _ => ?_) (fun h9 => absurd rfl h9)
  refine lv_aload_n hx hb dX4_trace_21 rfl (lv_at hl 1 rfl) ?_
  refine va_get (D := G.1) (ci := 4) (v := .ref d6) (C := RX4) (T := TX4) (N := 18) hx hb hts (by decide +kernel) hown hK hP 0 rfl rfl 6 (by decide) (hts (.fieldLink RX4 29 "PedalBoardModel" "traced" "[Z") (by decide +kernel)) (fun _ h9 => h9) rfl dX4_trace_22 ?_
  refine lv_iload_n hx hb dX4_trace_25 rfl (lv_at hl 0 rfl) ?_
  refine bz_eq (tgt := 33) hx hb dX4_trace_26 (by decide) (fun _ => ?_) (fun h9 => absurd rfl h9)
  refine lv_iload_n hx hb dX4_trace_33 rfl (lv_at hl 2 rfl) ?_
  refine ar_zld hx hb hK hP 2 rfl i rfl (by omega) (by decide) dX4_trace_34 ?_
  refine bz_ne (tgt := 42) hx hb dX4_trace_35 (by decide) (fun h9 => absurd h9 htr) (fun _ => ?_)
  refine lv_iconst (v := (0:Int32)) hx hb dX4_trace_42 (by decide) ?_
  refine cv_i (As := [.int (0:Int32), .int (0:Int32)]) (rest := []) (ws' := [(ma, .inr (4, [.ref d0, .ref d1, .ref d2, .ref d3, .ref d4, .ref d5, .ref d6, .ref d7, .ref d8, .ref d9, .ref d10, .ref d11, .ref d12, .ref d13, .ref d14, .ref d15, .ref d16, .int (0:Int32)])), (d5, .inl (G.2.1 0, 4, .inl f5)), (d6, .inl (G.2.1 2, 4, .inl f6)), (d10, .inl (G.2.1 1, 48, .inr (.inl f10)))]) ⟨hx, hb, hml, hown, hts⟩ (kX4_refuses00 l G ma d0 d1 d2 d3 d4 d5 d6 d7 d8 d9 d10 d11 d12 d13 d14 d15 d16 cd) (cwV 2 hts gX4_trace_X4_refuses rfl rfl rfl (by decide +kernel) ⟨Nat.le_of_ble_eq_true rfl, Nat.le_of_ble_eq_true rfl⟩) (va_recv hK hP (ci := 4) (q0 := 0) rfl rfl) hE hK hP hD hS hA hl.1 [0] rfl rfl rfl rfl rfl rfl (Nat.le_of_ble_eq_true rfl) dX4_trace_43 ⟨Nat.zero_le _, Nat.zero_le _⟩ (fun H locs hP hD hS => ?_)
  refine bz_eq (tgt := 51) hx hb dX4_trace_46 (by decide) (fun _ => ?_) (fun h9 => absurd rfl h9)
  refine lv_aload_n hx hb dX4_trace_51 rfl (lv_at hl 1 rfl) ?_
  refine va_get (D := G.1) (ci := 4) (v := .ref d10) (C := RX4) (T := TX4) (N := 18) hx hb hts (by decide +kernel) hown hK hP 0 rfl rfl 10 (by decide) (hts (.fieldLink RX4 42 "PedalBoardModel" "out" "[J") (by decide +kernel)) (fun _ h9 => h9) rfl dX4_trace_52 ?_
  refine lv_bipush (v := (12:Int32)) hx hb dX4_trace_55 (by decide) ?_
  refine lv_iload_n hx hb dX4_trace_57 rfl (lv_at hl 2 rfl) ?_
  refine lv_imul hx hb dX4_trace_58 ?_
  rw [show ((12:Int32) * (nI i)) = nI (12 * i) from pk_mul 12 i]
  refine lv_iload_n hx hb dX4_trace_59 rfl (lv_at hl 3 rfl) ?_
  refine lv_iadd hx hb dX4_trace_60 ?_
  rw [nI_add]
  refine ar_lld hx hb hK hP 3 rfl ((12 * i) + u) rfl (by omega) (by decide) dX4_trace_61 ?_
  exact rt_l hx hb hr hlocks hP hD hS dX4_trace_62 rfl
set_option maxHeartbeats 4000000 in
set_option maxRecDepth 100000 in
theorem kX4_traceB0 (l : Launch) (G : GT) (ma : Nat) (d0 : Nat) (d1 : Nat) (d2 : Nat) (d3 : Nat) (d4 : Nat) (d5 : Nat) (d6 : Nat) (d7 : Nat) (d8 : Nat) (d9 : Nat) (d10 : Nat) (d11 : Nat) (d12 : Nat) (d13 : Nat) (d14 : Nat) (d15 : Nat) (d16 : Nat) (cd : Int32) (wi : Int32) (pl : Int32) (hwi : fX4_isWire wi = 0) : CL l yX4_trace wsX4_trace { frames := 2, cells := 0, slots := 0, locals := 42 } G [.ref ma, .int wi, .int pl] [(ma, .inr (4, [.ref d0, .ref d1, .ref d2, .ref d3, .ref d4, .ref d5, .ref d6, .ref d7, .ref d8, .ref d9, .ref d10, .ref d11, .ref d12, .ref d13, .ref d14, .ref d15, .ref d16, .int cd]))] (0:Int64) [(ma, .inr (4, [.ref d0, .ref d1, .ref d2, .ref d3, .ref d4, .ref d5, .ref d6, .ref d7, .ref d8, .ref d9, .ref d10, .ref d11, .ref d12, .ref d13, .ref d14, .ref d15, .ref d16, .int (1:Int32)]))] := by
  refine en_l (cc := cX4_trace) (maxL := 4) (ret := (some .long)) (own := RX4) (by decide) rfl rfl (Nat.le_of_ble_eq_true rfl) ?_
  intro p e s m below meth c A ls hx hb hr hts hown hml hlocks hA hK hE hP hD hS hl
  have hl : lv_has ls 4 [(0, .ref ma), (1, .int wi), (2, .int pl)] := hl
  refine lv_aload_n hx hb dX4_trace_0 rfl (lv_at hl 0 rfl) ?_
  refine lv_iload_n hx hb dX4_trace_1 rfl (lv_at hl 1 rfl) ?_
  refine lv_iload_n hx hb dX4_trace_2 rfl (lv_at hl 2 rfl) ?_
  refine cv_i (As := [.int wi, .int pl]) (rest := []) (ws' := [(ma, .inr (4, [.ref d0, .ref d1, .ref d2, .ref d3, .ref d4, .ref d5, .ref d6, .ref d7, .ref d8, .ref d9, .ref d10, .ref d11, .ref d12, .ref d13, .ref d14, .ref d15, .ref d16, .int cd]))]) ⟨hx, hb, hml, hown, hts⟩ (kX4_isPedalN l G ma d0 d1 d2 d3 d4 d5 d6 d7 d8 d9 d10 d11 d12 d13 d14 d15 d16 cd wi pl (by first | assumption | omega)) (cwV 2 hts gX4_trace_X4_isPedal rfl rfl rfl (by decide +kernel) ⟨Nat.le_of_ble_eq_true rfl, Nat.le_of_ble_eq_true rfl⟩) (va_recv hK hP (ci := 4) (q0 := 0) rfl rfl) hE hK hP hD hS hA hl.1 [0] rfl rfl rfl rfl rfl rfl (Nat.le_of_ble_eq_true rfl) dX4_trace_3 ⟨Nat.zero_le _, Nat.zero_le _⟩ (fun H locs hP hD hS => ?_)
  refine bz_ne (tgt := 13) hx hb dX4_trace_6 (by decide) (fun _ => ?_) (fun h9 => absurd rfl h9)
  refine lv_iconst (v := (1:Int32)) hx hb dX4_trace_9 (by decide) ?_
  refine lv_goto (tgt := 14) hx hb dX4_trace_10 (by decide) ?_
  refine lv_istore_n (lv' := [(3, .int (1:Int32)), (0, .ref ma), (1, .int wi), (2, .int pl)]) hx hb dX4_trace_14 rfl hl (by decide) rfl (fun ls hl => ?_)
  refine lv_aload_n hx hb dX4_trace_15 rfl (lv_at hl 1 rfl) ?_
  refine lv_iload_n hx hb dX4_trace_16 rfl (lv_at hl 0 rfl) ?_
  refine lv_iload_n hx hb dX4_trace_17 rfl (lv_at hl 0 rfl) ?_
  refine bz_ne (tgt := 42) hx hb dX4_trace_18 (by decide) (fun h9 => absurd h9 (by decide)) (fun _ => ?_)
  refine lv_iconst (v := (0:Int32)) hx hb dX4_trace_42 (by decide) ?_
  refine cv_i (As := [.int (1:Int32), .int (0:Int32)]) (rest := []) (ws' := [(ma, .inr (4, [.ref d0, .ref d1, .ref d2, .ref d3, .ref d4, .ref d5, .ref d6, .ref d7, .ref d8, .ref d9, .ref d10, .ref d11, .ref d12, .ref d13, .ref d14, .ref d15, .ref d16, .int (1:Int32)]))]) ⟨hx, hb, hml, hown, hts⟩ (kX4_refuses10 l G ma d0 d1 d2 d3 d4 d5 d6 d7 d8 d9 d10 d11 d12 d13 d14 d15 d16 cd) (cwV 2 hts gX4_trace_X4_refuses rfl rfl rfl (by decide +kernel) ⟨Nat.le_of_ble_eq_true rfl, Nat.le_of_ble_eq_true rfl⟩) (va_recv hK hP (ci := 4) (q0 := 0) rfl rfl) hE hK hP hD hS hA hl.1 [0] rfl rfl rfl rfl rfl rfl (Nat.le_of_ble_eq_true rfl) dX4_trace_43 ⟨Nat.zero_le _, Nat.zero_le _⟩ (fun H locs hP hD hS => ?_)
  refine bz_eq (tgt := 51) hx hb dX4_trace_46 (by decide) (fun h9 => absurd h9 (by decide)) (fun _ => ?_)
  refine lv_lconst (v := (0:Int64)) hx hb dX4_trace_49 (by decide) ?_
  exact rt_l hx hb hr hlocks hP hD hS dX4_trace_50 rfl
set_option maxHeartbeats 4000000 in
set_option maxRecDepth 100000 in
theorem kX4_traceB1 (l : Launch) (G : GT) (ma : Nat) (d0 : Nat) (d1 : Nat) (d2 : Nat) (d3 : Nat) (d4 : Nat) (d5 : Nat) (d6 : Nat) (d7 : Nat) (d8 : Nat) (d9 : Nat) (d10 : Nat) (d11 : Nat) (d12 : Nat) (d13 : Nat) (d14 : Nat) (d15 : Nat) (d16 : Nat) (cd : Int32) (f5 : Nat → Int32) (i : Nat) (n : Nat) (pl : Int32) (hi4 : i < 4) (hm : f5 i = nI n) (hpl : fX4_isPedal n pl = 0) : CL l yX4_trace wsX4_trace { frames := 2, cells := 0, slots := 0, locals := 42 } G [.ref ma, .int (nI i), .int pl] [(ma, .inr (4, [.ref d0, .ref d1, .ref d2, .ref d3, .ref d4, .ref d5, .ref d6, .ref d7, .ref d8, .ref d9, .ref d10, .ref d11, .ref d12, .ref d13, .ref d14, .ref d15, .ref d16, .int cd])), (d5, .inl (G.2.1 0, 4, .inl f5))] (0:Int64) [(ma, .inr (4, [.ref d0, .ref d1, .ref d2, .ref d3, .ref d4, .ref d5, .ref d6, .ref d7, .ref d8, .ref d9, .ref d10, .ref d11, .ref d12, .ref d13, .ref d14, .ref d15, .ref d16, .int (1:Int32)])), (d5, .inl (G.2.1 0, 4, .inl f5))] := by
  refine en_l (cc := cX4_trace) (maxL := 4) (ret := (some .long)) (own := RX4) (by decide) rfl rfl (Nat.le_of_ble_eq_true rfl) ?_
  intro p e s m below meth c A ls hx hb hr hts hown hml hlocks hA hK hE hP hD hS hl
  have hl : lv_has ls 4 [(0, .ref ma), (1, .int (nI i)), (2, .int pl)] := hl
  refine lv_aload_n hx hb dX4_trace_0 rfl (lv_at hl 0 rfl) ?_
  refine lv_iload_n hx hb dX4_trace_1 rfl (lv_at hl 1 rfl) ?_
  refine lv_iload_n hx hb dX4_trace_2 rfl (lv_at hl 2 rfl) ?_
  refine cv_i (As := [.int (nI i), .int pl]) (rest := []) (ws' := [(ma, .inr (4, [.ref d0, .ref d1, .ref d2, .ref d3, .ref d4, .ref d5, .ref d6, .ref d7, .ref d8, .ref d9, .ref d10, .ref d11, .ref d12, .ref d13, .ref d14, .ref d15, .ref d16, .int cd])), (d5, .inl (G.2.1 0, 4, .inl f5))]) ⟨hx, hb, hml, hown, hts⟩ (kX4_isPedal l G ma d0 d1 d2 d3 d4 d5 d6 d7 d8 d9 d10 d11 d12 d13 d14 d15 d16 cd f5 i n pl (by first | assumption | omega) (by first | assumption | omega)) (cwV 2 hts gX4_trace_X4_isPedal rfl rfl rfl (by decide +kernel) ⟨Nat.le_of_ble_eq_true rfl, Nat.le_of_ble_eq_true rfl⟩) (va_recv hK hP (ci := 4) (q0 := 0) rfl rfl) hE hK hP hD hS hA hl.1 [0, 1] rfl rfl rfl rfl rfl rfl (Nat.le_of_ble_eq_true rfl) dX4_trace_3 ⟨Nat.zero_le _, Nat.zero_le _⟩ (fun H locs hP hD hS => ?_)
  refine bz_ne (tgt := 13) hx hb dX4_trace_6 (by decide) (fun _ => ?_) (fun h9 => absurd hpl h9)
  refine lv_iconst (v := (1:Int32)) hx hb dX4_trace_9 (by decide) ?_
  refine lv_goto (tgt := 14) hx hb dX4_trace_10 (by decide) ?_
  refine lv_istore_n (lv' := [(3, .int (1:Int32)), (0, .ref ma), (1, .int (nI i)), (2, .int pl)]) hx hb dX4_trace_14 rfl hl (by decide) rfl (fun ls hl => ?_)
  refine lv_aload_n hx hb dX4_trace_15 rfl (lv_at hl 1 rfl) ?_
  refine lv_iload_n hx hb dX4_trace_16 rfl (lv_at hl 0 rfl) ?_
  refine lv_iload_n hx hb dX4_trace_17 rfl (lv_at hl 0 rfl) ?_
  refine bz_ne (tgt := 42) hx hb dX4_trace_18 (by decide) (fun h9 => absurd h9 (by decide)) (fun _ => ?_)
  refine lv_iconst (v := (0:Int32)) hx hb dX4_trace_42 (by decide) ?_
  refine cv_i (As := [.int (1:Int32), .int (0:Int32)]) (rest := []) (ws' := [(ma, .inr (4, [.ref d0, .ref d1, .ref d2, .ref d3, .ref d4, .ref d5, .ref d6, .ref d7, .ref d8, .ref d9, .ref d10, .ref d11, .ref d12, .ref d13, .ref d14, .ref d15, .ref d16, .int (1:Int32)])), (d5, .inl (G.2.1 0, 4, .inl f5))]) ⟨hx, hb, hml, hown, hts⟩ (kX4_refuses10 l G ma d0 d1 d2 d3 d4 d5 d6 d7 d8 d9 d10 d11 d12 d13 d14 d15 d16 cd) (cwV 2 hts gX4_trace_X4_refuses rfl rfl rfl (by decide +kernel) ⟨Nat.le_of_ble_eq_true rfl, Nat.le_of_ble_eq_true rfl⟩) (va_recv hK hP (ci := 4) (q0 := 0) rfl rfl) hE hK hP hD hS hA hl.1 [0] rfl rfl rfl rfl rfl rfl (Nat.le_of_ble_eq_true rfl) dX4_trace_43 ⟨Nat.zero_le _, Nat.zero_le _⟩ (fun H locs hP hD hS => ?_)
  refine bz_eq (tgt := 51) hx hb dX4_trace_46 (by decide) (fun h9 => absurd h9 (by decide)) (fun _ => ?_)
  refine lv_lconst (v := (0:Int64)) hx hb dX4_trace_49 (by decide) ?_
  exact rt_l hx hb hr hlocks hP hD hS dX4_trace_50 rfl
set_option maxHeartbeats 4000000 in
set_option maxRecDepth 100000 in
theorem kX4_traceB2 (l : Launch) (G : GT) (ma : Nat) (d0 : Nat) (d1 : Nat) (d2 : Nat) (d3 : Nat) (d4 : Nat) (d5 : Nat) (d6 : Nat) (d7 : Nat) (d8 : Nat) (d9 : Nat) (d10 : Nat) (d11 : Nat) (d12 : Nat) (d13 : Nat) (d14 : Nat) (d15 : Nat) (d16 : Nat) (cd : Int32) (f5 : Nat → Int32) (f6 : Nat → Int32) (i : Nat) (n : Nat) (pl : Int32) (hi4 : i < 4) (hm : f5 i = nI n) (hpl : ¬ fX4_isPedal n pl = 0) (htr : f6 i = 0) : CL l yX4_trace wsX4_trace { frames := 2, cells := 0, slots := 0, locals := 42 } G [.ref ma, .int (nI i), .int pl] [(ma, .inr (4, [.ref d0, .ref d1, .ref d2, .ref d3, .ref d4, .ref d5, .ref d6, .ref d7, .ref d8, .ref d9, .ref d10, .ref d11, .ref d12, .ref d13, .ref d14, .ref d15, .ref d16, .int cd])), (d5, .inl (G.2.1 0, 4, .inl f5)), (d6, .inl (G.2.1 2, 4, .inl f6))] (0:Int64) [(ma, .inr (4, [.ref d0, .ref d1, .ref d2, .ref d3, .ref d4, .ref d5, .ref d6, .ref d7, .ref d8, .ref d9, .ref d10, .ref d11, .ref d12, .ref d13, .ref d14, .ref d15, .ref d16, .int (2:Int32)])), (d5, .inl (G.2.1 0, 4, .inl f5)), (d6, .inl (G.2.1 2, 4, .inl f6))] := by
  refine en_l (cc := cX4_trace) (maxL := 4) (ret := (some .long)) (own := RX4) (by decide) rfl rfl (Nat.le_of_ble_eq_true rfl) ?_
  intro p e s m below meth c A ls hx hb hr hts hown hml hlocks hA hK hE hP hD hS hl
  have hl : lv_has ls 4 [(0, .ref ma), (1, .int (nI i)), (2, .int pl)] := hl
  refine lv_aload_n hx hb dX4_trace_0 rfl (lv_at hl 0 rfl) ?_
  refine lv_iload_n hx hb dX4_trace_1 rfl (lv_at hl 1 rfl) ?_
  refine lv_iload_n hx hb dX4_trace_2 rfl (lv_at hl 2 rfl) ?_
  refine cv_i (As := [.int (nI i), .int pl]) (rest := []) (ws' := [(ma, .inr (4, [.ref d0, .ref d1, .ref d2, .ref d3, .ref d4, .ref d5, .ref d6, .ref d7, .ref d8, .ref d9, .ref d10, .ref d11, .ref d12, .ref d13, .ref d14, .ref d15, .ref d16, .int cd])), (d5, .inl (G.2.1 0, 4, .inl f5)), (d6, .inl (G.2.1 2, 4, .inl f6))]) ⟨hx, hb, hml, hown, hts⟩ (kX4_isPedal l G ma d0 d1 d2 d3 d4 d5 d6 d7 d8 d9 d10 d11 d12 d13 d14 d15 d16 cd f5 i n pl (by first | assumption | omega) (by first | assumption | omega)) (cwV 2 hts gX4_trace_X4_isPedal rfl rfl rfl (by decide +kernel) ⟨Nat.le_of_ble_eq_true rfl, Nat.le_of_ble_eq_true rfl⟩) (va_recv hK hP (ci := 4) (q0 := 0) rfl rfl) hE hK hP hD hS hA hl.1 [0, 1] rfl rfl rfl rfl rfl rfl (Nat.le_of_ble_eq_true rfl) dX4_trace_3 ⟨Nat.zero_le _, Nat.zero_le _⟩ (fun H locs hP hD hS => ?_)
  refine bz_ne (tgt := 13) hx hb dX4_trace_6 (by decide) (fun h9 => absurd h9 hpl) (fun _ => ?_)
  refine lv_iconst (v := (0:Int32)) hx hb dX4_trace_13 (by decide) ?_
  refine lv_istore_n (lv' := [(3, .int (0:Int32)), (0, .ref ma), (1, .int (nI i)), (2, .int pl)]) hx hb dX4_trace_14 rfl hl (by decide) rfl (fun ls hl => ?_)
  refine lv_aload_n hx hb dX4_trace_15 rfl (lv_at hl 1 rfl) ?_
  refine lv_iload_n hx hb dX4_trace_16 rfl (lv_at hl 0 rfl) ?_
  refine lv_iload_n hx hb dX4_trace_17 rfl (lv_at hl 0 rfl) ?_
  refine bz_ne (tgt := 42) hx hb dX4_trace_18 (by decide) (fun _ => ?_) (fun h9 => absurd rfl h9)
  refine lv_aload_n hx hb dX4_trace_21 rfl (lv_at hl 1 rfl) ?_
  refine va_get (D := G.1) (ci := 4) (v := .ref d6) (C := RX4) (T := TX4) (N := 18) hx hb hts (by decide +kernel) hown hK hP 0 rfl rfl 6 (by decide) (hts (.fieldLink RX4 29 "PedalBoardModel" "traced" "[Z") (by decide +kernel)) (fun _ h9 => h9) rfl dX4_trace_22 ?_
  refine lv_iload_n hx hb dX4_trace_25 rfl (lv_at hl 0 rfl) ?_
  refine bz_eq (tgt := 33) hx hb dX4_trace_26 (by decide) (fun _ => ?_) (fun h9 => absurd rfl h9)
  refine lv_iload_n hx hb dX4_trace_33 rfl (lv_at hl 2 rfl) ?_
  refine ar_zld hx hb hK hP 2 rfl i rfl (by omega) (by decide) dX4_trace_34 ?_
  refine bz_ne (tgt := 42) hx hb dX4_trace_35 (by decide) (fun _ => ?_) (fun h9 => absurd htr h9)
  refine lv_iconst (v := (1:Int32)) hx hb dX4_trace_38 (by decide) ?_
  refine lv_goto (tgt := 43) hx hb dX4_trace_39 (by decide) ?_
  refine cv_i (As := [.int (0:Int32), .int (1:Int32)]) (rest := []) (ws' := [(ma, .inr (4, [.ref d0, .ref d1, .ref d2, .ref d3, .ref d4, .ref d5, .ref d6, .ref d7, .ref d8, .ref d9, .ref d10, .ref d11, .ref d12, .ref d13, .ref d14, .ref d15, .ref d16, .int (2:Int32)])), (d5, .inl (G.2.1 0, 4, .inl f5)), (d6, .inl (G.2.1 2, 4, .inl f6))]) ⟨hx, hb, hml, hown, hts⟩ (kX4_refuses01 l G ma d0 d1 d2 d3 d4 d5 d6 d7 d8 d9 d10 d11 d12 d13 d14 d15 d16 cd) (cwV 2 hts gX4_trace_X4_refuses rfl rfl rfl (by decide +kernel) ⟨Nat.le_of_ble_eq_true rfl, Nat.le_of_ble_eq_true rfl⟩) (va_recv hK hP (ci := 4) (q0 := 0) rfl rfl) hE hK hP hD hS hA hl.1 [0] rfl rfl rfl rfl rfl rfl (Nat.le_of_ble_eq_true rfl) dX4_trace_43 ⟨Nat.zero_le _, Nat.zero_le _⟩ (fun H locs hP hD hS => ?_)
  refine bz_eq (tgt := 51) hx hb dX4_trace_46 (by decide) (fun h9 => absurd h9 (by decide)) (fun _ => ?_)
  refine lv_lconst (v := (0:Int64)) hx hb dX4_trace_49 (by decide) ?_
  exact rt_l hx hb hr hlocks hP hD hS dX4_trace_50 rfl
def fX4_light (f6 : Nat → Int32) (f12 : Nat → Int32) (i : Nat) (u : Nat) : Int32 := (if (f6 i) = 0 then (0:Int32) else (if (f12 ((12 * i) + u)) = 0 then (0:Int32) else (1:Int32)))
set_option maxHeartbeats 4000000 in
set_option maxRecDepth 100000 in
theorem kX4_light (l : Launch) (G : GT) (ma : Nat) (d0 : Nat) (d1 : Nat) (d2 : Nat) (d3 : Nat) (d4 : Nat) (d5 : Nat) (d6 : Nat) (d7 : Nat) (d8 : Nat) (d9 : Nat) (d10 : Nat) (d11 : Nat) (d12 : Nat) (d13 : Nat) (d14 : Nat) (d15 : Nat) (d16 : Nat) (cd : Int32) (f5 : Nat → Int32) (f6 : Nat → Int32) (f12 : Nat → Int32) (i : Nat) (n : Nat) (u : Nat) (hi4 : i < 4) (hm : f5 i = nI n) (hn : n ≤ 12) (hu : u < n) : CI l yX4_light wsX4_light { frames := 2, cells := 0, slots := 0, locals := 42 } G [.ref ma, .int (nI i), .int (nI u)] [(ma, .inr (4, [.ref d0, .ref d1, .ref d2, .ref d3, .ref d4, .ref d5, .ref d6, .ref d7, .ref d8, .ref d9, .ref d10, .ref d11, .ref d12, .ref d13, .ref d14, .ref d15, .ref d16, .int cd])), (d5, .inl (G.2.1 0, 4, .inl f5)), (d6, .inl (G.2.1 2, 4, .inl f6)), (d12, .inl (G.2.1 2, 48, .inl f12))] (fX4_light f6 f12 i u) [(ma, .inr (4, [.ref d0, .ref d1, .ref d2, .ref d3, .ref d4, .ref d5, .ref d6, .ref d7, .ref d8, .ref d9, .ref d10, .ref d11, .ref d12, .ref d13, .ref d14, .ref d15, .ref d16, .int (0:Int32)])), (d5, .inl (G.2.1 0, 4, .inl f5)), (d6, .inl (G.2.1 2, 4, .inl f6)), (d12, .inl (G.2.1 2, 48, .inl f12))] := by
  refine en_i (cc := cX4_light) (maxL := 3) (ret := (some .boolean)) (own := RX4) (by decide) rfl rfl (Nat.le_of_ble_eq_true rfl) ?_
  intro p e s m below meth c A ls hx hb hr hts hown hml hlocks hA hK hE hP hD hS hl
  have hl : lv_has ls 3 [(0, .ref ma), (1, .int (nI i)), (2, .int (nI u))] := hl
  refine lv_aload_n hx hb dX4_light_0 rfl (lv_at hl 0 rfl) ?_
  refine lv_iconst (v := (0:Int32)) hx hb dX4_light_1 (by decide) ?_
  refine va_put (D := G.1) (ci := 4) (v := .int (0:Int32)) (ty := .int) (C := RX4) (T := TX4) (N := 18) hx hb hts (by decide +kernel) tyX4 tyX4_ok nmX4 hown hK hP hD hS 0 rfl rfl 17 (by decide) (hts (.fieldLink RX4 63 "PedalBoardModel" "code" "I") (by decide +kernel)) (fun _ h9 => h9) rfl (by decide +kernel) rfl rfl (Nat.le_of_ble_eq_true rfl) dX4_light_2 (fun H locs hP hD hS => ?_)
  have hP : va_P G.1 vwCl [(ma, .inr (4, [.ref d0, .ref d1, .ref d2, .ref d3, .ref d4, .ref d5, .ref d6, .ref d7, .ref d8, .ref d9, .ref d10, .ref d11, .ref d12, .ref d13, .ref d14, .ref d15, .ref d16, .int (0:Int32)])), (d5, .inl (G.2.1 0, 4, .inl f5)), (d6, .inl (G.2.1 2, 4, .inl f6)), (d12, .inl (G.2.1 2, 48, .inl f12))] H := hP
  have hD : va_D A [(ma, .inr (4, [.ref d0, .ref d1, .ref d2, .ref d3, .ref d4, .ref d5, .ref d6, .ref d7, .ref d8, .ref d9, .ref d10, .ref d11, .ref d12, .ref d13, .ref d14, .ref d15, .ref d16, .int (0:Int32)])), (d5, .inl (G.2.1 0, 4, .inl f5)), (d6, .inl (G.2.1 2, 4, .inl f6)), (d12, .inl (G.2.1 2, 48, .inl f12))] := hD
  refine lv_aload_n hx hb dX4_light_5 rfl (lv_at hl 0 rfl) ?_
  refine lv_iload_n hx hb dX4_light_6 rfl (lv_at hl 1 rfl) ?_
  refine lv_iload_n hx hb dX4_light_7 rfl (lv_at hl 2 rfl) ?_
  refine cv_i (As := [.int (nI i), .int (nI u)]) (rest := []) (ws' := [(ma, .inr (4, [.ref d0, .ref d1, .ref d2, .ref d3, .ref d4, .ref d5, .ref d6, .ref d7, .ref d8, .ref d9, .ref d10, .ref d11, .ref d12, .ref d13, .ref d14, .ref d15, .ref d16, .int (0:Int32)])), (d5, .inl (G.2.1 0, 4, .inl f5)), (d6, .inl (G.2.1 2, 4, .inl f6)), (d12, .inl (G.2.1 2, 48, .inl f12))]) ⟨hx, hb, hml, hown, hts⟩ (kX4_isPedal l G ma d0 d1 d2 d3 d4 d5 d6 d7 d8 d9 d10 d11 d12 d13 d14 d15 d16 (0:Int32) f5 i n (nI u) (by first | assumption | omega) (by first | assumption | omega)) (cwV 2 hts gX4_light_X4_isPedal rfl rfl rfl (by decide +kernel) ⟨Nat.le_of_ble_eq_true rfl, Nat.le_of_ble_eq_true rfl⟩) (va_recv hK hP (ci := 4) (q0 := 0) rfl rfl) hE hK hP hD hS hA hl.1 [0, 1] rfl rfl rfl rfl rfl rfl (Nat.le_of_ble_eq_true rfl) dX4_light_8 ⟨Nat.zero_le _, Nat.zero_le _⟩ (fun H locs hP hD hS => ?_)
  refine bz_eq (tgt := 41) hx hb dX4_light_11 (by decide) (fun h9 => absurd h9 (isP_1 hn hu)) (fun _ => ?_)
  refine lv_aload_n hx hb dX4_light_14 rfl (lv_at hl 0 rfl) ?_
  refine va_get (D := G.1) (ci := 4) (v := .ref d6) (C := RX4) (T := TX4) (N := 18) hx hb hts (by decide +kernel) hown hK hP 0 rfl rfl 6 (by decide) (hts (.fieldLink RX4 29 "PedalBoardModel" "traced" "[Z") (by decide +kernel)) (fun _ h9 => h9) rfl dX4_light_15 ?_
  refine lv_iload_n hx hb dX4_light_18 rfl (lv_at hl 1 rfl) ?_
  refine ar_zld hx hb hK hP 2 rfl i rfl (by omega) (by decide) dX4_light_19 ?_
  refine bz_eq (tgt := 41) hx hb dX4_light_20 (by decide) (fun c_1 => ?_) (fun c_1 => ?_)
  · refine lv_iconst (v := (0:Int32)) hx hb dX4_light_41 (by decide) ?_
    exact rt_z hx hb hr hlocks hP hD hS dX4_light_42 (by rw [fX4_light, if_pos c_1]) (z_nar (Or.inl rfl))
  · refine lv_aload_n hx hb dX4_light_23 rfl (lv_at hl 0 rfl) ?_
    refine va_get (D := G.1) (ci := 4) (v := .ref d12) (C := RX4) (T := TX4) (N := 18) hx hb hts (by decide +kernel) hown hK hP 0 rfl rfl 12 (by decide) (hts (.fieldLink RX4 48 "PedalBoardModel" "lit" "[Z") (by decide +kernel)) (fun _ h9 => h9) rfl dX4_light_24 ?_
    refine lv_bipush (v := (12:Int32)) hx hb dX4_light_27 (by decide) ?_
    refine lv_iload_n hx hb dX4_light_29 rfl (lv_at hl 1 rfl) ?_
    refine lv_imul hx hb dX4_light_30 ?_
    rw [show ((12:Int32) * (nI i)) = nI (12 * i) from pk_mul 12 i]
    refine lv_iload_n hx hb dX4_light_31 rfl (lv_at hl 2 rfl) ?_
    refine lv_iadd hx hb dX4_light_32 ?_
    rw [nI_add]
    refine ar_zld hx hb hK hP 3 rfl ((12 * i) + u) rfl (by omega) (by decide) dX4_light_33 ?_
    refine bz_eq (tgt := 41) hx hb dX4_light_34 (by decide) (fun c_2 => ?_) (fun c_2 => ?_)
    · refine lv_iconst (v := (0:Int32)) hx hb dX4_light_41 (by decide) ?_
      exact rt_z hx hb hr hlocks hP hD hS dX4_light_42 (by rw [fX4_light, if_neg c_1, if_pos c_2]) (z_nar (Or.inl rfl))
    · refine lv_iconst (v := (1:Int32)) hx hb dX4_light_37 (by decide) ?_
      refine lv_goto (tgt := 42) hx hb dX4_light_38 (by decide) ?_
      exact rt_z hx hb hr hlocks hP hD hS dX4_light_42 (by rw [fX4_light, if_neg c_1, if_neg c_2]) (z_nar (Or.inr rfl))
theorem z_X4_light (f6 : Nat → Int32) (f12 : Nat → Int32) (i : Nat) (u : Nat) : (fX4_light f6 f12 i u) = 0 ∨ (fX4_light f6 f12 i u) = 1 := by
  unfold fX4_light; repeat (first | exact Or.inl rfl | exact Or.inr rfl | split)
set_option maxHeartbeats 4000000 in
set_option maxRecDepth 100000 in
theorem kX4_lightQ (l : Launch) (G : GT) (ma : Nat) (d0 : Nat) (d1 : Nat) (d2 : Nat) (d3 : Nat) (d4 : Nat) (d5 : Nat) (d6 : Nat) (d7 : Nat) (d8 : Nat) (d9 : Nat) (d10 : Nat) (d11 : Nat) (d12 : Nat) (d13 : Nat) (d14 : Nat) (d15 : Nat) (d16 : Nat) (cd : Int32) (f5 : Nat → Int32) (i : Nat) (n : Nat) (pl : Int32) (hi4 : i < 4) (hm : f5 i = nI n) (hpl : fX4_isPedal n pl = 0) : CI l yX4_light wsX4_light { frames := 2, cells := 0, slots := 0, locals := 42 } G [.ref ma, .int (nI i), .int pl] [(ma, .inr (4, [.ref d0, .ref d1, .ref d2, .ref d3, .ref d4, .ref d5, .ref d6, .ref d7, .ref d8, .ref d9, .ref d10, .ref d11, .ref d12, .ref d13, .ref d14, .ref d15, .ref d16, .int cd])), (d5, .inl (G.2.1 0, 4, .inl f5))] (0:Int32) [(ma, .inr (4, [.ref d0, .ref d1, .ref d2, .ref d3, .ref d4, .ref d5, .ref d6, .ref d7, .ref d8, .ref d9, .ref d10, .ref d11, .ref d12, .ref d13, .ref d14, .ref d15, .ref d16, .int (0:Int32)])), (d5, .inl (G.2.1 0, 4, .inl f5))] := by
  refine en_i (cc := cX4_light) (maxL := 3) (ret := (some .boolean)) (own := RX4) (by decide) rfl rfl (Nat.le_of_ble_eq_true rfl) ?_
  intro p e s m below meth c A ls hx hb hr hts hown hml hlocks hA hK hE hP hD hS hl
  have hl : lv_has ls 3 [(0, .ref ma), (1, .int (nI i)), (2, .int pl)] := hl
  refine lv_aload_n hx hb dX4_light_0 rfl (lv_at hl 0 rfl) ?_
  refine lv_iconst (v := (0:Int32)) hx hb dX4_light_1 (by decide) ?_
  refine va_put (D := G.1) (ci := 4) (v := .int (0:Int32)) (ty := .int) (C := RX4) (T := TX4) (N := 18) hx hb hts (by decide +kernel) tyX4 tyX4_ok nmX4 hown hK hP hD hS 0 rfl rfl 17 (by decide) (hts (.fieldLink RX4 63 "PedalBoardModel" "code" "I") (by decide +kernel)) (fun _ h9 => h9) rfl (by decide +kernel) rfl rfl (Nat.le_of_ble_eq_true rfl) dX4_light_2 (fun H locs hP hD hS => ?_)
  have hP : va_P G.1 vwCl [(ma, .inr (4, [.ref d0, .ref d1, .ref d2, .ref d3, .ref d4, .ref d5, .ref d6, .ref d7, .ref d8, .ref d9, .ref d10, .ref d11, .ref d12, .ref d13, .ref d14, .ref d15, .ref d16, .int (0:Int32)])), (d5, .inl (G.2.1 0, 4, .inl f5))] H := hP
  have hD : va_D A [(ma, .inr (4, [.ref d0, .ref d1, .ref d2, .ref d3, .ref d4, .ref d5, .ref d6, .ref d7, .ref d8, .ref d9, .ref d10, .ref d11, .ref d12, .ref d13, .ref d14, .ref d15, .ref d16, .int (0:Int32)])), (d5, .inl (G.2.1 0, 4, .inl f5))] := hD
  refine lv_aload_n hx hb dX4_light_5 rfl (lv_at hl 0 rfl) ?_
  refine lv_iload_n hx hb dX4_light_6 rfl (lv_at hl 1 rfl) ?_
  refine lv_iload_n hx hb dX4_light_7 rfl (lv_at hl 2 rfl) ?_
  refine cv_i (As := [.int (nI i), .int pl]) (rest := []) (ws' := [(ma, .inr (4, [.ref d0, .ref d1, .ref d2, .ref d3, .ref d4, .ref d5, .ref d6, .ref d7, .ref d8, .ref d9, .ref d10, .ref d11, .ref d12, .ref d13, .ref d14, .ref d15, .ref d16, .int (0:Int32)])), (d5, .inl (G.2.1 0, 4, .inl f5))]) ⟨hx, hb, hml, hown, hts⟩ (kX4_isPedal l G ma d0 d1 d2 d3 d4 d5 d6 d7 d8 d9 d10 d11 d12 d13 d14 d15 d16 (0:Int32) f5 i n pl (by first | assumption | omega) (by first | assumption | omega)) (cwV 2 hts gX4_light_X4_isPedal rfl rfl rfl (by decide +kernel) ⟨Nat.le_of_ble_eq_true rfl, Nat.le_of_ble_eq_true rfl⟩) (va_recv hK hP (ci := 4) (q0 := 0) rfl rfl) hE hK hP hD hS hA hl.1 [0, 1] rfl rfl rfl rfl rfl rfl (Nat.le_of_ble_eq_true rfl) dX4_light_8 ⟨Nat.zero_le _, Nat.zero_le _⟩ (fun H locs hP hD hS => ?_)
  refine bz_eq (tgt := 41) hx hb dX4_light_11 (by decide) (fun _ => ?_) (fun h9 => absurd hpl h9)
  refine lv_iconst (v := (0:Int32)) hx hb dX4_light_41 (by decide) ?_
  exact rt_z hx hb hr hlocks hP hD hS dX4_light_42 rfl (z_nar (Or.inl rfl))
set_option maxHeartbeats 4000000 in
set_option maxRecDepth 100000 in
theorem kX4_lightN (l : Launch) (G : GT) (ma : Nat) (d0 : Nat) (d1 : Nat) (d2 : Nat) (d3 : Nat) (d4 : Nat) (d5 : Nat) (d6 : Nat) (d7 : Nat) (d8 : Nat) (d9 : Nat) (d10 : Nat) (d11 : Nat) (d12 : Nat) (d13 : Nat) (d14 : Nat) (d15 : Nat) (d16 : Nat) (cd : Int32) (wi : Int32) (pl : Int32) (hwi : fX4_isWire wi = 0) : CI l yX4_light wsX4_light { frames := 2, cells := 0, slots := 0, locals := 42 } G [.ref ma, .int wi, .int pl] [(ma, .inr (4, [.ref d0, .ref d1, .ref d2, .ref d3, .ref d4, .ref d5, .ref d6, .ref d7, .ref d8, .ref d9, .ref d10, .ref d11, .ref d12, .ref d13, .ref d14, .ref d15, .ref d16, .int cd]))] (0:Int32) [(ma, .inr (4, [.ref d0, .ref d1, .ref d2, .ref d3, .ref d4, .ref d5, .ref d6, .ref d7, .ref d8, .ref d9, .ref d10, .ref d11, .ref d12, .ref d13, .ref d14, .ref d15, .ref d16, .int (0:Int32)]))] := by
  refine en_i (cc := cX4_light) (maxL := 3) (ret := (some .boolean)) (own := RX4) (by decide) rfl rfl (Nat.le_of_ble_eq_true rfl) ?_
  intro p e s m below meth c A ls hx hb hr hts hown hml hlocks hA hK hE hP hD hS hl
  have hl : lv_has ls 3 [(0, .ref ma), (1, .int wi), (2, .int pl)] := hl
  refine lv_aload_n hx hb dX4_light_0 rfl (lv_at hl 0 rfl) ?_
  refine lv_iconst (v := (0:Int32)) hx hb dX4_light_1 (by decide) ?_
  refine va_put (D := G.1) (ci := 4) (v := .int (0:Int32)) (ty := .int) (C := RX4) (T := TX4) (N := 18) hx hb hts (by decide +kernel) tyX4 tyX4_ok nmX4 hown hK hP hD hS 0 rfl rfl 17 (by decide) (hts (.fieldLink RX4 63 "PedalBoardModel" "code" "I") (by decide +kernel)) (fun _ h9 => h9) rfl (by decide +kernel) rfl rfl (Nat.le_of_ble_eq_true rfl) dX4_light_2 (fun H locs hP hD hS => ?_)
  have hP : va_P G.1 vwCl [(ma, .inr (4, [.ref d0, .ref d1, .ref d2, .ref d3, .ref d4, .ref d5, .ref d6, .ref d7, .ref d8, .ref d9, .ref d10, .ref d11, .ref d12, .ref d13, .ref d14, .ref d15, .ref d16, .int (0:Int32)]))] H := hP
  have hD : va_D A [(ma, .inr (4, [.ref d0, .ref d1, .ref d2, .ref d3, .ref d4, .ref d5, .ref d6, .ref d7, .ref d8, .ref d9, .ref d10, .ref d11, .ref d12, .ref d13, .ref d14, .ref d15, .ref d16, .int (0:Int32)]))] := hD
  refine lv_aload_n hx hb dX4_light_5 rfl (lv_at hl 0 rfl) ?_
  refine lv_iload_n hx hb dX4_light_6 rfl (lv_at hl 1 rfl) ?_
  refine lv_iload_n hx hb dX4_light_7 rfl (lv_at hl 2 rfl) ?_
  refine cv_i (As := [.int wi, .int pl]) (rest := []) (ws' := [(ma, .inr (4, [.ref d0, .ref d1, .ref d2, .ref d3, .ref d4, .ref d5, .ref d6, .ref d7, .ref d8, .ref d9, .ref d10, .ref d11, .ref d12, .ref d13, .ref d14, .ref d15, .ref d16, .int (0:Int32)]))]) ⟨hx, hb, hml, hown, hts⟩ (kX4_isPedalN l G ma d0 d1 d2 d3 d4 d5 d6 d7 d8 d9 d10 d11 d12 d13 d14 d15 d16 (0:Int32) wi pl (by first | assumption | omega)) (cwV 2 hts gX4_light_X4_isPedal rfl rfl rfl (by decide +kernel) ⟨Nat.le_of_ble_eq_true rfl, Nat.le_of_ble_eq_true rfl⟩) (va_recv hK hP (ci := 4) (q0 := 0) rfl rfl) hE hK hP hD hS hA hl.1 [0] rfl rfl rfl rfl rfl rfl (Nat.le_of_ble_eq_true rfl) dX4_light_8 ⟨Nat.zero_le _, Nat.zero_le _⟩ (fun H locs hP hD hS => ?_)
  refine bz_eq (tgt := 41) hx hb dX4_light_11 (by decide) (fun _ => ?_) (fun h9 => absurd rfl h9)
  refine lv_iconst (v := (0:Int32)) hx hb dX4_light_41 (by decide) ?_
  exact rt_z hx hb hr hlocks hP hD hS dX4_light_42 rfl (z_nar (Or.inl rfl))
def fX4_against_79 (f0 : Nat → Int64) (f1 : Nat → Int64) (i : Nat) (y_1 : Int32) : Int32 := (if y_1 = 0 then (fX4_order (nI i) (f1 i) (f0 i)) else (if (fX4_order (nI i) (f1 i) (f0 i)) = 0 then (fX4_order (nI i) (f1 i) (f0 i)) else (2:Int32)))
def fX4_against (f0 : Nat → Int64) (f1 : Nat → Int64) (i : Nat) : Int32 := (fX4_against_79 f0 f1 i (if (1:Int32) < (nI i) then (if (fX4_size (nI i) (f1 i)) = (0:Int64) then (if (fX4_size (nI i) (f0 i)) = (0:Int64) then (1:Int32) else (0:Int32)) else (0:Int32)) else (0:Int32)))
set_option maxHeartbeats 4000000 in
set_option maxRecDepth 100000 in
theorem kX4_against (l : Launch) (G : GT) (ma : Nat) (d0 : Nat) (d1 : Nat) (d2 : Nat) (d3 : Nat) (d4 : Nat) (d5 : Nat) (d6 : Nat) (d7 : Nat) (d8 : Nat) (d9 : Nat) (d10 : Nat) (d11 : Nat) (d12 : Nat) (d13 : Nat) (d14 : Nat) (d15 : Nat) (d16 : Nat) (cd : Int32) (f0 : Nat → Int64) (f1 : Nat → Int64) (i : Nat) (hi4 : i < 4) : CI l yX4_against wsX4_against { frames := 3, cells := 0, slots := 0, locals := 74 } G [.ref ma, .int (nI i)] [(ma, .inr (4, [.ref d0, .ref d1, .ref d2, .ref d3, .ref d4, .ref d5, .ref d6, .ref d7, .ref d8, .ref d9, .ref d10, .ref d11, .ref d12, .ref d13, .ref d14, .ref d15, .ref d16, .int cd])), (d0, .inl (G.2.1 1, 4, .inr (.inl f0))), (d1, .inl (G.2.1 1, 4, .inr (.inl f1)))] (fX4_against f0 f1 i) [(ma, .inr (4, [.ref d0, .ref d1, .ref d2, .ref d3, .ref d4, .ref d5, .ref d6, .ref d7, .ref d8, .ref d9, .ref d10, .ref d11, .ref d12, .ref d13, .ref d14, .ref d15, .ref d16, .int (0:Int32)])), (d0, .inl (G.2.1 1, 4, .inr (.inl f0))), (d1, .inl (G.2.1 1, 4, .inr (.inl f1)))] := by
  refine en_i (cc := cX4_against) (maxL := 4) (ret := (some .int)) (own := RX4) (by decide) rfl rfl (Nat.le_of_ble_eq_true rfl) ?_
  intro p e s m below meth c A ls hx hb hr hts hown hml hlocks hA hK hE hP hD hS hl
  have hl : lv_has ls 4 [(0, .ref ma), (1, .int (nI i))] := hl
  refine lv_aload_n hx hb dX4_against_0 rfl (lv_at hl 0 rfl) ?_
  refine lv_iload_n hx hb dX4_against_1 rfl (lv_at hl 1 rfl) ?_
  refine cs_i (As := [.int (nI i)]) (rest := [.ref ma]) ⟨hx, hb, hml, hown, hts⟩ (kX4_isWire l G (nI i)) (va_cwS 1 hts gX4_against_X4_isWire rfl rfl rfl (by decide +kernel) ⟨Nat.le_of_ble_eq_true rfl, Nat.le_of_ble_eq_true rfl⟩) hE hK hP hD hS hA hl.1 [] rfl rfl rfl rfl rfl rfl (Nat.le_of_ble_eq_true rfl) dX4_against_2 ⟨Nat.zero_le _, Nat.zero_le _⟩ (fun H locs hP hD hS => ?_)
  have hP : va_P G.1 vwCl [(ma, .inr (4, [.ref d0, .ref d1, .ref d2, .ref d3, .ref d4, .ref d5, .ref d6, .ref d7, .ref d8, .ref d9, .ref d10, .ref d11, .ref d12, .ref d13, .ref d14, .ref d15, .ref d16, .int cd])), (d0, .inl (G.2.1 1, 4, .inr (.inl f0))), (d1, .inl (G.2.1 1, 4, .inr (.inl f1)))] H := hP
  have hD : va_D A [(ma, .inr (4, [.ref d0, .ref d1, .ref d2, .ref d3, .ref d4, .ref d5, .ref d6, .ref d7, .ref d8, .ref d9, .ref d10, .ref d11, .ref d12, .ref d13, .ref d14, .ref d15, .ref d16, .int cd])), (d0, .inl (G.2.1 1, 4, .inr (.inl f0))), (d1, .inl (G.2.1 1, 4, .inr (.inl f1)))] := hD
  refine bz_ne (tgt := 12) hx hb dX4_against_5 (by decide) (fun h9 => absurd h9 (isW4_1 hi4)) (fun _ => ?_)
  refine lv_iconst (v := (0:Int32)) hx hb dX4_against_12 (by decide) ?_
  refine lv_iconst (v := (0:Int32)) hx hb dX4_against_13 (by decide) ?_
  refine cv_i (As := [.int (0:Int32), .int (0:Int32)]) (rest := []) (ws' := [(ma, .inr (4, [.ref d0, .ref d1, .ref d2, .ref d3, .ref d4, .ref d5, .ref d6, .ref d7, .ref d8, .ref d9, .ref d10, .ref d11, .ref d12, .ref d13, .ref d14, .ref d15, .ref d16, .int (0:Int32)])), (d0, .inl (G.2.1 1, 4, .inr (.inl f0))), (d1, .inl (G.2.1 1, 4, .inr (.inl f1)))]) ⟨hx, hb, hml, hown, hts⟩ (kX4_refuses00 l G ma d0 d1 d2 d3 d4 d5 d6 d7 d8 d9 d10 d11 d12 d13 d14 d15 d16 cd) (cwV 2 hts gX4_against_X4_refuses rfl rfl rfl (by decide +kernel) ⟨Nat.le_of_ble_eq_true rfl, Nat.le_of_ble_eq_true rfl⟩) (va_recv hK hP (ci := 4) (q0 := 0) rfl rfl) hE hK hP hD hS hA hl.1 [0] rfl rfl rfl rfl rfl rfl (Nat.le_of_ble_eq_true rfl) dX4_against_14 ⟨Nat.zero_le _, Nat.zero_le _⟩ (fun H locs hP hD hS => ?_)
  refine bz_eq (tgt := 22) hx hb dX4_against_17 (by decide) (fun _ => ?_) (fun h9 => absurd rfl h9)
  refine lv_iload_n hx hb dX4_against_22 rfl (lv_at hl 1 rfl) ?_
  refine lv_aload_n hx hb dX4_against_23 rfl (lv_at hl 0 rfl) ?_
  refine va_get (D := G.1) (ci := 4) (v := .ref d1) (C := RX4) (T := TX4) (N := 18) hx hb hts (by decide +kernel) hown hK hP 0 rfl rfl 1 (by decide) (hts (.fieldLink RX4 13 "PedalBoardModel" "wet" "[J") (by decide +kernel)) (fun _ h9 => h9) rfl dX4_against_24 ?_
  refine lv_iload_n hx hb dX4_against_27 rfl (lv_at hl 1 rfl) ?_
  refine ar_lld hx hb hK hP 2 rfl i rfl (by omega) (by decide) dX4_against_28 ?_
  refine lv_aload_n hx hb dX4_against_29 rfl (lv_at hl 0 rfl) ?_
  refine va_get (D := G.1) (ci := 4) (v := .ref d0) (C := RX4) (T := TX4) (N := 18) hx hb hts (by decide +kernel) hown hK hP 0 rfl rfl 0 (by decide) (hts (.fieldLink RX4 7 "PedalBoardModel" "dry" "[J") (by decide +kernel)) (fun _ h9 => h9) rfl dX4_against_30 ?_
  refine lv_iload_n hx hb dX4_against_33 rfl (lv_at hl 1 rfl) ?_
  refine ar_lld hx hb hK hP 1 rfl i rfl (by omega) (by decide) dX4_against_34 ?_
  refine cs_i (As := [.int (nI i), .long (f1 i), .long (f0 i)]) (rest := []) ⟨hx, hb, hml, hown, hts⟩ (kX4_order l G (nI i) (f1 i) (f0 i)) (va_cwS 3 hts gX4_against_X4_order rfl rfl rfl (by decide +kernel) ⟨Nat.le_of_ble_eq_true rfl, Nat.le_of_ble_eq_true rfl⟩) hE hK hP hD hS hA hl.1 [] rfl rfl rfl rfl rfl rfl (Nat.le_of_ble_eq_true rfl) dX4_against_35 ⟨Nat.zero_le _, Nat.zero_le _⟩ (fun H locs hP hD hS => ?_)
  have hP : va_P G.1 vwCl [(ma, .inr (4, [.ref d0, .ref d1, .ref d2, .ref d3, .ref d4, .ref d5, .ref d6, .ref d7, .ref d8, .ref d9, .ref d10, .ref d11, .ref d12, .ref d13, .ref d14, .ref d15, .ref d16, .int (0:Int32)])), (d0, .inl (G.2.1 1, 4, .inr (.inl f0))), (d1, .inl (G.2.1 1, 4, .inr (.inl f1)))] H := hP
  have hD : va_D A [(ma, .inr (4, [.ref d0, .ref d1, .ref d2, .ref d3, .ref d4, .ref d5, .ref d6, .ref d7, .ref d8, .ref d9, .ref d10, .ref d11, .ref d12, .ref d13, .ref d14, .ref d15, .ref d16, .int (0:Int32)])), (d0, .inl (G.2.1 1, 4, .inr (.inl f0))), (d1, .inl (G.2.1 1, 4, .inr (.inl f1)))] := hD
  refine lv_istore_n (lv' := [(2, .int (fX4_order (nI i) (f1 i) (f0 i))), (0, .ref ma), (1, .int (nI i))]) hx hb dX4_against_38 rfl hl (by decide) rfl (fun ls hl => ?_)
  refine lv_iload_n hx hb dX4_against_39 rfl (lv_at hl 2 rfl) ?_
  refine lv_iconst (v := (1:Int32)) hx hb dX4_against_40 (by decide) ?_
  refine jn_2 (T := Int32) G A (if (1:Int32) < (nI i) then (if (fX4_size (nI i) (f1 i)) = (0:Int64) then (if (fX4_size (nI i) (f0 i)) = (0:Int64) then (1:Int32) else (0:Int32)) else (0:Int32)) else (0:Int32)) (fun y => [(ma, .inr (4, [.ref d0, .ref d1, .ref d2, .ref d3, .ref d4, .ref d5, .ref d6, .ref d7, .ref d8, .ref d9, .ref d10, .ref d11, .ref d12, .ref d13, .ref d14, .ref d15, .ref d16, .int (0:Int32)])), (d0, .inl (G.2.1 1, 4, .inr (.inl f0))), (d1, .inl (G.2.1 1, 4, .inr (.inl f1)))]) 4 (fun y => [(2, .int (fX4_order (nI i) (f1 i) (f0 i)))]) (fun y => [.int y]) 79 ?_ ?_
  · intro y_1 ey_1 H locs ls hP hD hS hl
    have hl : lv_has ls 4 [(2, .int (fX4_order (nI i) (f1 i) (f0 i)))] := hl
    have hP : va_P G.1 vwCl [(ma, .inr (4, [.ref d0, .ref d1, .ref d2, .ref d3, .ref d4, .ref d5, .ref d6, .ref d7, .ref d8, .ref d9, .ref d10, .ref d11, .ref d12, .ref d13, .ref d14, .ref d15, .ref d16, .int (0:Int32)])), (d0, .inl (G.2.1 1, 4, .inr (.inl f0))), (d1, .inl (G.2.1 1, 4, .inr (.inl f1)))] H := hP
    have hD : va_D A [(ma, .inr (4, [.ref d0, .ref d1, .ref d2, .ref d3, .ref d4, .ref d5, .ref d6, .ref d7, .ref d8, .ref d9, .ref d10, .ref d11, .ref d12, .ref d13, .ref d14, .ref d15, .ref d16, .int (0:Int32)])), (d0, .inl (G.2.1 1, 4, .inr (.inl f0))), (d1, .inl (G.2.1 1, 4, .inr (.inl f1)))] := hD
    have hr_5 : (fX4_against f0 f1 i) = fX4_against_79 f0 f1 i y_1 := by rw [ey_1, fX4_against]
    refine lv_istore_n (lv' := [(3, .int y_1), (2, .int (fX4_order (nI i) (f1 i) (f0 i)))]) hx hb dX4_against_79 rfl hl (by decide) rfl (fun ls hl => ?_)
    refine lv_iload_n hx hb dX4_against_80 rfl (lv_at hl 0 rfl) ?_
    refine bz_eq (tgt := 92) hx hb dX4_against_81 (by decide) (fun c_6 => ?_) (fun c_6 => ?_)
    · refine lv_iload_n hx hb dX4_against_92 rfl (lv_at hl 1 rfl) ?_
      subst ey_1
      exact rt_i hx hb hr hlocks hP hD hS dX4_against_93 (by rw [hr_5, fX4_against_79, if_pos c_6])
    · refine lv_iload_n hx hb dX4_against_84 rfl (lv_at hl 1 rfl) ?_
      refine bz_eq (tgt := 92) hx hb dX4_against_85 (by decide) (fun c_7 => ?_) (fun c_7 => ?_)
      · refine lv_iload_n hx hb dX4_against_92 rfl (lv_at hl 1 rfl) ?_
        subst ey_1
        exact rt_i hx hb hr hlocks hP hD hS dX4_against_93 (by rw [hr_5, fX4_against_79, if_neg c_6, if_pos c_7])
      · refine lv_iconst (v := (2:Int32)) hx hb dX4_against_88 (by decide) ?_
        refine lv_goto (tgt := 93) hx hb dX4_against_89 (by decide) ?_
        subst ey_1
        exact rt_i hx hb hr hlocks hP hD hS dX4_against_93 (by rw [hr_5, fX4_against_79, if_neg c_6, if_neg c_7])
  · intro kj_1
    refine bi_le (tgt := 78) hx hb dX4_against_41 (by decide) (fun c_2 => ?_) (fun c_2 => ?_)
    · refine lv_iload_n hx hb dX4_against_44 rfl (lv_at hl 2 rfl) ?_
      refine lv_aload_n hx hb dX4_against_45 rfl (lv_at hl 1 rfl) ?_
      refine va_get (D := G.1) (ci := 4) (v := .ref d1) (C := RX4) (T := TX4) (N := 18) hx hb hts (by decide +kernel) hown hK hP 0 rfl rfl 1 (by decide) (hts (.fieldLink RX4 13 "PedalBoardModel" "wet" "[J") (by decide +kernel)) (fun _ h9 => h9) rfl dX4_against_46 ?_
      refine lv_iload_n hx hb dX4_against_49 rfl (lv_at hl 2 rfl) ?_
      refine ar_lld hx hb hK hP 2 rfl i rfl (by omega) (by decide) dX4_against_50 ?_
      refine cs_l (As := [.int (nI i), .long (f1 i)]) (rest := []) ⟨hx, hb, hml, hown, hts⟩ (kX4_size l G (nI i) (f1 i)) (va_cwS 2 hts gX4_against_X4_size rfl rfl rfl (by decide +kernel) ⟨Nat.le_of_ble_eq_true rfl, Nat.le_of_ble_eq_true rfl⟩) hE hK hP hD hS hA hl.1 [] rfl rfl rfl rfl rfl rfl (Nat.le_of_ble_eq_true rfl) dX4_against_51 ⟨Nat.zero_le _, Nat.zero_le _⟩ (fun H locs hP hD hS => ?_)
      have hP : va_P G.1 vwCl [(ma, .inr (4, [.ref d0, .ref d1, .ref d2, .ref d3, .ref d4, .ref d5, .ref d6, .ref d7, .ref d8, .ref d9, .ref d10, .ref d11, .ref d12, .ref d13, .ref d14, .ref d15, .ref d16, .int (0:Int32)])), (d0, .inl (G.2.1 1, 4, .inr (.inl f0))), (d1, .inl (G.2.1 1, 4, .inr (.inl f1)))] H := hP
      have hD : va_D A [(ma, .inr (4, [.ref d0, .ref d1, .ref d2, .ref d3, .ref d4, .ref d5, .ref d6, .ref d7, .ref d8, .ref d9, .ref d10, .ref d11, .ref d12, .ref d13, .ref d14, .ref d15, .ref d16, .int (0:Int32)])), (d0, .inl (G.2.1 1, 4, .inr (.inl f0))), (d1, .inl (G.2.1 1, 4, .inr (.inl f1)))] := hD
      refine lv_lconst (v := (0:Int64)) hx hb dX4_against_54 (by decide) ?_
      refine bl_ne (tgt := 78) hx hb dX4_against_55 dX4_against_56 (by decide) (fun c_3 => ?_) (fun c_3 => ?_)
      · refine lv_iload_n hx hb dX4_against_59 rfl (lv_at hl 2 rfl) ?_
        refine lv_aload_n hx hb dX4_against_60 rfl (lv_at hl 1 rfl) ?_
        refine va_get (D := G.1) (ci := 4) (v := .ref d0) (C := RX4) (T := TX4) (N := 18) hx hb hts (by decide +kernel) hown hK hP 0 rfl rfl 0 (by decide) (hts (.fieldLink RX4 7 "PedalBoardModel" "dry" "[J") (by decide +kernel)) (fun _ h9 => h9) rfl dX4_against_61 ?_
        refine lv_iload_n hx hb dX4_against_64 rfl (lv_at hl 2 rfl) ?_
        refine ar_lld hx hb hK hP 1 rfl i rfl (by omega) (by decide) dX4_against_65 ?_
        refine cs_l (As := [.int (nI i), .long (f0 i)]) (rest := []) ⟨hx, hb, hml, hown, hts⟩ (kX4_size l G (nI i) (f0 i)) (va_cwS 2 hts gX4_against_X4_size rfl rfl rfl (by decide +kernel) ⟨Nat.le_of_ble_eq_true rfl, Nat.le_of_ble_eq_true rfl⟩) hE hK hP hD hS hA hl.1 [] rfl rfl rfl rfl rfl rfl (Nat.le_of_ble_eq_true rfl) dX4_against_66 ⟨Nat.zero_le _, Nat.zero_le _⟩ (fun H locs hP hD hS => ?_)
        have hP : va_P G.1 vwCl [(ma, .inr (4, [.ref d0, .ref d1, .ref d2, .ref d3, .ref d4, .ref d5, .ref d6, .ref d7, .ref d8, .ref d9, .ref d10, .ref d11, .ref d12, .ref d13, .ref d14, .ref d15, .ref d16, .int (0:Int32)])), (d0, .inl (G.2.1 1, 4, .inr (.inl f0))), (d1, .inl (G.2.1 1, 4, .inr (.inl f1)))] H := hP
        have hD : va_D A [(ma, .inr (4, [.ref d0, .ref d1, .ref d2, .ref d3, .ref d4, .ref d5, .ref d6, .ref d7, .ref d8, .ref d9, .ref d10, .ref d11, .ref d12, .ref d13, .ref d14, .ref d15, .ref d16, .int (0:Int32)])), (d0, .inl (G.2.1 1, 4, .inr (.inl f0))), (d1, .inl (G.2.1 1, 4, .inr (.inl f1)))] := hD
        refine lv_lconst (v := (0:Int64)) hx hb dX4_against_69 (by decide) ?_
        refine bl_ne (tgt := 78) hx hb dX4_against_70 dX4_against_71 (by decide) (fun c_4 => ?_) (fun c_4 => ?_)
        · refine lv_iconst (v := (1:Int32)) hx hb dX4_against_74 (by decide) ?_
          refine lv_goto (tgt := 79) hx hb dX4_against_75 (by decide) ?_
          exact kj_1 (1:Int32) (by rw [if_pos c_2, if_pos c_3, if_pos c_4]) _ _ _ hP hD hS (lv_sub hl [0] rfl)
        · refine lv_iconst (v := (0:Int32)) hx hb dX4_against_78 (by decide) ?_
          exact kj_1 (0:Int32) (by rw [if_pos c_2, if_pos c_3, if_neg c_4]) _ _ _ hP hD hS (lv_sub hl [0] rfl)
      · refine lv_iconst (v := (0:Int32)) hx hb dX4_against_78 (by decide) ?_
        exact kj_1 (0:Int32) (by rw [if_pos c_2, if_neg c_3]) _ _ _ hP hD hS (lv_sub hl [0] rfl)
    · refine lv_iconst (v := (0:Int32)) hx hb dX4_against_78 (by decide) ?_
      exact kj_1 (0:Int32) (by rw [if_neg c_2]) _ _ _ hP hD hS (lv_sub hl [0] rfl)
set_option maxHeartbeats 4000000 in
set_option maxRecDepth 100000 in
theorem kX4_againstB0 (l : Launch) (G : GT) (ma : Nat) (d0 : Nat) (d1 : Nat) (d2 : Nat) (d3 : Nat) (d4 : Nat) (d5 : Nat) (d6 : Nat) (d7 : Nat) (d8 : Nat) (d9 : Nat) (d10 : Nat) (d11 : Nat) (d12 : Nat) (d13 : Nat) (d14 : Nat) (d15 : Nat) (d16 : Nat) (cd : Int32) (wi : Int32) (hwi : fX4_isWire wi = 0) : CI l yX4_against wsX4_against { frames := 1, cells := 0, slots := 0, locals := 22 } G [.ref ma, .int wi] [(ma, .inr (4, [.ref d0, .ref d1, .ref d2, .ref d3, .ref d4, .ref d5, .ref d6, .ref d7, .ref d8, .ref d9, .ref d10, .ref d11, .ref d12, .ref d13, .ref d14, .ref d15, .ref d16, .int cd]))] (0:Int32) [(ma, .inr (4, [.ref d0, .ref d1, .ref d2, .ref d3, .ref d4, .ref d5, .ref d6, .ref d7, .ref d8, .ref d9, .ref d10, .ref d11, .ref d12, .ref d13, .ref d14, .ref d15, .ref d16, .int (1:Int32)]))] := by
  refine en_i (cc := cX4_against) (maxL := 4) (ret := (some .int)) (own := RX4) (by decide) rfl rfl (Nat.le_of_ble_eq_true rfl) ?_
  intro p e s m below meth c A ls hx hb hr hts hown hml hlocks hA hK hE hP hD hS hl
  have hl : lv_has ls 4 [(0, .ref ma), (1, .int wi)] := hl
  refine lv_aload_n hx hb dX4_against_0 rfl (lv_at hl 0 rfl) ?_
  refine lv_iload_n hx hb dX4_against_1 rfl (lv_at hl 1 rfl) ?_
  refine cs_i (As := [.int wi]) (rest := [.ref ma]) ⟨hx, hb, hml, hown, hts⟩ (kX4_isWire l G wi) (va_cwS 1 hts gX4_against_X4_isWire rfl rfl rfl (by decide +kernel) ⟨Nat.le_of_ble_eq_true rfl, Nat.le_of_ble_eq_true rfl⟩) hE hK hP hD hS hA hl.1 [] rfl rfl rfl rfl rfl rfl (Nat.le_of_ble_eq_true rfl) dX4_against_2 ⟨Nat.zero_le _, Nat.zero_le _⟩ (fun H locs hP hD hS => ?_)
  have hP : va_P G.1 vwCl [(ma, .inr (4, [.ref d0, .ref d1, .ref d2, .ref d3, .ref d4, .ref d5, .ref d6, .ref d7, .ref d8, .ref d9, .ref d10, .ref d11, .ref d12, .ref d13, .ref d14, .ref d15, .ref d16, .int cd]))] H := hP
  have hD : va_D A [(ma, .inr (4, [.ref d0, .ref d1, .ref d2, .ref d3, .ref d4, .ref d5, .ref d6, .ref d7, .ref d8, .ref d9, .ref d10, .ref d11, .ref d12, .ref d13, .ref d14, .ref d15, .ref d16, .int cd]))] := hD
  refine bz_ne (tgt := 12) hx hb dX4_against_5 (by decide) (fun _ => ?_) (fun h9 => absurd hwi h9)
  refine lv_iconst (v := (1:Int32)) hx hb dX4_against_8 (by decide) ?_
  refine lv_goto (tgt := 13) hx hb dX4_against_9 (by decide) ?_
  refine lv_iconst (v := (0:Int32)) hx hb dX4_against_13 (by decide) ?_
  refine cv_i (As := [.int (1:Int32), .int (0:Int32)]) (rest := []) (ws' := [(ma, .inr (4, [.ref d0, .ref d1, .ref d2, .ref d3, .ref d4, .ref d5, .ref d6, .ref d7, .ref d8, .ref d9, .ref d10, .ref d11, .ref d12, .ref d13, .ref d14, .ref d15, .ref d16, .int (1:Int32)]))]) ⟨hx, hb, hml, hown, hts⟩ (kX4_refuses10 l G ma d0 d1 d2 d3 d4 d5 d6 d7 d8 d9 d10 d11 d12 d13 d14 d15 d16 cd) (cwV 2 hts gX4_against_X4_refuses rfl rfl rfl (by decide +kernel) ⟨Nat.le_of_ble_eq_true rfl, Nat.le_of_ble_eq_true rfl⟩) (va_recv hK hP (ci := 4) (q0 := 0) rfl rfl) hE hK hP hD hS hA hl.1 [0] rfl rfl rfl rfl rfl rfl (Nat.le_of_ble_eq_true rfl) dX4_against_14 ⟨Nat.zero_le _, Nat.zero_le _⟩ (fun H locs hP hD hS => ?_)
  refine bz_eq (tgt := 22) hx hb dX4_against_17 (by decide) (fun h9 => absurd h9 (by decide)) (fun _ => ?_)
  refine lv_iconst (v := (0:Int32)) hx hb dX4_against_20 (by decide) ?_
  exact rt_i hx hb hr hlocks hP hD hS dX4_against_21 rfl
theorem sv_I (B b k : Nat) (f g : Nat → Int32) : upd (mo B k (sl b f) g) (B + k) (f (b + k)) = mo B (k + 1) (sl b f) g := mo_sI B k (sl b f) g
theorem sv_J (B b k : Nat) (f g : Nat → Int64) : vp_updL (mo B k (sl b f) g) (B + k) (f (b + k)) = mo B (k + 1) (sl b f) g := mo_sJ B k (sl b f) g
theorem n_le3 {u : Nat} (h : u < 4) : ¬ (3:Int32) < (nI u) := nI_nlt (a := 3) (b := u) (by omega) (by decide)
set_option maxHeartbeats 4000000 in
set_option maxRecDepth 100000 in
theorem kX4_save (l : Launch) (G : GT) (ma : Nat) (d0 : Nat) (d1 : Nat) (d2 : Nat) (d3 : Nat) (d4 : Nat) (d5 : Nat) (d6 : Nat) (d7 : Nat) (d8 : Nat) (d9 : Nat) (d10 : Nat) (d11 : Nat) (d12 : Nat) (d13 : Nat) (d14 : Nat) (d15 : Nat) (d16 : Nat) (cd : Int32) (f5 : Nat → Int32) (f8 : Nat → Int32) (f9 : Nat → Int64) (f11 : Nat → Int32) (f13 : Nat → Int32) (f14 : Nat → Int32) (f15 : Nat → Int64) (f16 : Nat → Int32) (i : Nat) (n : Nat) (u : Nat) (hi4 : i < 4) (hm : f5 i = nI n) (hn : n ≤ 12) (hu4 : u < 4) (hz11 : ∀ k, f11 k = 0 ∨ f11 k = 1) : CI l yX4_save wsX4_save { frames := 1, cells := 0, slots := 0, locals := 22 } G [.ref ma, .int (nI i), .int (nI u)] [(ma, .inr (4, [.ref d0, .ref d1, .ref d2, .ref d3, .ref d4, .ref d5, .ref d6, .ref d7, .ref d8, .ref d9, .ref d10, .ref d11, .ref d12, .ref d13, .ref d14, .ref d15, .ref d16, .int cd])), (d5, .inl (G.2.1 0, 4, .inl f5)), (d8, .inl (G.2.1 0, 48, .inl f8)), (d9, .inl (G.2.1 1, 48, .inr (.inl f9))), (d11, .inl (G.2.1 2, 48, .inl f11)), (d13, .inl (G.2.1 0, 16, .inl f13)), (d14, .inl (G.2.1 0, 192, .inl f14)), (d15, .inl (G.2.1 1, 192, .inr (.inl f15))), (d16, .inl (G.2.1 2, 192, .inl f16))] (nI n) [(ma, .inr (4, [.ref d0, .ref d1, .ref d2, .ref d3, .ref d4, .ref d5, .ref d6, .ref d7, .ref d8, .ref d9, .ref d10, .ref d11, .ref d12, .ref d13, .ref d14, .ref d15, .ref d16, .int (0:Int32)])), (d5, .inl (G.2.1 0, 4, .inl f5)), (d8, .inl (G.2.1 0, 48, .inl f8)), (d9, .inl (G.2.1 1, 48, .inr (.inl f9))), (d11, .inl (G.2.1 2, 48, .inl f11)), (d13, .inl (G.2.1 0, 16, .inl (upd f13 (4 * i + u) (nI n)))), (d14, .inl (G.2.1 0, 192, .inl (mo (12 * (4 * i + u)) n (sl (12 * i) f8) f14))), (d15, .inl (G.2.1 1, 192, .inr (.inl (mo (12 * (4 * i + u)) n (sl (12 * i) f9) f15)))), (d16, .inl (G.2.1 2, 192, .inl (mo (12 * (4 * i + u)) n (sl (12 * i) f11) f16)))] := by
  refine en_i (cc := cX4_save) (maxL := 5) (ret := (some .int)) (own := RX4) (by decide) rfl rfl (Nat.le_of_ble_eq_true rfl) ?_
  intro p e s m below meth c A ls hx hb hr hts hown hml hlocks hA hK hE hP hD hS hl
  have hl : lv_has ls 5 [(0, .ref ma), (1, .int (nI i)), (2, .int (nI u))] := hl
  refine lv_aload_n hx hb dX4_save_0 rfl (lv_at hl 0 rfl) ?_
  refine lv_iload_n hx hb dX4_save_1 rfl (lv_at hl 1 rfl) ?_
  refine cs_i (As := [.int (nI i)]) (rest := [.ref ma]) ⟨hx, hb, hml, hown, hts⟩ (kX4_isWire l G (nI i)) (va_cwS 1 hts gX4_save_X4_isWire rfl rfl rfl (by decide +kernel) ⟨Nat.le_of_ble_eq_true rfl, Nat.le_of_ble_eq_true rfl⟩) hE hK hP hD hS hA hl.1 [] rfl rfl rfl rfl rfl rfl (Nat.le_of_ble_eq_true rfl) dX4_save_2 ⟨Nat.zero_le _, Nat.zero_le _⟩ (fun H locs hP hD hS => ?_)
  have hP : va_P G.1 vwCl [(ma, .inr (4, [.ref d0, .ref d1, .ref d2, .ref d3, .ref d4, .ref d5, .ref d6, .ref d7, .ref d8, .ref d9, .ref d10, .ref d11, .ref d12, .ref d13, .ref d14, .ref d15, .ref d16, .int cd])), (d5, .inl (G.2.1 0, 4, .inl f5)), (d8, .inl (G.2.1 0, 48, .inl f8)), (d9, .inl (G.2.1 1, 48, .inr (.inl f9))), (d11, .inl (G.2.1 2, 48, .inl f11)), (d13, .inl (G.2.1 0, 16, .inl f13)), (d14, .inl (G.2.1 0, 192, .inl f14)), (d15, .inl (G.2.1 1, 192, .inr (.inl f15))), (d16, .inl (G.2.1 2, 192, .inl f16))] H := hP
  have hD : va_D A [(ma, .inr (4, [.ref d0, .ref d1, .ref d2, .ref d3, .ref d4, .ref d5, .ref d6, .ref d7, .ref d8, .ref d9, .ref d10, .ref d11, .ref d12, .ref d13, .ref d14, .ref d15, .ref d16, .int cd])), (d5, .inl (G.2.1 0, 4, .inl f5)), (d8, .inl (G.2.1 0, 48, .inl f8)), (d9, .inl (G.2.1 1, 48, .inr (.inl f9))), (d11, .inl (G.2.1 2, 48, .inl f11)), (d13, .inl (G.2.1 0, 16, .inl f13)), (d14, .inl (G.2.1 0, 192, .inl f14)), (d15, .inl (G.2.1 1, 192, .inr (.inl f15))), (d16, .inl (G.2.1 2, 192, .inl f16))] := hD
  refine bz_eq (tgt := 17) hx hb dX4_save_5 (by decide) (fun h9 => absurd h9 (isW4_1 hi4)) (fun _ => ?_)
  refine lv_iload_n hx hb dX4_save_8 rfl (lv_at hl 2 rfl) ?_
  refine bz_lt (tgt := 17) hx hb dX4_save_9 (by decide) (fun h9 => absurd h9 (n_ge0 (by omega))) (fun _ => ?_)
  refine lv_iload_n hx hb dX4_save_12 rfl (lv_at hl 2 rfl) ?_
  refine lv_iconst (v := (3:Int32)) hx hb dX4_save_13 (by decide) ?_
  refine bi_le (tgt := 21) hx hb dX4_save_14 (by decide) (fun h9 => absurd h9 (n_le3 hu4)) (fun _ => ?_)
  refine lv_iconst (v := (0:Int32)) hx hb dX4_save_21 (by decide) ?_
  refine lv_iconst (v := (0:Int32)) hx hb dX4_save_22 (by decide) ?_
  refine cv_i (As := [.int (0:Int32), .int (0:Int32)]) (rest := []) (ws' := [(ma, .inr (4, [.ref d0, .ref d1, .ref d2, .ref d3, .ref d4, .ref d5, .ref d6, .ref d7, .ref d8, .ref d9, .ref d10, .ref d11, .ref d12, .ref d13, .ref d14, .ref d15, .ref d16, .int (0:Int32)])), (d5, .inl (G.2.1 0, 4, .inl f5)), (d8, .inl (G.2.1 0, 48, .inl f8)), (d9, .inl (G.2.1 1, 48, .inr (.inl f9))), (d11, .inl (G.2.1 2, 48, .inl f11)), (d13, .inl (G.2.1 0, 16, .inl f13)), (d14, .inl (G.2.1 0, 192, .inl f14)), (d15, .inl (G.2.1 1, 192, .inr (.inl f15))), (d16, .inl (G.2.1 2, 192, .inl f16))]) ⟨hx, hb, hml, hown, hts⟩ (kX4_refuses00 l G ma d0 d1 d2 d3 d4 d5 d6 d7 d8 d9 d10 d11 d12 d13 d14 d15 d16 cd) (cwV 2 hts gX4_save_X4_refuses rfl rfl rfl (by decide +kernel) ⟨Nat.le_of_ble_eq_true rfl, Nat.le_of_ble_eq_true rfl⟩) (va_recv hK hP (ci := 4) (q0 := 0) rfl rfl) hE hK hP hD hS hA hl.1 [0] rfl rfl rfl rfl rfl rfl (Nat.le_of_ble_eq_true rfl) dX4_save_23 ⟨Nat.zero_le _, Nat.zero_le _⟩ (fun H locs hP hD hS => ?_)
  refine bz_eq (tgt := 31) hx hb dX4_save_26 (by decide) (fun _ => ?_) (fun h9 => absurd rfl h9)
  refine lv_iconst (v := (4:Int32)) hx hb dX4_save_31 (by decide) ?_
  refine lv_iload_n hx hb dX4_save_32 rfl (lv_at hl 1 rfl) ?_
  refine lv_imul hx hb dX4_save_33 ?_
  rw [show ((4:Int32) * (nI i)) = nI (4 * i) from pk_mul 4 i]
  refine lv_iload_n hx hb dX4_save_34 rfl (lv_at hl 2 rfl) ?_
  refine lv_iadd hx hb dX4_save_35 ?_
  rw [nI_add]
  refine lv_istore_n (lv' := [(3, .int (nI ((4 * i) + u))), (0, .ref ma), (1, .int (nI i)), (2, .int (nI u))]) hx hb dX4_save_36 rfl hl (by decide) rfl (fun ls hl => ?_)
  refine lv_aload_n hx hb dX4_save_37 rfl (lv_at hl 1 rfl) ?_
  refine va_get (D := G.1) (ci := 4) (v := .ref d13) (C := RX4) (T := TX4) (N := 18) hx hb hts (by decide +kernel) hown hK hP 0 rfl rfl 13 (by decide) (hts (.fieldLink RX4 51 "PedalBoardModel" "keptMany" "[I") (by decide +kernel)) (fun _ h9 => h9) rfl dX4_save_38 ?_
  refine lv_iload_n hx hb dX4_save_41 rfl (lv_at hl 0 rfl) ?_
  refine lv_aload_n hx hb dX4_save_42 rfl (lv_at hl 1 rfl) ?_
  refine va_get (D := G.1) (ci := 4) (v := .ref d5) (C := RX4) (T := TX4) (N := 18) hx hb hts (by decide +kernel) hown hK hP 0 rfl rfl 5 (by decide) (hts (.fieldLink RX4 26 "PedalBoardModel" "many" "[I") (by decide +kernel)) (fun _ h9 => h9) rfl dX4_save_43 ?_
  refine lv_iload_n hx hb dX4_save_46 rfl (lv_at hl 2 rfl) ?_
  refine ar_ild hx hb hK hP 1 rfl i rfl (by omega) (by decide) dX4_save_47 ?_
  rw [hm]
  refine ar_ist hx hb hK hP hD hS 5 rfl ((4 * i) + u) rfl (by omega) (by decide) dX4_save_48 (fun H locs hP hD hS => ?_)
  have hP : va_P G.1 vwCl [(ma, .inr (4, [.ref d0, .ref d1, .ref d2, .ref d3, .ref d4, .ref d5, .ref d6, .ref d7, .ref d8, .ref d9, .ref d10, .ref d11, .ref d12, .ref d13, .ref d14, .ref d15, .ref d16, .int (0:Int32)])), (d5, .inl (G.2.1 0, 4, .inl f5)), (d8, .inl (G.2.1 0, 48, .inl f8)), (d9, .inl (G.2.1 1, 48, .inr (.inl f9))), (d11, .inl (G.2.1 2, 48, .inl f11)), (d13, .inl (G.2.1 0, 16, .inl (upd f13 ((4 * i) + u) (nI n)))), (d14, .inl (G.2.1 0, 192, .inl f14)), (d15, .inl (G.2.1 1, 192, .inr (.inl f15))), (d16, .inl (G.2.1 2, 192, .inl f16))] H := hP
  have hD : va_D A [(ma, .inr (4, [.ref d0, .ref d1, .ref d2, .ref d3, .ref d4, .ref d5, .ref d6, .ref d7, .ref d8, .ref d9, .ref d10, .ref d11, .ref d12, .ref d13, .ref d14, .ref d15, .ref d16, .int (0:Int32)])), (d5, .inl (G.2.1 0, 4, .inl f5)), (d8, .inl (G.2.1 0, 48, .inl f8)), (d9, .inl (G.2.1 1, 48, .inr (.inl f9))), (d11, .inl (G.2.1 2, 48, .inl f11)), (d13, .inl (G.2.1 0, 16, .inl (upd f13 ((4 * i) + u) (nI n)))), (d14, .inl (G.2.1 0, 192, .inl f14)), (d15, .inl (G.2.1 1, 192, .inr (.inl f15))), (d16, .inl (G.2.1 2, 192, .inl f16))] := hD
  refine lv_iconst (v := (0:Int32)) hx hb dX4_save_49 (by decide) ?_
  refine lv_istore (lv' := [(4, .int (0:Int32)), (3, .int (nI ((4 * i) + u))), (0, .ref ma), (1, .int (nI i)), (2, .int (nI u))]) hx hb dX4_save_50 hl (by decide) rfl (fun ls hl => ?_)
  have hP : va_P G.1 vwCl [(ma, .inr (4, [.ref d0, .ref d1, .ref d2, .ref d3, .ref d4, .ref d5, .ref d6, .ref d7, .ref d8, .ref d9, .ref d10, .ref d11, .ref d12, .ref d13, .ref d14, .ref d15, .ref d16, .int (0:Int32)])), (d5, .inl (G.2.1 0, 4, .inl f5)), (d8, .inl (G.2.1 0, 48, .inl f8)), (d9, .inl (G.2.1 1, 48, .inr (.inl f9))), (d11, .inl (G.2.1 2, 48, .inl f11)), (d13, .inl (G.2.1 0, 16, .inl (upd f13 (4 * i + u) (nI n)))), (d14, .inl (G.2.1 0, 192, .inl (mo (12 * (4 * i + u)) 0 (sl (12 * i) f8) f14))), (d15, .inl (G.2.1 1, 192, .inr (.inl (mo (12 * (4 * i + u)) 0 (sl (12 * i) f9) f15)))), (d16, .inl (G.2.1 2, 192, .inl (mo (12 * (4 * i + u)) 0 (sl (12 * i) f11) f16)))] H := by rw [mo_0, mo_0, mo_0]; exact hP
  have hD : va_D A [(ma, .inr (4, [.ref d0, .ref d1, .ref d2, .ref d3, .ref d4, .ref d5, .ref d6, .ref d7, .ref d8, .ref d9, .ref d10, .ref d11, .ref d12, .ref d13, .ref d14, .ref d15, .ref d16, .int (0:Int32)])), (d5, .inl (G.2.1 0, 4, .inl f5)), (d8, .inl (G.2.1 0, 48, .inl f8)), (d9, .inl (G.2.1 1, 48, .inr (.inl f9))), (d11, .inl (G.2.1 2, 48, .inl f11)), (d13, .inl (G.2.1 0, 16, .inl (upd f13 (4 * i + u) (nI n)))), (d14, .inl (G.2.1 0, 192, .inl (mo (12 * (4 * i + u)) 0 (sl (12 * i) f8) f14))), (d15, .inl (G.2.1 1, 192, .inr (.inl (mo (12 * (4 * i + u)) 0 (sl (12 * i) f9) f15)))), (d16, .inl (G.2.1 2, 192, .inl (mo (12 * (4 * i + u)) 0 (sl (12 * i) f11) f16)))] := by rw [mo_0, mo_0, mo_0]; exact hD
  refine lp_1 (T := Unit) G A n (fun k y => True) (fun k y => [(ma, .inr (4, [.ref d0, .ref d1, .ref d2, .ref d3, .ref d4, .ref d5, .ref d6, .ref d7, .ref d8, .ref d9, .ref d10, .ref d11, .ref d12, .ref d13, .ref d14, .ref d15, .ref d16, .int (0:Int32)])), (d5, .inl (G.2.1 0, 4, .inl f5)), (d8, .inl (G.2.1 0, 48, .inl f8)), (d9, .inl (G.2.1 1, 48, .inr (.inl f9))), (d11, .inl (G.2.1 2, 48, .inl f11)), (d13, .inl (G.2.1 0, 16, .inl (upd f13 (4 * i + u) (nI n)))), (d14, .inl (G.2.1 0, 192, .inl (mo (12 * (4 * i + u)) k (sl (12 * i) f8) f14))), (d15, .inl (G.2.1 1, 192, .inr (.inl (mo (12 * (4 * i + u)) k (sl (12 * i) f9) f15)))), (d16, .inl (G.2.1 2, 192, .inl (mo (12 * (4 * i + u)) k (sl (12 * i) f11) f16)))]) 5 (fun k y => [(4, .int (nI k)), (3, .int (nI ((4 * i) + u))), (0, .ref ma), (1, .int (nI i))]) 52 (fun k yy hk hi ih H locs ls hP hD hS hl => ?_) 0 () (by first | exact Nat.zero_le _ | omega) trivial _ _ _ hP hD hS (lv_sub hl [0, 1, 2, 3] rfl)
  have hl : lv_has ls 5 [(4, .int (nI k)), (3, .int (nI ((4 * i) + u))), (0, .ref ma), (1, .int (nI i))] := hl
  have hi : True := hi
  have hP : va_P G.1 vwCl [(ma, .inr (4, [.ref d0, .ref d1, .ref d2, .ref d3, .ref d4, .ref d5, .ref d6, .ref d7, .ref d8, .ref d9, .ref d10, .ref d11, .ref d12, .ref d13, .ref d14, .ref d15, .ref d16, .int (0:Int32)])), (d5, .inl (G.2.1 0, 4, .inl f5)), (d8, .inl (G.2.1 0, 48, .inl f8)), (d9, .inl (G.2.1 1, 48, .inr (.inl f9))), (d11, .inl (G.2.1 2, 48, .inl f11)), (d13, .inl (G.2.1 0, 16, .inl (upd f13 (4 * i + u) (nI n)))), (d14, .inl (G.2.1 0, 192, .inl (mo (12 * (4 * i + u)) k (sl (12 * i) f8) f14))), (d15, .inl (G.2.1 1, 192, .inr (.inl (mo (12 * (4 * i + u)) k (sl (12 * i) f9) f15)))), (d16, .inl (G.2.1 2, 192, .inl (mo (12 * (4 * i + u)) k (sl (12 * i) f11) f16)))] H := hP
  have hD : va_D A [(ma, .inr (4, [.ref d0, .ref d1, .ref d2, .ref d3, .ref d4, .ref d5, .ref d6, .ref d7, .ref d8, .ref d9, .ref d10, .ref d11, .ref d12, .ref d13, .ref d14, .ref d15, .ref d16, .int (0:Int32)])), (d5, .inl (G.2.1 0, 4, .inl f5)), (d8, .inl (G.2.1 0, 48, .inl f8)), (d9, .inl (G.2.1 1, 48, .inr (.inl f9))), (d11, .inl (G.2.1 2, 48, .inl f11)), (d13, .inl (G.2.1 0, 16, .inl (upd f13 (4 * i + u) (nI n)))), (d14, .inl (G.2.1 0, 192, .inl (mo (12 * (4 * i + u)) k (sl (12 * i) f8) f14))), (d15, .inl (G.2.1 1, 192, .inr (.inl (mo (12 * (4 * i + u)) k (sl (12 * i) f9) f15)))), (d16, .inl (G.2.1 2, 192, .inl (mo (12 * (4 * i + u)) k (sl (12 * i) f11) f16)))] := hD
  refine lv_iload hx hb dX4_save_52 (lv_at hl 0 rfl) ?_
  refine lv_aload_n hx hb dX4_save_54 rfl (lv_at hl 2 rfl) ?_
  refine va_get (D := G.1) (ci := 4) (v := .ref d5) (C := RX4) (T := TX4) (N := 18) hx hb hts (by decide +kernel) hown hK hP 0 rfl rfl 5 (by decide) (hts (.fieldLink RX4 26 "PedalBoardModel" "many" "[I") (by decide +kernel)) (fun _ h9 => h9) rfl dX4_save_55 ?_
  refine lv_iload_n hx hb dX4_save_58 rfl (lv_at hl 3 rfl) ?_
  refine ar_ild hx hb hK hP 1 rfl i rfl (by omega) (by decide) dX4_save_59 ?_
  rw [hm]
  refine bi_ge (tgt := 141) hx hb dX4_save_60 (by decide) (fun c_1 => ?_) (fun c_1 => ?_)
  · have hk1 := nk_lt hk (by omega) c_1
    refine lv_aload_n hx hb dX4_save_63 rfl (lv_at hl 2 rfl) ?_
    refine va_get (D := G.1) (ci := 4) (v := .ref d14) (C := RX4) (T := TX4) (N := 18) hx hb hts (by decide +kernel) hown hK hP 0 rfl rfl 14 (by decide) (hts (.fieldLink RX4 54 "PedalBoardModel" "keptKind" "[I") (by decide +kernel)) (fun _ h9 => h9) rfl dX4_save_64 ?_
    refine lv_bipush (v := (12:Int32)) hx hb dX4_save_67 (by decide) ?_
    refine lv_iload_n hx hb dX4_save_69 rfl (lv_at hl 1 rfl) ?_
    refine lv_imul hx hb dX4_save_70 ?_
    rw [show ((12:Int32) * (nI ((4 * i) + u))) = nI (12 * ((4 * i) + u)) from pk_mul 12 ((4 * i) + u)]
    refine lv_iload hx hb dX4_save_71 (lv_at hl 0 rfl) ?_
    refine lv_iadd hx hb dX4_save_73 ?_
    rw [nI_add]
    refine lv_aload_n hx hb dX4_save_74 rfl (lv_at hl 2 rfl) ?_
    refine va_get (D := G.1) (ci := 4) (v := .ref d8) (C := RX4) (T := TX4) (N := 18) hx hb hts (by decide +kernel) hown hK hP 0 rfl rfl 8 (by decide) (hts (.fieldLink RX4 36 "PedalBoardModel" "sort" "[I") (by decide +kernel)) (fun _ h9 => h9) rfl dX4_save_75 ?_
    refine lv_bipush (v := (12:Int32)) hx hb dX4_save_78 (by decide) ?_
    refine lv_iload_n hx hb dX4_save_80 rfl (lv_at hl 3 rfl) ?_
    refine lv_imul hx hb dX4_save_81 ?_
    rw [show ((12:Int32) * (nI i)) = nI (12 * i) from pk_mul 12 i]
    refine lv_iload hx hb dX4_save_82 (lv_at hl 0 rfl) ?_
    refine lv_iadd hx hb dX4_save_84 ?_
    rw [nI_add]
    refine ar_ild hx hb hK hP 2 rfl ((12 * i) + k) rfl (by omega) (by decide) dX4_save_85 ?_
    refine ar_ist hx hb hK hP hD hS 6 rfl ((12 * ((4 * i) + u)) + k) rfl (by omega) (by decide) dX4_save_86 (fun H locs hP hD hS => ?_)
    have hP : va_P G.1 vwCl [(ma, .inr (4, [.ref d0, .ref d1, .ref d2, .ref d3, .ref d4, .ref d5, .ref d6, .ref d7, .ref d8, .ref d9, .ref d10, .ref d11, .ref d12, .ref d13, .ref d14, .ref d15, .ref d16, .int (0:Int32)])), (d5, .inl (G.2.1 0, 4, .inl f5)), (d8, .inl (G.2.1 0, 48, .inl f8)), (d9, .inl (G.2.1 1, 48, .inr (.inl f9))), (d11, .inl (G.2.1 2, 48, .inl f11)), (d13, .inl (G.2.1 0, 16, .inl (upd f13 (4 * i + u) (nI n)))), (d14, .inl (G.2.1 0, 192, .inl (upd (mo (12 * (4 * i + u)) k (sl (12 * i) f8) f14) ((12 * ((4 * i) + u)) + k) (f8 ((12 * i) + k))))), (d15, .inl (G.2.1 1, 192, .inr (.inl (mo (12 * (4 * i + u)) k (sl (12 * i) f9) f15)))), (d16, .inl (G.2.1 2, 192, .inl (mo (12 * (4 * i + u)) k (sl (12 * i) f11) f16)))] H := hP
    have hD : va_D A [(ma, .inr (4, [.ref d0, .ref d1, .ref d2, .ref d3, .ref d4, .ref d5, .ref d6, .ref d7, .ref d8, .ref d9, .ref d10, .ref d11, .ref d12, .ref d13, .ref d14, .ref d15, .ref d16, .int (0:Int32)])), (d5, .inl (G.2.1 0, 4, .inl f5)), (d8, .inl (G.2.1 0, 48, .inl f8)), (d9, .inl (G.2.1 1, 48, .inr (.inl f9))), (d11, .inl (G.2.1 2, 48, .inl f11)), (d13, .inl (G.2.1 0, 16, .inl (upd f13 (4 * i + u) (nI n)))), (d14, .inl (G.2.1 0, 192, .inl (upd (mo (12 * (4 * i + u)) k (sl (12 * i) f8) f14) ((12 * ((4 * i) + u)) + k) (f8 ((12 * i) + k))))), (d15, .inl (G.2.1 1, 192, .inr (.inl (mo (12 * (4 * i + u)) k (sl (12 * i) f9) f15)))), (d16, .inl (G.2.1 2, 192, .inl (mo (12 * (4 * i + u)) k (sl (12 * i) f11) f16)))] := hD
    refine lv_aload_n hx hb dX4_save_87 rfl (lv_at hl 2 rfl) ?_
    refine va_get (D := G.1) (ci := 4) (v := .ref d15) (C := RX4) (T := TX4) (N := 18) hx hb hts (by decide +kernel) hown hK hP 0 rfl rfl 15 (by decide) (hts (.fieldLink RX4 57 "PedalBoardModel" "keptKnob" "[J") (by decide +kernel)) (fun _ h9 => h9) rfl dX4_save_88 ?_
    refine lv_bipush (v := (12:Int32)) hx hb dX4_save_91 (by decide) ?_
    refine lv_iload_n hx hb dX4_save_93 rfl (lv_at hl 1 rfl) ?_
    refine lv_imul hx hb dX4_save_94 ?_
    rw [show ((12:Int32) * (nI ((4 * i) + u))) = nI (12 * ((4 * i) + u)) from pk_mul 12 ((4 * i) + u)]
    refine lv_iload hx hb dX4_save_95 (lv_at hl 0 rfl) ?_
    refine lv_iadd hx hb dX4_save_97 ?_
    rw [nI_add]
    refine lv_aload_n hx hb dX4_save_98 rfl (lv_at hl 2 rfl) ?_
    refine va_get (D := G.1) (ci := 4) (v := .ref d9) (C := RX4) (T := TX4) (N := 18) hx hb hts (by decide +kernel) hown hK hP 0 rfl rfl 9 (by decide) (hts (.fieldLink RX4 39 "PedalBoardModel" "knob" "[J") (by decide +kernel)) (fun _ h9 => h9) rfl dX4_save_99 ?_
    refine lv_bipush (v := (12:Int32)) hx hb dX4_save_102 (by decide) ?_
    refine lv_iload_n hx hb dX4_save_104 rfl (lv_at hl 3 rfl) ?_
    refine lv_imul hx hb dX4_save_105 ?_
    rw [show ((12:Int32) * (nI i)) = nI (12 * i) from pk_mul 12 i]
    refine lv_iload hx hb dX4_save_106 (lv_at hl 0 rfl) ?_
    refine lv_iadd hx hb dX4_save_108 ?_
    rw [nI_add]
    refine ar_lld hx hb hK hP 3 rfl ((12 * i) + k) rfl (by omega) (by decide) dX4_save_109 ?_
    refine ar_lst hx hb hK hP hD hS 7 rfl ((12 * ((4 * i) + u)) + k) rfl (by omega) (by decide) dX4_save_110 (fun H locs hP hD hS => ?_)
    have hP : va_P G.1 vwCl [(ma, .inr (4, [.ref d0, .ref d1, .ref d2, .ref d3, .ref d4, .ref d5, .ref d6, .ref d7, .ref d8, .ref d9, .ref d10, .ref d11, .ref d12, .ref d13, .ref d14, .ref d15, .ref d16, .int (0:Int32)])), (d5, .inl (G.2.1 0, 4, .inl f5)), (d8, .inl (G.2.1 0, 48, .inl f8)), (d9, .inl (G.2.1 1, 48, .inr (.inl f9))), (d11, .inl (G.2.1 2, 48, .inl f11)), (d13, .inl (G.2.1 0, 16, .inl (upd f13 (4 * i + u) (nI n)))), (d14, .inl (G.2.1 0, 192, .inl (upd (mo (12 * (4 * i + u)) k (sl (12 * i) f8) f14) ((12 * ((4 * i) + u)) + k) (f8 ((12 * i) + k))))), (d15, .inl (G.2.1 1, 192, .inr (.inl (vp_updL (mo (12 * (4 * i + u)) k (sl (12 * i) f9) f15) ((12 * ((4 * i) + u)) + k) (f9 ((12 * i) + k)))))), (d16, .inl (G.2.1 2, 192, .inl (mo (12 * (4 * i + u)) k (sl (12 * i) f11) f16)))] H := hP
    have hD : va_D A [(ma, .inr (4, [.ref d0, .ref d1, .ref d2, .ref d3, .ref d4, .ref d5, .ref d6, .ref d7, .ref d8, .ref d9, .ref d10, .ref d11, .ref d12, .ref d13, .ref d14, .ref d15, .ref d16, .int (0:Int32)])), (d5, .inl (G.2.1 0, 4, .inl f5)), (d8, .inl (G.2.1 0, 48, .inl f8)), (d9, .inl (G.2.1 1, 48, .inr (.inl f9))), (d11, .inl (G.2.1 2, 48, .inl f11)), (d13, .inl (G.2.1 0, 16, .inl (upd f13 (4 * i + u) (nI n)))), (d14, .inl (G.2.1 0, 192, .inl (upd (mo (12 * (4 * i + u)) k (sl (12 * i) f8) f14) ((12 * ((4 * i) + u)) + k) (f8 ((12 * i) + k))))), (d15, .inl (G.2.1 1, 192, .inr (.inl (vp_updL (mo (12 * (4 * i + u)) k (sl (12 * i) f9) f15) ((12 * ((4 * i) + u)) + k) (f9 ((12 * i) + k)))))), (d16, .inl (G.2.1 2, 192, .inl (mo (12 * (4 * i + u)) k (sl (12 * i) f11) f16)))] := hD
    refine lv_aload_n hx hb dX4_save_111 rfl (lv_at hl 2 rfl) ?_
    refine va_get (D := G.1) (ci := 4) (v := .ref d16) (C := RX4) (T := TX4) (N := 18) hx hb hts (by decide +kernel) hown hK hP 0 rfl rfl 16 (by decide) (hts (.fieldLink RX4 60 "PedalBoardModel" "keptOn" "[Z") (by decide +kernel)) (fun _ h9 => h9) rfl dX4_save_112 ?_
    refine lv_bipush (v := (12:Int32)) hx hb dX4_save_115 (by decide) ?_
    refine lv_iload_n hx hb dX4_save_117 rfl (lv_at hl 1 rfl) ?_
    refine lv_imul hx hb dX4_save_118 ?_
    rw [show ((12:Int32) * (nI ((4 * i) + u))) = nI (12 * ((4 * i) + u)) from pk_mul 12 ((4 * i) + u)]
    refine lv_iload hx hb dX4_save_119 (lv_at hl 0 rfl) ?_
    refine lv_iadd hx hb dX4_save_121 ?_
    rw [nI_add]
    refine lv_aload_n hx hb dX4_save_122 rfl (lv_at hl 2 rfl) ?_
    refine va_get (D := G.1) (ci := 4) (v := .ref d11) (C := RX4) (T := TX4) (N := 18) hx hb hts (by decide +kernel) hown hK hP 0 rfl rfl 11 (by decide) (hts (.fieldLink RX4 45 "PedalBoardModel" "on" "[Z") (by decide +kernel)) (fun _ h9 => h9) rfl dX4_save_123 ?_
    refine lv_bipush (v := (12:Int32)) hx hb dX4_save_126 (by decide) ?_
    refine lv_iload_n hx hb dX4_save_128 rfl (lv_at hl 3 rfl) ?_
    refine lv_imul hx hb dX4_save_129 ?_
    rw [show ((12:Int32) * (nI i)) = nI (12 * i) from pk_mul 12 i]
    refine lv_iload hx hb dX4_save_130 (lv_at hl 0 rfl) ?_
    refine lv_iadd hx hb dX4_save_132 ?_
    rw [nI_add]
    refine ar_zld hx hb hK hP 4 rfl ((12 * i) + k) rfl (by omega) (by decide) dX4_save_133 ?_
    refine ar_zst hx hb hK hP hD hS 8 rfl ((12 * ((4 * i) + u)) + k) rfl (by omega) (by decide) (hz11 _) dX4_save_134 (fun H locs hP hD hS => ?_)
    have hP : va_P G.1 vwCl [(ma, .inr (4, [.ref d0, .ref d1, .ref d2, .ref d3, .ref d4, .ref d5, .ref d6, .ref d7, .ref d8, .ref d9, .ref d10, .ref d11, .ref d12, .ref d13, .ref d14, .ref d15, .ref d16, .int (0:Int32)])), (d5, .inl (G.2.1 0, 4, .inl f5)), (d8, .inl (G.2.1 0, 48, .inl f8)), (d9, .inl (G.2.1 1, 48, .inr (.inl f9))), (d11, .inl (G.2.1 2, 48, .inl f11)), (d13, .inl (G.2.1 0, 16, .inl (upd f13 (4 * i + u) (nI n)))), (d14, .inl (G.2.1 0, 192, .inl (upd (mo (12 * (4 * i + u)) k (sl (12 * i) f8) f14) ((12 * ((4 * i) + u)) + k) (f8 ((12 * i) + k))))), (d15, .inl (G.2.1 1, 192, .inr (.inl (vp_updL (mo (12 * (4 * i + u)) k (sl (12 * i) f9) f15) ((12 * ((4 * i) + u)) + k) (f9 ((12 * i) + k)))))), (d16, .inl (G.2.1 2, 192, .inl (upd (mo (12 * (4 * i + u)) k (sl (12 * i) f11) f16) ((12 * ((4 * i) + u)) + k) (f11 ((12 * i) + k)))))] H := hP
    have hD : va_D A [(ma, .inr (4, [.ref d0, .ref d1, .ref d2, .ref d3, .ref d4, .ref d5, .ref d6, .ref d7, .ref d8, .ref d9, .ref d10, .ref d11, .ref d12, .ref d13, .ref d14, .ref d15, .ref d16, .int (0:Int32)])), (d5, .inl (G.2.1 0, 4, .inl f5)), (d8, .inl (G.2.1 0, 48, .inl f8)), (d9, .inl (G.2.1 1, 48, .inr (.inl f9))), (d11, .inl (G.2.1 2, 48, .inl f11)), (d13, .inl (G.2.1 0, 16, .inl (upd f13 (4 * i + u) (nI n)))), (d14, .inl (G.2.1 0, 192, .inl (upd (mo (12 * (4 * i + u)) k (sl (12 * i) f8) f14) ((12 * ((4 * i) + u)) + k) (f8 ((12 * i) + k))))), (d15, .inl (G.2.1 1, 192, .inr (.inl (vp_updL (mo (12 * (4 * i + u)) k (sl (12 * i) f9) f15) ((12 * ((4 * i) + u)) + k) (f9 ((12 * i) + k)))))), (d16, .inl (G.2.1 2, 192, .inl (upd (mo (12 * (4 * i + u)) k (sl (12 * i) f11) f16) ((12 * ((4 * i) + u)) + k) (f11 ((12 * i) + k)))))] := hD
    refine lv_iinc (v := (nI (k + 1))) (lv' := [(4, .int (nI (k + 1))), (3, .int (nI ((4 * i) + u))), (0, .ref ma), (1, .int (nI i))]) hx hb dX4_save_135 hl (k := 0) rfl (by rw [← nI_1]; rfl) (by decide) rfl (fun ls hl => ?_)
    refine lv_goto (tgt := 52) hx hb dX4_save_138 (by decide) ?_
    rw [sv_I, sv_J, sv_I] at hP hD
    exact ih (nk_lt hk (by omega) c_1) () trivial _ _ _ hP hD hS (lv_sub hl [0, 1, 2, 3] rfl)
  · rw [nk_ge hk (by omega) c_1] at hP hD
    have hP : va_P G.1 vwCl [(ma, .inr (4, [.ref d0, .ref d1, .ref d2, .ref d3, .ref d4, .ref d5, .ref d6, .ref d7, .ref d8, .ref d9, .ref d10, .ref d11, .ref d12, .ref d13, .ref d14, .ref d15, .ref d16, .int (0:Int32)])), (d5, .inl (G.2.1 0, 4, .inl f5)), (d8, .inl (G.2.1 0, 48, .inl f8)), (d9, .inl (G.2.1 1, 48, .inr (.inl f9))), (d11, .inl (G.2.1 2, 48, .inl f11)), (d13, .inl (G.2.1 0, 16, .inl (upd f13 (4 * i + u) (nI n)))), (d14, .inl (G.2.1 0, 192, .inl (mo (12 * (4 * i + u)) n (sl (12 * i) f8) f14))), (d15, .inl (G.2.1 1, 192, .inr (.inl (mo (12 * (4 * i + u)) n (sl (12 * i) f9) f15)))), (d16, .inl (G.2.1 2, 192, .inl (mo (12 * (4 * i + u)) n (sl (12 * i) f11) f16)))] H := hP
    have hD : va_D A [(ma, .inr (4, [.ref d0, .ref d1, .ref d2, .ref d3, .ref d4, .ref d5, .ref d6, .ref d7, .ref d8, .ref d9, .ref d10, .ref d11, .ref d12, .ref d13, .ref d14, .ref d15, .ref d16, .int (0:Int32)])), (d5, .inl (G.2.1 0, 4, .inl f5)), (d8, .inl (G.2.1 0, 48, .inl f8)), (d9, .inl (G.2.1 1, 48, .inr (.inl f9))), (d11, .inl (G.2.1 2, 48, .inl f11)), (d13, .inl (G.2.1 0, 16, .inl (upd f13 (4 * i + u) (nI n)))), (d14, .inl (G.2.1 0, 192, .inl (mo (12 * (4 * i + u)) n (sl (12 * i) f8) f14))), (d15, .inl (G.2.1 1, 192, .inr (.inl (mo (12 * (4 * i + u)) n (sl (12 * i) f9) f15)))), (d16, .inl (G.2.1 2, 192, .inl (mo (12 * (4 * i + u)) n (sl (12 * i) f11) f16)))] := hD
    refine lv_aload_n hx hb dX4_save_141 rfl (lv_at hl 2 rfl) ?_
    refine va_get (D := G.1) (ci := 4) (v := .ref d5) (C := RX4) (T := TX4) (N := 18) hx hb hts (by decide +kernel) hown hK hP 0 rfl rfl 5 (by decide) (hts (.fieldLink RX4 26 "PedalBoardModel" "many" "[I") (by decide +kernel)) (fun _ h9 => h9) rfl dX4_save_142 ?_
    refine lv_iload_n hx hb dX4_save_145 rfl (lv_at hl 3 rfl) ?_
    refine ar_ild hx hb hK hP 1 rfl i rfl (by omega) (by decide) dX4_save_146 ?_
    rw [hm]
    exact rt_i hx hb hr hlocks hP hD hS dX4_save_147 rfl
set_option maxHeartbeats 4000000 in
set_option maxRecDepth 100000 in
theorem kX4_recall (l : Launch) (G : GT) (ma : Nat) (d0 : Nat) (d1 : Nat) (d2 : Nat) (d3 : Nat) (d4 : Nat) (d5 : Nat) (d6 : Nat) (d7 : Nat) (d8 : Nat) (d9 : Nat) (d10 : Nat) (d11 : Nat) (d12 : Nat) (d13 : Nat) (d14 : Nat) (d15 : Nat) (d16 : Nat) (cd : Int32) (f5 : Nat → Int32) (f6 : Nat → Int32) (f8 : Nat → Int32) (f9 : Nat → Int64) (f11 : Nat → Int32) (f13 : Nat → Int32) (f14 : Nat → Int32) (f15 : Nat → Int64) (f16 : Nat → Int32) (i : Nat) (u : Nat) (n2 : Nat) (hi4 : i < 4) (hu4 : u < 4) (hm2 : f13 (4 * i + u) = nI n2) (hn2 : n2 ≤ 12) (hz16 : ∀ k, f16 k = 0 ∨ f16 k = 1) : CI l yX4_recall wsX4_recall { frames := 1, cells := 0, slots := 0, locals := 22 } G [.ref ma, .int (nI i), .int (nI u)] [(ma, .inr (4, [.ref d0, .ref d1, .ref d2, .ref d3, .ref d4, .ref d5, .ref d6, .ref d7, .ref d8, .ref d9, .ref d10, .ref d11, .ref d12, .ref d13, .ref d14, .ref d15, .ref d16, .int cd])), (d5, .inl (G.2.1 0, 4, .inl f5)), (d6, .inl (G.2.1 2, 4, .inl f6)), (d8, .inl (G.2.1 0, 48, .inl f8)), (d9, .inl (G.2.1 1, 48, .inr (.inl f9))), (d11, .inl (G.2.1 2, 48, .inl f11)), (d13, .inl (G.2.1 0, 16, .inl f13)), (d14, .inl (G.2.1 0, 192, .inl f14)), (d15, .inl (G.2.1 1, 192, .inr (.inl f15))), (d16, .inl (G.2.1 2, 192, .inl f16))] (nI n2) [(ma, .inr (4, [.ref d0, .ref d1, .ref d2, .ref d3, .ref d4, .ref d5, .ref d6, .ref d7, .ref d8, .ref d9, .ref d10, .ref d11, .ref d12, .ref d13, .ref d14, .ref d15, .ref d16, .int (0:Int32)])), (d5, .inl (G.2.1 0, 4, .inl (upd f5 i (nI n2)))), (d6, .inl (G.2.1 2, 4, .inl (upd f6 i (0:Int32)))), (d8, .inl (G.2.1 0, 48, .inl (mo (12 * i) n2 (sl (12 * (4 * i + u)) f14) f8))), (d9, .inl (G.2.1 1, 48, .inr (.inl (mo (12 * i) n2 (sl (12 * (4 * i + u)) f15) f9)))), (d11, .inl (G.2.1 2, 48, .inl (mo (12 * i) n2 (sl (12 * (4 * i + u)) f16) f11))), (d13, .inl (G.2.1 0, 16, .inl f13)), (d14, .inl (G.2.1 0, 192, .inl f14)), (d15, .inl (G.2.1 1, 192, .inr (.inl f15))), (d16, .inl (G.2.1 2, 192, .inl f16))] := by
  refine en_i (cc := cX4_recall) (maxL := 5) (ret := (some .int)) (own := RX4) (by decide) rfl rfl (Nat.le_of_ble_eq_true rfl) ?_
  intro p e s m below meth c A ls hx hb hr hts hown hml hlocks hA hK hE hP hD hS hl
  have hl : lv_has ls 5 [(0, .ref ma), (1, .int (nI i)), (2, .int (nI u))] := hl
  refine lv_aload_n hx hb dX4_recall_0 rfl (lv_at hl 0 rfl) ?_
  refine lv_iload_n hx hb dX4_recall_1 rfl (lv_at hl 1 rfl) ?_
  refine cs_i (As := [.int (nI i)]) (rest := [.ref ma]) ⟨hx, hb, hml, hown, hts⟩ (kX4_isWire l G (nI i)) (va_cwS 1 hts gX4_recall_X4_isWire rfl rfl rfl (by decide +kernel) ⟨Nat.le_of_ble_eq_true rfl, Nat.le_of_ble_eq_true rfl⟩) hE hK hP hD hS hA hl.1 [] rfl rfl rfl rfl rfl rfl (Nat.le_of_ble_eq_true rfl) dX4_recall_2 ⟨Nat.zero_le _, Nat.zero_le _⟩ (fun H locs hP hD hS => ?_)
  have hP : va_P G.1 vwCl [(ma, .inr (4, [.ref d0, .ref d1, .ref d2, .ref d3, .ref d4, .ref d5, .ref d6, .ref d7, .ref d8, .ref d9, .ref d10, .ref d11, .ref d12, .ref d13, .ref d14, .ref d15, .ref d16, .int cd])), (d5, .inl (G.2.1 0, 4, .inl f5)), (d6, .inl (G.2.1 2, 4, .inl f6)), (d8, .inl (G.2.1 0, 48, .inl f8)), (d9, .inl (G.2.1 1, 48, .inr (.inl f9))), (d11, .inl (G.2.1 2, 48, .inl f11)), (d13, .inl (G.2.1 0, 16, .inl f13)), (d14, .inl (G.2.1 0, 192, .inl f14)), (d15, .inl (G.2.1 1, 192, .inr (.inl f15))), (d16, .inl (G.2.1 2, 192, .inl f16))] H := hP
  have hD : va_D A [(ma, .inr (4, [.ref d0, .ref d1, .ref d2, .ref d3, .ref d4, .ref d5, .ref d6, .ref d7, .ref d8, .ref d9, .ref d10, .ref d11, .ref d12, .ref d13, .ref d14, .ref d15, .ref d16, .int cd])), (d5, .inl (G.2.1 0, 4, .inl f5)), (d6, .inl (G.2.1 2, 4, .inl f6)), (d8, .inl (G.2.1 0, 48, .inl f8)), (d9, .inl (G.2.1 1, 48, .inr (.inl f9))), (d11, .inl (G.2.1 2, 48, .inl f11)), (d13, .inl (G.2.1 0, 16, .inl f13)), (d14, .inl (G.2.1 0, 192, .inl f14)), (d15, .inl (G.2.1 1, 192, .inr (.inl f15))), (d16, .inl (G.2.1 2, 192, .inl f16))] := hD
  refine bz_eq (tgt := 17) hx hb dX4_recall_5 (by decide) (fun h9 => absurd h9 (isW4_1 hi4)) (fun _ => ?_)
  refine lv_iload_n hx hb dX4_recall_8 rfl (lv_at hl 2 rfl) ?_
  refine bz_lt (tgt := 17) hx hb dX4_recall_9 (by decide) (fun h9 => absurd h9 (n_ge0 (by omega))) (fun _ => ?_)
  refine lv_iload_n hx hb dX4_recall_12 rfl (lv_at hl 2 rfl) ?_
  refine lv_iconst (v := (3:Int32)) hx hb dX4_recall_13 (by decide) ?_
  refine bi_le (tgt := 21) hx hb dX4_recall_14 (by decide) (fun h9 => absurd h9 (n_le3 hu4)) (fun _ => ?_)
  refine lv_iconst (v := (0:Int32)) hx hb dX4_recall_21 (by decide) ?_
  refine lv_iconst (v := (0:Int32)) hx hb dX4_recall_22 (by decide) ?_
  refine cv_i (As := [.int (0:Int32), .int (0:Int32)]) (rest := []) (ws' := [(ma, .inr (4, [.ref d0, .ref d1, .ref d2, .ref d3, .ref d4, .ref d5, .ref d6, .ref d7, .ref d8, .ref d9, .ref d10, .ref d11, .ref d12, .ref d13, .ref d14, .ref d15, .ref d16, .int (0:Int32)])), (d5, .inl (G.2.1 0, 4, .inl f5)), (d6, .inl (G.2.1 2, 4, .inl f6)), (d8, .inl (G.2.1 0, 48, .inl f8)), (d9, .inl (G.2.1 1, 48, .inr (.inl f9))), (d11, .inl (G.2.1 2, 48, .inl f11)), (d13, .inl (G.2.1 0, 16, .inl f13)), (d14, .inl (G.2.1 0, 192, .inl f14)), (d15, .inl (G.2.1 1, 192, .inr (.inl f15))), (d16, .inl (G.2.1 2, 192, .inl f16))]) ⟨hx, hb, hml, hown, hts⟩ (kX4_refuses00 l G ma d0 d1 d2 d3 d4 d5 d6 d7 d8 d9 d10 d11 d12 d13 d14 d15 d16 cd) (cwV 2 hts gX4_recall_X4_refuses rfl rfl rfl (by decide +kernel) ⟨Nat.le_of_ble_eq_true rfl, Nat.le_of_ble_eq_true rfl⟩) (va_recv hK hP (ci := 4) (q0 := 0) rfl rfl) hE hK hP hD hS hA hl.1 [0] rfl rfl rfl rfl rfl rfl (Nat.le_of_ble_eq_true rfl) dX4_recall_23 ⟨Nat.zero_le _, Nat.zero_le _⟩ (fun H locs hP hD hS => ?_)
  refine bz_eq (tgt := 31) hx hb dX4_recall_26 (by decide) (fun _ => ?_) (fun h9 => absurd rfl h9)
  refine lv_iconst (v := (4:Int32)) hx hb dX4_recall_31 (by decide) ?_
  refine lv_iload_n hx hb dX4_recall_32 rfl (lv_at hl 1 rfl) ?_
  refine lv_imul hx hb dX4_recall_33 ?_
  rw [show ((4:Int32) * (nI i)) = nI (4 * i) from pk_mul 4 i]
  refine lv_iload_n hx hb dX4_recall_34 rfl (lv_at hl 2 rfl) ?_
  refine lv_iadd hx hb dX4_recall_35 ?_
  rw [nI_add]
  refine lv_istore_n (lv' := [(3, .int (nI ((4 * i) + u))), (0, .ref ma), (1, .int (nI i)), (2, .int (nI u))]) hx hb dX4_recall_36 rfl hl (by decide) rfl (fun ls hl => ?_)
  refine lv_aload_n hx hb dX4_recall_37 rfl (lv_at hl 1 rfl) ?_
  refine va_get (D := G.1) (ci := 4) (v := .ref d5) (C := RX4) (T := TX4) (N := 18) hx hb hts (by decide +kernel) hown hK hP 0 rfl rfl 5 (by decide) (hts (.fieldLink RX4 26 "PedalBoardModel" "many" "[I") (by decide +kernel)) (fun _ h9 => h9) rfl dX4_recall_38 ?_
  refine lv_iload_n hx hb dX4_recall_41 rfl (lv_at hl 2 rfl) ?_
  refine lv_aload_n hx hb dX4_recall_42 rfl (lv_at hl 1 rfl) ?_
  refine va_get (D := G.1) (ci := 4) (v := .ref d13) (C := RX4) (T := TX4) (N := 18) hx hb hts (by decide +kernel) hown hK hP 0 rfl rfl 13 (by decide) (hts (.fieldLink RX4 51 "PedalBoardModel" "keptMany" "[I") (by decide +kernel)) (fun _ h9 => h9) rfl dX4_recall_43 ?_
  refine lv_iload_n hx hb dX4_recall_46 rfl (lv_at hl 0 rfl) ?_
  refine ar_ild hx hb hK hP 6 rfl ((4 * i) + u) rfl (by omega) (by decide) dX4_recall_47 ?_
  rw [hm2]
  refine ar_ist hx hb hK hP hD hS 1 rfl i rfl (by omega) (by decide) dX4_recall_48 (fun H locs hP hD hS => ?_)
  have hP : va_P G.1 vwCl [(ma, .inr (4, [.ref d0, .ref d1, .ref d2, .ref d3, .ref d4, .ref d5, .ref d6, .ref d7, .ref d8, .ref d9, .ref d10, .ref d11, .ref d12, .ref d13, .ref d14, .ref d15, .ref d16, .int (0:Int32)])), (d5, .inl (G.2.1 0, 4, .inl (upd f5 i (nI n2)))), (d6, .inl (G.2.1 2, 4, .inl f6)), (d8, .inl (G.2.1 0, 48, .inl f8)), (d9, .inl (G.2.1 1, 48, .inr (.inl f9))), (d11, .inl (G.2.1 2, 48, .inl f11)), (d13, .inl (G.2.1 0, 16, .inl f13)), (d14, .inl (G.2.1 0, 192, .inl f14)), (d15, .inl (G.2.1 1, 192, .inr (.inl f15))), (d16, .inl (G.2.1 2, 192, .inl f16))] H := hP
  have hD : va_D A [(ma, .inr (4, [.ref d0, .ref d1, .ref d2, .ref d3, .ref d4, .ref d5, .ref d6, .ref d7, .ref d8, .ref d9, .ref d10, .ref d11, .ref d12, .ref d13, .ref d14, .ref d15, .ref d16, .int (0:Int32)])), (d5, .inl (G.2.1 0, 4, .inl (upd f5 i (nI n2)))), (d6, .inl (G.2.1 2, 4, .inl f6)), (d8, .inl (G.2.1 0, 48, .inl f8)), (d9, .inl (G.2.1 1, 48, .inr (.inl f9))), (d11, .inl (G.2.1 2, 48, .inl f11)), (d13, .inl (G.2.1 0, 16, .inl f13)), (d14, .inl (G.2.1 0, 192, .inl f14)), (d15, .inl (G.2.1 1, 192, .inr (.inl f15))), (d16, .inl (G.2.1 2, 192, .inl f16))] := hD
  refine lv_iconst (v := (0:Int32)) hx hb dX4_recall_49 (by decide) ?_
  refine lv_istore (lv' := [(4, .int (0:Int32)), (3, .int (nI ((4 * i) + u))), (0, .ref ma), (1, .int (nI i)), (2, .int (nI u))]) hx hb dX4_recall_50 hl (by decide) rfl (fun ls hl => ?_)
  have hP : va_P G.1 vwCl [(ma, .inr (4, [.ref d0, .ref d1, .ref d2, .ref d3, .ref d4, .ref d5, .ref d6, .ref d7, .ref d8, .ref d9, .ref d10, .ref d11, .ref d12, .ref d13, .ref d14, .ref d15, .ref d16, .int (0:Int32)])), (d5, .inl (G.2.1 0, 4, .inl (upd f5 i (nI n2)))), (d6, .inl (G.2.1 2, 4, .inl f6)), (d8, .inl (G.2.1 0, 48, .inl (mo (12 * i) 0 (sl (12 * (4 * i + u)) f14) f8))), (d9, .inl (G.2.1 1, 48, .inr (.inl (mo (12 * i) 0 (sl (12 * (4 * i + u)) f15) f9)))), (d11, .inl (G.2.1 2, 48, .inl (mo (12 * i) 0 (sl (12 * (4 * i + u)) f16) f11))), (d13, .inl (G.2.1 0, 16, .inl f13)), (d14, .inl (G.2.1 0, 192, .inl f14)), (d15, .inl (G.2.1 1, 192, .inr (.inl f15))), (d16, .inl (G.2.1 2, 192, .inl f16))] H := by rw [mo_0, mo_0, mo_0]; exact hP
  have hD : va_D A [(ma, .inr (4, [.ref d0, .ref d1, .ref d2, .ref d3, .ref d4, .ref d5, .ref d6, .ref d7, .ref d8, .ref d9, .ref d10, .ref d11, .ref d12, .ref d13, .ref d14, .ref d15, .ref d16, .int (0:Int32)])), (d5, .inl (G.2.1 0, 4, .inl (upd f5 i (nI n2)))), (d6, .inl (G.2.1 2, 4, .inl f6)), (d8, .inl (G.2.1 0, 48, .inl (mo (12 * i) 0 (sl (12 * (4 * i + u)) f14) f8))), (d9, .inl (G.2.1 1, 48, .inr (.inl (mo (12 * i) 0 (sl (12 * (4 * i + u)) f15) f9)))), (d11, .inl (G.2.1 2, 48, .inl (mo (12 * i) 0 (sl (12 * (4 * i + u)) f16) f11))), (d13, .inl (G.2.1 0, 16, .inl f13)), (d14, .inl (G.2.1 0, 192, .inl f14)), (d15, .inl (G.2.1 1, 192, .inr (.inl f15))), (d16, .inl (G.2.1 2, 192, .inl f16))] := by rw [mo_0, mo_0, mo_0]; exact hD
  refine lp_1 (T := Unit) G A n2 (fun k y => True) (fun k y => [(ma, .inr (4, [.ref d0, .ref d1, .ref d2, .ref d3, .ref d4, .ref d5, .ref d6, .ref d7, .ref d8, .ref d9, .ref d10, .ref d11, .ref d12, .ref d13, .ref d14, .ref d15, .ref d16, .int (0:Int32)])), (d5, .inl (G.2.1 0, 4, .inl (upd f5 i (nI n2)))), (d6, .inl (G.2.1 2, 4, .inl f6)), (d8, .inl (G.2.1 0, 48, .inl (mo (12 * i) k (sl (12 * (4 * i + u)) f14) f8))), (d9, .inl (G.2.1 1, 48, .inr (.inl (mo (12 * i) k (sl (12 * (4 * i + u)) f15) f9)))), (d11, .inl (G.2.1 2, 48, .inl (mo (12 * i) k (sl (12 * (4 * i + u)) f16) f11))), (d13, .inl (G.2.1 0, 16, .inl f13)), (d14, .inl (G.2.1 0, 192, .inl f14)), (d15, .inl (G.2.1 1, 192, .inr (.inl f15))), (d16, .inl (G.2.1 2, 192, .inl f16))]) 5 (fun k y => [(4, .int (nI k)), (3, .int (nI ((4 * i) + u))), (0, .ref ma), (1, .int (nI i))]) 52 (fun k yy hk hi ih H locs ls hP hD hS hl => ?_) 0 () (by first | exact Nat.zero_le _ | omega) trivial _ _ _ hP hD hS (lv_sub hl [0, 1, 2, 3] rfl)
  have hl : lv_has ls 5 [(4, .int (nI k)), (3, .int (nI ((4 * i) + u))), (0, .ref ma), (1, .int (nI i))] := hl
  have hi : True := hi
  have hP : va_P G.1 vwCl [(ma, .inr (4, [.ref d0, .ref d1, .ref d2, .ref d3, .ref d4, .ref d5, .ref d6, .ref d7, .ref d8, .ref d9, .ref d10, .ref d11, .ref d12, .ref d13, .ref d14, .ref d15, .ref d16, .int (0:Int32)])), (d5, .inl (G.2.1 0, 4, .inl (upd f5 i (nI n2)))), (d6, .inl (G.2.1 2, 4, .inl f6)), (d8, .inl (G.2.1 0, 48, .inl (mo (12 * i) k (sl (12 * (4 * i + u)) f14) f8))), (d9, .inl (G.2.1 1, 48, .inr (.inl (mo (12 * i) k (sl (12 * (4 * i + u)) f15) f9)))), (d11, .inl (G.2.1 2, 48, .inl (mo (12 * i) k (sl (12 * (4 * i + u)) f16) f11))), (d13, .inl (G.2.1 0, 16, .inl f13)), (d14, .inl (G.2.1 0, 192, .inl f14)), (d15, .inl (G.2.1 1, 192, .inr (.inl f15))), (d16, .inl (G.2.1 2, 192, .inl f16))] H := hP
  have hD : va_D A [(ma, .inr (4, [.ref d0, .ref d1, .ref d2, .ref d3, .ref d4, .ref d5, .ref d6, .ref d7, .ref d8, .ref d9, .ref d10, .ref d11, .ref d12, .ref d13, .ref d14, .ref d15, .ref d16, .int (0:Int32)])), (d5, .inl (G.2.1 0, 4, .inl (upd f5 i (nI n2)))), (d6, .inl (G.2.1 2, 4, .inl f6)), (d8, .inl (G.2.1 0, 48, .inl (mo (12 * i) k (sl (12 * (4 * i + u)) f14) f8))), (d9, .inl (G.2.1 1, 48, .inr (.inl (mo (12 * i) k (sl (12 * (4 * i + u)) f15) f9)))), (d11, .inl (G.2.1 2, 48, .inl (mo (12 * i) k (sl (12 * (4 * i + u)) f16) f11))), (d13, .inl (G.2.1 0, 16, .inl f13)), (d14, .inl (G.2.1 0, 192, .inl f14)), (d15, .inl (G.2.1 1, 192, .inr (.inl f15))), (d16, .inl (G.2.1 2, 192, .inl f16))] := hD
  refine lv_iload hx hb dX4_recall_52 (lv_at hl 0 rfl) ?_
  refine lv_aload_n hx hb dX4_recall_54 rfl (lv_at hl 2 rfl) ?_
  refine va_get (D := G.1) (ci := 4) (v := .ref d5) (C := RX4) (T := TX4) (N := 18) hx hb hts (by decide +kernel) hown hK hP 0 rfl rfl 5 (by decide) (hts (.fieldLink RX4 26 "PedalBoardModel" "many" "[I") (by decide +kernel)) (fun _ h9 => h9) rfl dX4_recall_55 ?_
  refine lv_iload_n hx hb dX4_recall_58 rfl (lv_at hl 3 rfl) ?_
  refine ar_ild hx hb hK hP 1 rfl i rfl (by omega) (by decide) dX4_recall_59 ?_
  rw [upd_same]
  refine bi_ge (tgt := 141) hx hb dX4_recall_60 (by decide) (fun c_1 => ?_) (fun c_1 => ?_)
  · have hk1 := nk_lt hk (by omega) c_1
    refine lv_aload_n hx hb dX4_recall_63 rfl (lv_at hl 2 rfl) ?_
    refine va_get (D := G.1) (ci := 4) (v := .ref d8) (C := RX4) (T := TX4) (N := 18) hx hb hts (by decide +kernel) hown hK hP 0 rfl rfl 8 (by decide) (hts (.fieldLink RX4 36 "PedalBoardModel" "sort" "[I") (by decide +kernel)) (fun _ h9 => h9) rfl dX4_recall_64 ?_
    refine lv_bipush (v := (12:Int32)) hx hb dX4_recall_67 (by decide) ?_
    refine lv_iload_n hx hb dX4_recall_69 rfl (lv_at hl 3 rfl) ?_
    refine lv_imul hx hb dX4_recall_70 ?_
    rw [show ((12:Int32) * (nI i)) = nI (12 * i) from pk_mul 12 i]
    refine lv_iload hx hb dX4_recall_71 (lv_at hl 0 rfl) ?_
    refine lv_iadd hx hb dX4_recall_73 ?_
    rw [nI_add]
    refine lv_aload_n hx hb dX4_recall_74 rfl (lv_at hl 2 rfl) ?_
    refine va_get (D := G.1) (ci := 4) (v := .ref d14) (C := RX4) (T := TX4) (N := 18) hx hb hts (by decide +kernel) hown hK hP 0 rfl rfl 14 (by decide) (hts (.fieldLink RX4 54 "PedalBoardModel" "keptKind" "[I") (by decide +kernel)) (fun _ h9 => h9) rfl dX4_recall_75 ?_
    refine lv_bipush (v := (12:Int32)) hx hb dX4_recall_78 (by decide) ?_
    refine lv_iload_n hx hb dX4_recall_80 rfl (lv_at hl 1 rfl) ?_
    refine lv_imul hx hb dX4_recall_81 ?_
    rw [show ((12:Int32) * (nI ((4 * i) + u))) = nI (12 * ((4 * i) + u)) from pk_mul 12 ((4 * i) + u)]
    refine lv_iload hx hb dX4_recall_82 (lv_at hl 0 rfl) ?_
    refine lv_iadd hx hb dX4_recall_84 ?_
    rw [nI_add]
    refine ar_ild hx hb hK hP 7 rfl ((12 * ((4 * i) + u)) + k) rfl (by omega) (by decide) dX4_recall_85 ?_
    refine ar_ist hx hb hK hP hD hS 3 rfl ((12 * i) + k) rfl (by omega) (by decide) dX4_recall_86 (fun H locs hP hD hS => ?_)
    have hP : va_P G.1 vwCl [(ma, .inr (4, [.ref d0, .ref d1, .ref d2, .ref d3, .ref d4, .ref d5, .ref d6, .ref d7, .ref d8, .ref d9, .ref d10, .ref d11, .ref d12, .ref d13, .ref d14, .ref d15, .ref d16, .int (0:Int32)])), (d5, .inl (G.2.1 0, 4, .inl (upd f5 i (nI n2)))), (d6, .inl (G.2.1 2, 4, .inl f6)), (d8, .inl (G.2.1 0, 48, .inl (upd (mo (12 * i) k (sl (12 * (4 * i + u)) f14) f8) ((12 * i) + k) (f14 ((12 * ((4 * i) + u)) + k))))), (d9, .inl (G.2.1 1, 48, .inr (.inl (mo (12 * i) k (sl (12 * (4 * i + u)) f15) f9)))), (d11, .inl (G.2.1 2, 48, .inl (mo (12 * i) k (sl (12 * (4 * i + u)) f16) f11))), (d13, .inl (G.2.1 0, 16, .inl f13)), (d14, .inl (G.2.1 0, 192, .inl f14)), (d15, .inl (G.2.1 1, 192, .inr (.inl f15))), (d16, .inl (G.2.1 2, 192, .inl f16))] H := hP
    have hD : va_D A [(ma, .inr (4, [.ref d0, .ref d1, .ref d2, .ref d3, .ref d4, .ref d5, .ref d6, .ref d7, .ref d8, .ref d9, .ref d10, .ref d11, .ref d12, .ref d13, .ref d14, .ref d15, .ref d16, .int (0:Int32)])), (d5, .inl (G.2.1 0, 4, .inl (upd f5 i (nI n2)))), (d6, .inl (G.2.1 2, 4, .inl f6)), (d8, .inl (G.2.1 0, 48, .inl (upd (mo (12 * i) k (sl (12 * (4 * i + u)) f14) f8) ((12 * i) + k) (f14 ((12 * ((4 * i) + u)) + k))))), (d9, .inl (G.2.1 1, 48, .inr (.inl (mo (12 * i) k (sl (12 * (4 * i + u)) f15) f9)))), (d11, .inl (G.2.1 2, 48, .inl (mo (12 * i) k (sl (12 * (4 * i + u)) f16) f11))), (d13, .inl (G.2.1 0, 16, .inl f13)), (d14, .inl (G.2.1 0, 192, .inl f14)), (d15, .inl (G.2.1 1, 192, .inr (.inl f15))), (d16, .inl (G.2.1 2, 192, .inl f16))] := hD
    refine lv_aload_n hx hb dX4_recall_87 rfl (lv_at hl 2 rfl) ?_
    refine va_get (D := G.1) (ci := 4) (v := .ref d9) (C := RX4) (T := TX4) (N := 18) hx hb hts (by decide +kernel) hown hK hP 0 rfl rfl 9 (by decide) (hts (.fieldLink RX4 39 "PedalBoardModel" "knob" "[J") (by decide +kernel)) (fun _ h9 => h9) rfl dX4_recall_88 ?_
    refine lv_bipush (v := (12:Int32)) hx hb dX4_recall_91 (by decide) ?_
    refine lv_iload_n hx hb dX4_recall_93 rfl (lv_at hl 3 rfl) ?_
    refine lv_imul hx hb dX4_recall_94 ?_
    rw [show ((12:Int32) * (nI i)) = nI (12 * i) from pk_mul 12 i]
    refine lv_iload hx hb dX4_recall_95 (lv_at hl 0 rfl) ?_
    refine lv_iadd hx hb dX4_recall_97 ?_
    rw [nI_add]
    refine lv_aload_n hx hb dX4_recall_98 rfl (lv_at hl 2 rfl) ?_
    refine va_get (D := G.1) (ci := 4) (v := .ref d15) (C := RX4) (T := TX4) (N := 18) hx hb hts (by decide +kernel) hown hK hP 0 rfl rfl 15 (by decide) (hts (.fieldLink RX4 57 "PedalBoardModel" "keptKnob" "[J") (by decide +kernel)) (fun _ h9 => h9) rfl dX4_recall_99 ?_
    refine lv_bipush (v := (12:Int32)) hx hb dX4_recall_102 (by decide) ?_
    refine lv_iload_n hx hb dX4_recall_104 rfl (lv_at hl 1 rfl) ?_
    refine lv_imul hx hb dX4_recall_105 ?_
    rw [show ((12:Int32) * (nI ((4 * i) + u))) = nI (12 * ((4 * i) + u)) from pk_mul 12 ((4 * i) + u)]
    refine lv_iload hx hb dX4_recall_106 (lv_at hl 0 rfl) ?_
    refine lv_iadd hx hb dX4_recall_108 ?_
    rw [nI_add]
    refine ar_lld hx hb hK hP 8 rfl ((12 * ((4 * i) + u)) + k) rfl (by omega) (by decide) dX4_recall_109 ?_
    refine ar_lst hx hb hK hP hD hS 4 rfl ((12 * i) + k) rfl (by omega) (by decide) dX4_recall_110 (fun H locs hP hD hS => ?_)
    have hP : va_P G.1 vwCl [(ma, .inr (4, [.ref d0, .ref d1, .ref d2, .ref d3, .ref d4, .ref d5, .ref d6, .ref d7, .ref d8, .ref d9, .ref d10, .ref d11, .ref d12, .ref d13, .ref d14, .ref d15, .ref d16, .int (0:Int32)])), (d5, .inl (G.2.1 0, 4, .inl (upd f5 i (nI n2)))), (d6, .inl (G.2.1 2, 4, .inl f6)), (d8, .inl (G.2.1 0, 48, .inl (upd (mo (12 * i) k (sl (12 * (4 * i + u)) f14) f8) ((12 * i) + k) (f14 ((12 * ((4 * i) + u)) + k))))), (d9, .inl (G.2.1 1, 48, .inr (.inl (vp_updL (mo (12 * i) k (sl (12 * (4 * i + u)) f15) f9) ((12 * i) + k) (f15 ((12 * ((4 * i) + u)) + k)))))), (d11, .inl (G.2.1 2, 48, .inl (mo (12 * i) k (sl (12 * (4 * i + u)) f16) f11))), (d13, .inl (G.2.1 0, 16, .inl f13)), (d14, .inl (G.2.1 0, 192, .inl f14)), (d15, .inl (G.2.1 1, 192, .inr (.inl f15))), (d16, .inl (G.2.1 2, 192, .inl f16))] H := hP
    have hD : va_D A [(ma, .inr (4, [.ref d0, .ref d1, .ref d2, .ref d3, .ref d4, .ref d5, .ref d6, .ref d7, .ref d8, .ref d9, .ref d10, .ref d11, .ref d12, .ref d13, .ref d14, .ref d15, .ref d16, .int (0:Int32)])), (d5, .inl (G.2.1 0, 4, .inl (upd f5 i (nI n2)))), (d6, .inl (G.2.1 2, 4, .inl f6)), (d8, .inl (G.2.1 0, 48, .inl (upd (mo (12 * i) k (sl (12 * (4 * i + u)) f14) f8) ((12 * i) + k) (f14 ((12 * ((4 * i) + u)) + k))))), (d9, .inl (G.2.1 1, 48, .inr (.inl (vp_updL (mo (12 * i) k (sl (12 * (4 * i + u)) f15) f9) ((12 * i) + k) (f15 ((12 * ((4 * i) + u)) + k)))))), (d11, .inl (G.2.1 2, 48, .inl (mo (12 * i) k (sl (12 * (4 * i + u)) f16) f11))), (d13, .inl (G.2.1 0, 16, .inl f13)), (d14, .inl (G.2.1 0, 192, .inl f14)), (d15, .inl (G.2.1 1, 192, .inr (.inl f15))), (d16, .inl (G.2.1 2, 192, .inl f16))] := hD
    refine lv_aload_n hx hb dX4_recall_111 rfl (lv_at hl 2 rfl) ?_
    refine va_get (D := G.1) (ci := 4) (v := .ref d11) (C := RX4) (T := TX4) (N := 18) hx hb hts (by decide +kernel) hown hK hP 0 rfl rfl 11 (by decide) (hts (.fieldLink RX4 45 "PedalBoardModel" "on" "[Z") (by decide +kernel)) (fun _ h9 => h9) rfl dX4_recall_112 ?_
    refine lv_bipush (v := (12:Int32)) hx hb dX4_recall_115 (by decide) ?_
    refine lv_iload_n hx hb dX4_recall_117 rfl (lv_at hl 3 rfl) ?_
    refine lv_imul hx hb dX4_recall_118 ?_
    rw [show ((12:Int32) * (nI i)) = nI (12 * i) from pk_mul 12 i]
    refine lv_iload hx hb dX4_recall_119 (lv_at hl 0 rfl) ?_
    refine lv_iadd hx hb dX4_recall_121 ?_
    rw [nI_add]
    refine lv_aload_n hx hb dX4_recall_122 rfl (lv_at hl 2 rfl) ?_
    refine va_get (D := G.1) (ci := 4) (v := .ref d16) (C := RX4) (T := TX4) (N := 18) hx hb hts (by decide +kernel) hown hK hP 0 rfl rfl 16 (by decide) (hts (.fieldLink RX4 60 "PedalBoardModel" "keptOn" "[Z") (by decide +kernel)) (fun _ h9 => h9) rfl dX4_recall_123 ?_
    refine lv_bipush (v := (12:Int32)) hx hb dX4_recall_126 (by decide) ?_
    refine lv_iload_n hx hb dX4_recall_128 rfl (lv_at hl 1 rfl) ?_
    refine lv_imul hx hb dX4_recall_129 ?_
    rw [show ((12:Int32) * (nI ((4 * i) + u))) = nI (12 * ((4 * i) + u)) from pk_mul 12 ((4 * i) + u)]
    refine lv_iload hx hb dX4_recall_130 (lv_at hl 0 rfl) ?_
    refine lv_iadd hx hb dX4_recall_132 ?_
    rw [nI_add]
    refine ar_zld hx hb hK hP 9 rfl ((12 * ((4 * i) + u)) + k) rfl (by omega) (by decide) dX4_recall_133 ?_
    refine ar_zst hx hb hK hP hD hS 5 rfl ((12 * i) + k) rfl (by omega) (by decide) (hz16 _) dX4_recall_134 (fun H locs hP hD hS => ?_)
    have hP : va_P G.1 vwCl [(ma, .inr (4, [.ref d0, .ref d1, .ref d2, .ref d3, .ref d4, .ref d5, .ref d6, .ref d7, .ref d8, .ref d9, .ref d10, .ref d11, .ref d12, .ref d13, .ref d14, .ref d15, .ref d16, .int (0:Int32)])), (d5, .inl (G.2.1 0, 4, .inl (upd f5 i (nI n2)))), (d6, .inl (G.2.1 2, 4, .inl f6)), (d8, .inl (G.2.1 0, 48, .inl (upd (mo (12 * i) k (sl (12 * (4 * i + u)) f14) f8) ((12 * i) + k) (f14 ((12 * ((4 * i) + u)) + k))))), (d9, .inl (G.2.1 1, 48, .inr (.inl (vp_updL (mo (12 * i) k (sl (12 * (4 * i + u)) f15) f9) ((12 * i) + k) (f15 ((12 * ((4 * i) + u)) + k)))))), (d11, .inl (G.2.1 2, 48, .inl (upd (mo (12 * i) k (sl (12 * (4 * i + u)) f16) f11) ((12 * i) + k) (f16 ((12 * ((4 * i) + u)) + k))))), (d13, .inl (G.2.1 0, 16, .inl f13)), (d14, .inl (G.2.1 0, 192, .inl f14)), (d15, .inl (G.2.1 1, 192, .inr (.inl f15))), (d16, .inl (G.2.1 2, 192, .inl f16))] H := hP
    have hD : va_D A [(ma, .inr (4, [.ref d0, .ref d1, .ref d2, .ref d3, .ref d4, .ref d5, .ref d6, .ref d7, .ref d8, .ref d9, .ref d10, .ref d11, .ref d12, .ref d13, .ref d14, .ref d15, .ref d16, .int (0:Int32)])), (d5, .inl (G.2.1 0, 4, .inl (upd f5 i (nI n2)))), (d6, .inl (G.2.1 2, 4, .inl f6)), (d8, .inl (G.2.1 0, 48, .inl (upd (mo (12 * i) k (sl (12 * (4 * i + u)) f14) f8) ((12 * i) + k) (f14 ((12 * ((4 * i) + u)) + k))))), (d9, .inl (G.2.1 1, 48, .inr (.inl (vp_updL (mo (12 * i) k (sl (12 * (4 * i + u)) f15) f9) ((12 * i) + k) (f15 ((12 * ((4 * i) + u)) + k)))))), (d11, .inl (G.2.1 2, 48, .inl (upd (mo (12 * i) k (sl (12 * (4 * i + u)) f16) f11) ((12 * i) + k) (f16 ((12 * ((4 * i) + u)) + k))))), (d13, .inl (G.2.1 0, 16, .inl f13)), (d14, .inl (G.2.1 0, 192, .inl f14)), (d15, .inl (G.2.1 1, 192, .inr (.inl f15))), (d16, .inl (G.2.1 2, 192, .inl f16))] := hD
    refine lv_iinc (v := (nI (k + 1))) (lv' := [(4, .int (nI (k + 1))), (3, .int (nI ((4 * i) + u))), (0, .ref ma), (1, .int (nI i))]) hx hb dX4_recall_135 hl (k := 0) rfl (by rw [← nI_1]; rfl) (by decide) rfl (fun ls hl => ?_)
    refine lv_goto (tgt := 52) hx hb dX4_recall_138 (by decide) ?_
    rw [sv_I, sv_J, sv_I] at hP hD
    exact ih (nk_lt hk (by omega) c_1) () trivial _ _ _ hP hD hS (lv_sub hl [0, 1, 2, 3] rfl)
  · rw [nk_ge hk (by omega) c_1] at hP hD
    have hP : va_P G.1 vwCl [(ma, .inr (4, [.ref d0, .ref d1, .ref d2, .ref d3, .ref d4, .ref d5, .ref d6, .ref d7, .ref d8, .ref d9, .ref d10, .ref d11, .ref d12, .ref d13, .ref d14, .ref d15, .ref d16, .int (0:Int32)])), (d5, .inl (G.2.1 0, 4, .inl (upd f5 i (nI n2)))), (d6, .inl (G.2.1 2, 4, .inl f6)), (d8, .inl (G.2.1 0, 48, .inl (mo (12 * i) n2 (sl (12 * (4 * i + u)) f14) f8))), (d9, .inl (G.2.1 1, 48, .inr (.inl (mo (12 * i) n2 (sl (12 * (4 * i + u)) f15) f9)))), (d11, .inl (G.2.1 2, 48, .inl (mo (12 * i) n2 (sl (12 * (4 * i + u)) f16) f11))), (d13, .inl (G.2.1 0, 16, .inl f13)), (d14, .inl (G.2.1 0, 192, .inl f14)), (d15, .inl (G.2.1 1, 192, .inr (.inl f15))), (d16, .inl (G.2.1 2, 192, .inl f16))] H := hP
    have hD : va_D A [(ma, .inr (4, [.ref d0, .ref d1, .ref d2, .ref d3, .ref d4, .ref d5, .ref d6, .ref d7, .ref d8, .ref d9, .ref d10, .ref d11, .ref d12, .ref d13, .ref d14, .ref d15, .ref d16, .int (0:Int32)])), (d5, .inl (G.2.1 0, 4, .inl (upd f5 i (nI n2)))), (d6, .inl (G.2.1 2, 4, .inl f6)), (d8, .inl (G.2.1 0, 48, .inl (mo (12 * i) n2 (sl (12 * (4 * i + u)) f14) f8))), (d9, .inl (G.2.1 1, 48, .inr (.inl (mo (12 * i) n2 (sl (12 * (4 * i + u)) f15) f9)))), (d11, .inl (G.2.1 2, 48, .inl (mo (12 * i) n2 (sl (12 * (4 * i + u)) f16) f11))), (d13, .inl (G.2.1 0, 16, .inl f13)), (d14, .inl (G.2.1 0, 192, .inl f14)), (d15, .inl (G.2.1 1, 192, .inr (.inl f15))), (d16, .inl (G.2.1 2, 192, .inl f16))] := hD
    refine lv_aload_n hx hb dX4_recall_141 rfl (lv_at hl 2 rfl) ?_
    refine va_get (D := G.1) (ci := 4) (v := .ref d6) (C := RX4) (T := TX4) (N := 18) hx hb hts (by decide +kernel) hown hK hP 0 rfl rfl 6 (by decide) (hts (.fieldLink RX4 29 "PedalBoardModel" "traced" "[Z") (by decide +kernel)) (fun _ h9 => h9) rfl dX4_recall_142 ?_
    refine lv_iload_n hx hb dX4_recall_145 rfl (lv_at hl 3 rfl) ?_
    refine lv_iconst (v := (0:Int32)) hx hb dX4_recall_146 (by decide) ?_
    refine ar_zst hx hb hK hP hD hS 2 rfl i rfl (by omega) (by decide) (Or.inl rfl) dX4_recall_147 (fun H locs hP hD hS => ?_)
    have hP : va_P G.1 vwCl [(ma, .inr (4, [.ref d0, .ref d1, .ref d2, .ref d3, .ref d4, .ref d5, .ref d6, .ref d7, .ref d8, .ref d9, .ref d10, .ref d11, .ref d12, .ref d13, .ref d14, .ref d15, .ref d16, .int (0:Int32)])), (d5, .inl (G.2.1 0, 4, .inl (upd f5 i (nI n2)))), (d6, .inl (G.2.1 2, 4, .inl (upd f6 i (0:Int32)))), (d8, .inl (G.2.1 0, 48, .inl (mo (12 * i) n2 (sl (12 * (4 * i + u)) f14) f8))), (d9, .inl (G.2.1 1, 48, .inr (.inl (mo (12 * i) n2 (sl (12 * (4 * i + u)) f15) f9)))), (d11, .inl (G.2.1 2, 48, .inl (mo (12 * i) n2 (sl (12 * (4 * i + u)) f16) f11))), (d13, .inl (G.2.1 0, 16, .inl f13)), (d14, .inl (G.2.1 0, 192, .inl f14)), (d15, .inl (G.2.1 1, 192, .inr (.inl f15))), (d16, .inl (G.2.1 2, 192, .inl f16))] H := hP
    have hD : va_D A [(ma, .inr (4, [.ref d0, .ref d1, .ref d2, .ref d3, .ref d4, .ref d5, .ref d6, .ref d7, .ref d8, .ref d9, .ref d10, .ref d11, .ref d12, .ref d13, .ref d14, .ref d15, .ref d16, .int (0:Int32)])), (d5, .inl (G.2.1 0, 4, .inl (upd f5 i (nI n2)))), (d6, .inl (G.2.1 2, 4, .inl (upd f6 i (0:Int32)))), (d8, .inl (G.2.1 0, 48, .inl (mo (12 * i) n2 (sl (12 * (4 * i + u)) f14) f8))), (d9, .inl (G.2.1 1, 48, .inr (.inl (mo (12 * i) n2 (sl (12 * (4 * i + u)) f15) f9)))), (d11, .inl (G.2.1 2, 48, .inl (mo (12 * i) n2 (sl (12 * (4 * i + u)) f16) f11))), (d13, .inl (G.2.1 0, 16, .inl f13)), (d14, .inl (G.2.1 0, 192, .inl f14)), (d15, .inl (G.2.1 1, 192, .inr (.inl f15))), (d16, .inl (G.2.1 2, 192, .inl f16))] := hD
    refine lv_aload_n hx hb dX4_recall_148 rfl (lv_at hl 2 rfl) ?_
    refine va_get (D := G.1) (ci := 4) (v := .ref d5) (C := RX4) (T := TX4) (N := 18) hx hb hts (by decide +kernel) hown hK hP 0 rfl rfl 5 (by decide) (hts (.fieldLink RX4 26 "PedalBoardModel" "many" "[I") (by decide +kernel)) (fun _ h9 => h9) rfl dX4_recall_149 ?_
    refine lv_iload_n hx hb dX4_recall_152 rfl (lv_at hl 3 rfl) ?_
    refine ar_ild hx hb hK hP 1 rfl i rfl (by omega) (by decide) dX4_recall_153 ?_
    rw [upd_same]
    exact rt_i hx hb hr hlocks hP hD hS dX4_recall_154 rfl
set_option maxHeartbeats 4000000 in
set_option maxRecDepth 100000 in
theorem kX4_saveB0 (l : Launch) (G : GT) (ma : Nat) (d0 : Nat) (d1 : Nat) (d2 : Nat) (d3 : Nat) (d4 : Nat) (d5 : Nat) (d6 : Nat) (d7 : Nat) (d8 : Nat) (d9 : Nat) (d10 : Nat) (d11 : Nat) (d12 : Nat) (d13 : Nat) (d14 : Nat) (d15 : Nat) (d16 : Nat) (cd : Int32) (wi : Int32) (ps : Int32) (hwi : fX4_isWire wi = 0) : CI l yX4_save wsX4_save { frames := 1, cells := 0, slots := 0, locals := 22 } G [.ref ma, .int wi, .int ps] [(ma, .inr (4, [.ref d0, .ref d1, .ref d2, .ref d3, .ref d4, .ref d5, .ref d6, .ref d7, .ref d8, .ref d9, .ref d10, .ref d11, .ref d12, .ref d13, .ref d14, .ref d15, .ref d16, .int cd]))] (0:Int32) [(ma, .inr (4, [.ref d0, .ref d1, .ref d2, .ref d3, .ref d4, .ref d5, .ref d6, .ref d7, .ref d8, .ref d9, .ref d10, .ref d11, .ref d12, .ref d13, .ref d14, .ref d15, .ref d16, .int (1:Int32)]))] := by
  refine en_i (cc := cX4_save) (maxL := 5) (ret := (some .int)) (own := RX4) (by decide) rfl rfl (Nat.le_of_ble_eq_true rfl) ?_
  intro p e s m below meth c A ls hx hb hr hts hown hml hlocks hA hK hE hP hD hS hl
  have hl : lv_has ls 5 [(0, .ref ma), (1, .int wi), (2, .int ps)] := hl
  refine lv_aload_n hx hb dX4_save_0 rfl (lv_at hl 0 rfl) ?_
  refine lv_iload_n hx hb dX4_save_1 rfl (lv_at hl 1 rfl) ?_
  refine cs_i (As := [.int wi]) (rest := [.ref ma]) ⟨hx, hb, hml, hown, hts⟩ (kX4_isWire l G wi) (va_cwS 1 hts gX4_save_X4_isWire rfl rfl rfl (by decide +kernel) ⟨Nat.le_of_ble_eq_true rfl, Nat.le_of_ble_eq_true rfl⟩) hE hK hP hD hS hA hl.1 [] rfl rfl rfl rfl rfl rfl (Nat.le_of_ble_eq_true rfl) dX4_save_2 ⟨Nat.zero_le _, Nat.zero_le _⟩ (fun H locs hP hD hS => ?_)
  have hP : va_P G.1 vwCl [(ma, .inr (4, [.ref d0, .ref d1, .ref d2, .ref d3, .ref d4, .ref d5, .ref d6, .ref d7, .ref d8, .ref d9, .ref d10, .ref d11, .ref d12, .ref d13, .ref d14, .ref d15, .ref d16, .int cd]))] H := hP
  have hD : va_D A [(ma, .inr (4, [.ref d0, .ref d1, .ref d2, .ref d3, .ref d4, .ref d5, .ref d6, .ref d7, .ref d8, .ref d9, .ref d10, .ref d11, .ref d12, .ref d13, .ref d14, .ref d15, .ref d16, .int cd]))] := hD
  refine bz_eq (tgt := 17) hx hb dX4_save_5 (by decide) (fun _ => ?_) (fun h9 => absurd hwi h9)
  refine lv_iconst (v := (1:Int32)) hx hb dX4_save_17 (by decide) ?_
  refine lv_goto (tgt := 22) hx hb dX4_save_18 (by decide) ?_
  refine lv_iconst (v := (0:Int32)) hx hb dX4_save_22 (by decide) ?_
  refine cv_i (As := [.int (1:Int32), .int (0:Int32)]) (rest := []) (ws' := [(ma, .inr (4, [.ref d0, .ref d1, .ref d2, .ref d3, .ref d4, .ref d5, .ref d6, .ref d7, .ref d8, .ref d9, .ref d10, .ref d11, .ref d12, .ref d13, .ref d14, .ref d15, .ref d16, .int (1:Int32)]))]) ⟨hx, hb, hml, hown, hts⟩ (kX4_refuses10 l G ma d0 d1 d2 d3 d4 d5 d6 d7 d8 d9 d10 d11 d12 d13 d14 d15 d16 cd) (cwV 2 hts gX4_save_X4_refuses rfl rfl rfl (by decide +kernel) ⟨Nat.le_of_ble_eq_true rfl, Nat.le_of_ble_eq_true rfl⟩) (va_recv hK hP (ci := 4) (q0 := 0) rfl rfl) hE hK hP hD hS hA hl.1 [0] rfl rfl rfl rfl rfl rfl (Nat.le_of_ble_eq_true rfl) dX4_save_23 ⟨Nat.zero_le _, Nat.zero_le _⟩ (fun H locs hP hD hS => ?_)
  refine bz_eq (tgt := 31) hx hb dX4_save_26 (by decide) (fun h9 => absurd h9 (by decide)) (fun _ => ?_)
  refine lv_iconst (v := (0:Int32)) hx hb dX4_save_29 (by decide) ?_
  exact rt_i hx hb hr hlocks hP hD hS dX4_save_30 rfl
set_option maxHeartbeats 4000000 in
set_option maxRecDepth 100000 in
theorem kX4_saveB1 (l : Launch) (G : GT) (ma : Nat) (d0 : Nat) (d1 : Nat) (d2 : Nat) (d3 : Nat) (d4 : Nat) (d5 : Nat) (d6 : Nat) (d7 : Nat) (d8 : Nat) (d9 : Nat) (d10 : Nat) (d11 : Nat) (d12 : Nat) (d13 : Nat) (d14 : Nat) (d15 : Nat) (d16 : Nat) (cd : Int32) (i : Nat) (ps : Int32) (hi4 : i < 4) (hps : ps < 0) : CI l yX4_save wsX4_save { frames := 1, cells := 0, slots := 0, locals := 22 } G [.ref ma, .int (nI i), .int ps] [(ma, .inr (4, [.ref d0, .ref d1, .ref d2, .ref d3, .ref d4, .ref d5, .ref d6, .ref d7, .ref d8, .ref d9, .ref d10, .ref d11, .ref d12, .ref d13, .ref d14, .ref d15, .ref d16, .int cd]))] (0:Int32) [(ma, .inr (4, [.ref d0, .ref d1, .ref d2, .ref d3, .ref d4, .ref d5, .ref d6, .ref d7, .ref d8, .ref d9, .ref d10, .ref d11, .ref d12, .ref d13, .ref d14, .ref d15, .ref d16, .int (1:Int32)]))] := by
  refine en_i (cc := cX4_save) (maxL := 5) (ret := (some .int)) (own := RX4) (by decide) rfl rfl (Nat.le_of_ble_eq_true rfl) ?_
  intro p e s m below meth c A ls hx hb hr hts hown hml hlocks hA hK hE hP hD hS hl
  have hl : lv_has ls 5 [(0, .ref ma), (1, .int (nI i)), (2, .int ps)] := hl
  refine lv_aload_n hx hb dX4_save_0 rfl (lv_at hl 0 rfl) ?_
  refine lv_iload_n hx hb dX4_save_1 rfl (lv_at hl 1 rfl) ?_
  refine cs_i (As := [.int (nI i)]) (rest := [.ref ma]) ⟨hx, hb, hml, hown, hts⟩ (kX4_isWire l G (nI i)) (va_cwS 1 hts gX4_save_X4_isWire rfl rfl rfl (by decide +kernel) ⟨Nat.le_of_ble_eq_true rfl, Nat.le_of_ble_eq_true rfl⟩) hE hK hP hD hS hA hl.1 [] rfl rfl rfl rfl rfl rfl (Nat.le_of_ble_eq_true rfl) dX4_save_2 ⟨Nat.zero_le _, Nat.zero_le _⟩ (fun H locs hP hD hS => ?_)
  have hP : va_P G.1 vwCl [(ma, .inr (4, [.ref d0, .ref d1, .ref d2, .ref d3, .ref d4, .ref d5, .ref d6, .ref d7, .ref d8, .ref d9, .ref d10, .ref d11, .ref d12, .ref d13, .ref d14, .ref d15, .ref d16, .int cd]))] H := hP
  have hD : va_D A [(ma, .inr (4, [.ref d0, .ref d1, .ref d2, .ref d3, .ref d4, .ref d5, .ref d6, .ref d7, .ref d8, .ref d9, .ref d10, .ref d11, .ref d12, .ref d13, .ref d14, .ref d15, .ref d16, .int cd]))] := hD
  refine bz_eq (tgt := 17) hx hb dX4_save_5 (by decide) (fun h9 => absurd h9 (isW4_1 hi4)) (fun _ => ?_)
  refine lv_iload_n hx hb dX4_save_8 rfl (lv_at hl 2 rfl) ?_
  refine bz_lt (tgt := 17) hx hb dX4_save_9 (by decide) (fun _ => ?_) (fun h9 => absurd hps h9)
  refine lv_iconst (v := (1:Int32)) hx hb dX4_save_17 (by decide) ?_
  refine lv_goto (tgt := 22) hx hb dX4_save_18 (by decide) ?_
  refine lv_iconst (v := (0:Int32)) hx hb dX4_save_22 (by decide) ?_
  refine cv_i (As := [.int (1:Int32), .int (0:Int32)]) (rest := []) (ws' := [(ma, .inr (4, [.ref d0, .ref d1, .ref d2, .ref d3, .ref d4, .ref d5, .ref d6, .ref d7, .ref d8, .ref d9, .ref d10, .ref d11, .ref d12, .ref d13, .ref d14, .ref d15, .ref d16, .int (1:Int32)]))]) ⟨hx, hb, hml, hown, hts⟩ (kX4_refuses10 l G ma d0 d1 d2 d3 d4 d5 d6 d7 d8 d9 d10 d11 d12 d13 d14 d15 d16 cd) (cwV 2 hts gX4_save_X4_refuses rfl rfl rfl (by decide +kernel) ⟨Nat.le_of_ble_eq_true rfl, Nat.le_of_ble_eq_true rfl⟩) (va_recv hK hP (ci := 4) (q0 := 0) rfl rfl) hE hK hP hD hS hA hl.1 [0] rfl rfl rfl rfl rfl rfl (Nat.le_of_ble_eq_true rfl) dX4_save_23 ⟨Nat.zero_le _, Nat.zero_le _⟩ (fun H locs hP hD hS => ?_)
  refine bz_eq (tgt := 31) hx hb dX4_save_26 (by decide) (fun h9 => absurd h9 (by decide)) (fun _ => ?_)
  refine lv_iconst (v := (0:Int32)) hx hb dX4_save_29 (by decide) ?_
  exact rt_i hx hb hr hlocks hP hD hS dX4_save_30 rfl
set_option maxHeartbeats 4000000 in
set_option maxRecDepth 100000 in
theorem kX4_saveB2 (l : Launch) (G : GT) (ma : Nat) (d0 : Nat) (d1 : Nat) (d2 : Nat) (d3 : Nat) (d4 : Nat) (d5 : Nat) (d6 : Nat) (d7 : Nat) (d8 : Nat) (d9 : Nat) (d10 : Nat) (d11 : Nat) (d12 : Nat) (d13 : Nat) (d14 : Nat) (d15 : Nat) (d16 : Nat) (cd : Int32) (i : Nat) (ps : Int32) (hi4 : i < 4) (hps : ¬ ps < 0) (hps2 : (3:Int32) < ps) : CI l yX4_save wsX4_save { frames := 1, cells := 0, slots := 0, locals := 22 } G [.ref ma, .int (nI i), .int ps] [(ma, .inr (4, [.ref d0, .ref d1, .ref d2, .ref d3, .ref d4, .ref d5, .ref d6, .ref d7, .ref d8, .ref d9, .ref d10, .ref d11, .ref d12, .ref d13, .ref d14, .ref d15, .ref d16, .int cd]))] (0:Int32) [(ma, .inr (4, [.ref d0, .ref d1, .ref d2, .ref d3, .ref d4, .ref d5, .ref d6, .ref d7, .ref d8, .ref d9, .ref d10, .ref d11, .ref d12, .ref d13, .ref d14, .ref d15, .ref d16, .int (1:Int32)]))] := by
  refine en_i (cc := cX4_save) (maxL := 5) (ret := (some .int)) (own := RX4) (by decide) rfl rfl (Nat.le_of_ble_eq_true rfl) ?_
  intro p e s m below meth c A ls hx hb hr hts hown hml hlocks hA hK hE hP hD hS hl
  have hl : lv_has ls 5 [(0, .ref ma), (1, .int (nI i)), (2, .int ps)] := hl
  refine lv_aload_n hx hb dX4_save_0 rfl (lv_at hl 0 rfl) ?_
  refine lv_iload_n hx hb dX4_save_1 rfl (lv_at hl 1 rfl) ?_
  refine cs_i (As := [.int (nI i)]) (rest := [.ref ma]) ⟨hx, hb, hml, hown, hts⟩ (kX4_isWire l G (nI i)) (va_cwS 1 hts gX4_save_X4_isWire rfl rfl rfl (by decide +kernel) ⟨Nat.le_of_ble_eq_true rfl, Nat.le_of_ble_eq_true rfl⟩) hE hK hP hD hS hA hl.1 [] rfl rfl rfl rfl rfl rfl (Nat.le_of_ble_eq_true rfl) dX4_save_2 ⟨Nat.zero_le _, Nat.zero_le _⟩ (fun H locs hP hD hS => ?_)
  have hP : va_P G.1 vwCl [(ma, .inr (4, [.ref d0, .ref d1, .ref d2, .ref d3, .ref d4, .ref d5, .ref d6, .ref d7, .ref d8, .ref d9, .ref d10, .ref d11, .ref d12, .ref d13, .ref d14, .ref d15, .ref d16, .int cd]))] H := hP
  have hD : va_D A [(ma, .inr (4, [.ref d0, .ref d1, .ref d2, .ref d3, .ref d4, .ref d5, .ref d6, .ref d7, .ref d8, .ref d9, .ref d10, .ref d11, .ref d12, .ref d13, .ref d14, .ref d15, .ref d16, .int cd]))] := hD
  refine bz_eq (tgt := 17) hx hb dX4_save_5 (by decide) (fun h9 => absurd h9 (isW4_1 hi4)) (fun _ => ?_)
  refine lv_iload_n hx hb dX4_save_8 rfl (lv_at hl 2 rfl) ?_
  refine bz_lt (tgt := 17) hx hb dX4_save_9 (by decide) (fun h9 => absurd h9 hps) (fun _ => ?_)
  refine lv_iload_n hx hb dX4_save_12 rfl (lv_at hl 2 rfl) ?_
  refine lv_iconst (v := (3:Int32)) hx hb dX4_save_13 (by decide) ?_
  refine bi_le (tgt := 21) hx hb dX4_save_14 (by decide) (fun _ => ?_) (fun h9 => absurd hps2 h9)
  refine lv_iconst (v := (1:Int32)) hx hb dX4_save_17 (by decide) ?_
  refine lv_goto (tgt := 22) hx hb dX4_save_18 (by decide) ?_
  refine lv_iconst (v := (0:Int32)) hx hb dX4_save_22 (by decide) ?_
  refine cv_i (As := [.int (1:Int32), .int (0:Int32)]) (rest := []) (ws' := [(ma, .inr (4, [.ref d0, .ref d1, .ref d2, .ref d3, .ref d4, .ref d5, .ref d6, .ref d7, .ref d8, .ref d9, .ref d10, .ref d11, .ref d12, .ref d13, .ref d14, .ref d15, .ref d16, .int (1:Int32)]))]) ⟨hx, hb, hml, hown, hts⟩ (kX4_refuses10 l G ma d0 d1 d2 d3 d4 d5 d6 d7 d8 d9 d10 d11 d12 d13 d14 d15 d16 cd) (cwV 2 hts gX4_save_X4_refuses rfl rfl rfl (by decide +kernel) ⟨Nat.le_of_ble_eq_true rfl, Nat.le_of_ble_eq_true rfl⟩) (va_recv hK hP (ci := 4) (q0 := 0) rfl rfl) hE hK hP hD hS hA hl.1 [0] rfl rfl rfl rfl rfl rfl (Nat.le_of_ble_eq_true rfl) dX4_save_23 ⟨Nat.zero_le _, Nat.zero_le _⟩ (fun H locs hP hD hS => ?_)
  refine bz_eq (tgt := 31) hx hb dX4_save_26 (by decide) (fun h9 => absurd h9 (by decide)) (fun _ => ?_)
  refine lv_iconst (v := (0:Int32)) hx hb dX4_save_29 (by decide) ?_
  exact rt_i hx hb hr hlocks hP hD hS dX4_save_30 rfl
set_option maxHeartbeats 4000000 in
set_option maxRecDepth 100000 in
theorem kX4_recallB0 (l : Launch) (G : GT) (ma : Nat) (d0 : Nat) (d1 : Nat) (d2 : Nat) (d3 : Nat) (d4 : Nat) (d5 : Nat) (d6 : Nat) (d7 : Nat) (d8 : Nat) (d9 : Nat) (d10 : Nat) (d11 : Nat) (d12 : Nat) (d13 : Nat) (d14 : Nat) (d15 : Nat) (d16 : Nat) (cd : Int32) (wi : Int32) (ps : Int32) (hwi : fX4_isWire wi = 0) : CI l yX4_recall wsX4_recall { frames := 1, cells := 0, slots := 0, locals := 22 } G [.ref ma, .int wi, .int ps] [(ma, .inr (4, [.ref d0, .ref d1, .ref d2, .ref d3, .ref d4, .ref d5, .ref d6, .ref d7, .ref d8, .ref d9, .ref d10, .ref d11, .ref d12, .ref d13, .ref d14, .ref d15, .ref d16, .int cd]))] (0:Int32) [(ma, .inr (4, [.ref d0, .ref d1, .ref d2, .ref d3, .ref d4, .ref d5, .ref d6, .ref d7, .ref d8, .ref d9, .ref d10, .ref d11, .ref d12, .ref d13, .ref d14, .ref d15, .ref d16, .int (1:Int32)]))] := by
  refine en_i (cc := cX4_recall) (maxL := 5) (ret := (some .int)) (own := RX4) (by decide) rfl rfl (Nat.le_of_ble_eq_true rfl) ?_
  intro p e s m below meth c A ls hx hb hr hts hown hml hlocks hA hK hE hP hD hS hl
  have hl : lv_has ls 5 [(0, .ref ma), (1, .int wi), (2, .int ps)] := hl
  refine lv_aload_n hx hb dX4_recall_0 rfl (lv_at hl 0 rfl) ?_
  refine lv_iload_n hx hb dX4_recall_1 rfl (lv_at hl 1 rfl) ?_
  refine cs_i (As := [.int wi]) (rest := [.ref ma]) ⟨hx, hb, hml, hown, hts⟩ (kX4_isWire l G wi) (va_cwS 1 hts gX4_recall_X4_isWire rfl rfl rfl (by decide +kernel) ⟨Nat.le_of_ble_eq_true rfl, Nat.le_of_ble_eq_true rfl⟩) hE hK hP hD hS hA hl.1 [] rfl rfl rfl rfl rfl rfl (Nat.le_of_ble_eq_true rfl) dX4_recall_2 ⟨Nat.zero_le _, Nat.zero_le _⟩ (fun H locs hP hD hS => ?_)
  have hP : va_P G.1 vwCl [(ma, .inr (4, [.ref d0, .ref d1, .ref d2, .ref d3, .ref d4, .ref d5, .ref d6, .ref d7, .ref d8, .ref d9, .ref d10, .ref d11, .ref d12, .ref d13, .ref d14, .ref d15, .ref d16, .int cd]))] H := hP
  have hD : va_D A [(ma, .inr (4, [.ref d0, .ref d1, .ref d2, .ref d3, .ref d4, .ref d5, .ref d6, .ref d7, .ref d8, .ref d9, .ref d10, .ref d11, .ref d12, .ref d13, .ref d14, .ref d15, .ref d16, .int cd]))] := hD
  refine bz_eq (tgt := 17) hx hb dX4_recall_5 (by decide) (fun _ => ?_) (fun h9 => absurd hwi h9)
  refine lv_iconst (v := (1:Int32)) hx hb dX4_recall_17 (by decide) ?_
  refine lv_goto (tgt := 22) hx hb dX4_recall_18 (by decide) ?_
  refine lv_iconst (v := (0:Int32)) hx hb dX4_recall_22 (by decide) ?_
  refine cv_i (As := [.int (1:Int32), .int (0:Int32)]) (rest := []) (ws' := [(ma, .inr (4, [.ref d0, .ref d1, .ref d2, .ref d3, .ref d4, .ref d5, .ref d6, .ref d7, .ref d8, .ref d9, .ref d10, .ref d11, .ref d12, .ref d13, .ref d14, .ref d15, .ref d16, .int (1:Int32)]))]) ⟨hx, hb, hml, hown, hts⟩ (kX4_refuses10 l G ma d0 d1 d2 d3 d4 d5 d6 d7 d8 d9 d10 d11 d12 d13 d14 d15 d16 cd) (cwV 2 hts gX4_recall_X4_refuses rfl rfl rfl (by decide +kernel) ⟨Nat.le_of_ble_eq_true rfl, Nat.le_of_ble_eq_true rfl⟩) (va_recv hK hP (ci := 4) (q0 := 0) rfl rfl) hE hK hP hD hS hA hl.1 [0] rfl rfl rfl rfl rfl rfl (Nat.le_of_ble_eq_true rfl) dX4_recall_23 ⟨Nat.zero_le _, Nat.zero_le _⟩ (fun H locs hP hD hS => ?_)
  refine bz_eq (tgt := 31) hx hb dX4_recall_26 (by decide) (fun h9 => absurd h9 (by decide)) (fun _ => ?_)
  refine lv_iconst (v := (0:Int32)) hx hb dX4_recall_29 (by decide) ?_
  exact rt_i hx hb hr hlocks hP hD hS dX4_recall_30 rfl
set_option maxHeartbeats 4000000 in
set_option maxRecDepth 100000 in
theorem kX4_recallB1 (l : Launch) (G : GT) (ma : Nat) (d0 : Nat) (d1 : Nat) (d2 : Nat) (d3 : Nat) (d4 : Nat) (d5 : Nat) (d6 : Nat) (d7 : Nat) (d8 : Nat) (d9 : Nat) (d10 : Nat) (d11 : Nat) (d12 : Nat) (d13 : Nat) (d14 : Nat) (d15 : Nat) (d16 : Nat) (cd : Int32) (i : Nat) (ps : Int32) (hi4 : i < 4) (hps : ps < 0) : CI l yX4_recall wsX4_recall { frames := 1, cells := 0, slots := 0, locals := 22 } G [.ref ma, .int (nI i), .int ps] [(ma, .inr (4, [.ref d0, .ref d1, .ref d2, .ref d3, .ref d4, .ref d5, .ref d6, .ref d7, .ref d8, .ref d9, .ref d10, .ref d11, .ref d12, .ref d13, .ref d14, .ref d15, .ref d16, .int cd]))] (0:Int32) [(ma, .inr (4, [.ref d0, .ref d1, .ref d2, .ref d3, .ref d4, .ref d5, .ref d6, .ref d7, .ref d8, .ref d9, .ref d10, .ref d11, .ref d12, .ref d13, .ref d14, .ref d15, .ref d16, .int (1:Int32)]))] := by
  refine en_i (cc := cX4_recall) (maxL := 5) (ret := (some .int)) (own := RX4) (by decide) rfl rfl (Nat.le_of_ble_eq_true rfl) ?_
  intro p e s m below meth c A ls hx hb hr hts hown hml hlocks hA hK hE hP hD hS hl
  have hl : lv_has ls 5 [(0, .ref ma), (1, .int (nI i)), (2, .int ps)] := hl
  refine lv_aload_n hx hb dX4_recall_0 rfl (lv_at hl 0 rfl) ?_
  refine lv_iload_n hx hb dX4_recall_1 rfl (lv_at hl 1 rfl) ?_
  refine cs_i (As := [.int (nI i)]) (rest := [.ref ma]) ⟨hx, hb, hml, hown, hts⟩ (kX4_isWire l G (nI i)) (va_cwS 1 hts gX4_recall_X4_isWire rfl rfl rfl (by decide +kernel) ⟨Nat.le_of_ble_eq_true rfl, Nat.le_of_ble_eq_true rfl⟩) hE hK hP hD hS hA hl.1 [] rfl rfl rfl rfl rfl rfl (Nat.le_of_ble_eq_true rfl) dX4_recall_2 ⟨Nat.zero_le _, Nat.zero_le _⟩ (fun H locs hP hD hS => ?_)
  have hP : va_P G.1 vwCl [(ma, .inr (4, [.ref d0, .ref d1, .ref d2, .ref d3, .ref d4, .ref d5, .ref d6, .ref d7, .ref d8, .ref d9, .ref d10, .ref d11, .ref d12, .ref d13, .ref d14, .ref d15, .ref d16, .int cd]))] H := hP
  have hD : va_D A [(ma, .inr (4, [.ref d0, .ref d1, .ref d2, .ref d3, .ref d4, .ref d5, .ref d6, .ref d7, .ref d8, .ref d9, .ref d10, .ref d11, .ref d12, .ref d13, .ref d14, .ref d15, .ref d16, .int cd]))] := hD
  refine bz_eq (tgt := 17) hx hb dX4_recall_5 (by decide) (fun h9 => absurd h9 (isW4_1 hi4)) (fun _ => ?_)
  refine lv_iload_n hx hb dX4_recall_8 rfl (lv_at hl 2 rfl) ?_
  refine bz_lt (tgt := 17) hx hb dX4_recall_9 (by decide) (fun _ => ?_) (fun h9 => absurd hps h9)
  refine lv_iconst (v := (1:Int32)) hx hb dX4_recall_17 (by decide) ?_
  refine lv_goto (tgt := 22) hx hb dX4_recall_18 (by decide) ?_
  refine lv_iconst (v := (0:Int32)) hx hb dX4_recall_22 (by decide) ?_
  refine cv_i (As := [.int (1:Int32), .int (0:Int32)]) (rest := []) (ws' := [(ma, .inr (4, [.ref d0, .ref d1, .ref d2, .ref d3, .ref d4, .ref d5, .ref d6, .ref d7, .ref d8, .ref d9, .ref d10, .ref d11, .ref d12, .ref d13, .ref d14, .ref d15, .ref d16, .int (1:Int32)]))]) ⟨hx, hb, hml, hown, hts⟩ (kX4_refuses10 l G ma d0 d1 d2 d3 d4 d5 d6 d7 d8 d9 d10 d11 d12 d13 d14 d15 d16 cd) (cwV 2 hts gX4_recall_X4_refuses rfl rfl rfl (by decide +kernel) ⟨Nat.le_of_ble_eq_true rfl, Nat.le_of_ble_eq_true rfl⟩) (va_recv hK hP (ci := 4) (q0 := 0) rfl rfl) hE hK hP hD hS hA hl.1 [0] rfl rfl rfl rfl rfl rfl (Nat.le_of_ble_eq_true rfl) dX4_recall_23 ⟨Nat.zero_le _, Nat.zero_le _⟩ (fun H locs hP hD hS => ?_)
  refine bz_eq (tgt := 31) hx hb dX4_recall_26 (by decide) (fun h9 => absurd h9 (by decide)) (fun _ => ?_)
  refine lv_iconst (v := (0:Int32)) hx hb dX4_recall_29 (by decide) ?_
  exact rt_i hx hb hr hlocks hP hD hS dX4_recall_30 rfl
set_option maxHeartbeats 4000000 in
set_option maxRecDepth 100000 in
theorem kX4_recallB2 (l : Launch) (G : GT) (ma : Nat) (d0 : Nat) (d1 : Nat) (d2 : Nat) (d3 : Nat) (d4 : Nat) (d5 : Nat) (d6 : Nat) (d7 : Nat) (d8 : Nat) (d9 : Nat) (d10 : Nat) (d11 : Nat) (d12 : Nat) (d13 : Nat) (d14 : Nat) (d15 : Nat) (d16 : Nat) (cd : Int32) (i : Nat) (ps : Int32) (hi4 : i < 4) (hps : ¬ ps < 0) (hps2 : (3:Int32) < ps) : CI l yX4_recall wsX4_recall { frames := 1, cells := 0, slots := 0, locals := 22 } G [.ref ma, .int (nI i), .int ps] [(ma, .inr (4, [.ref d0, .ref d1, .ref d2, .ref d3, .ref d4, .ref d5, .ref d6, .ref d7, .ref d8, .ref d9, .ref d10, .ref d11, .ref d12, .ref d13, .ref d14, .ref d15, .ref d16, .int cd]))] (0:Int32) [(ma, .inr (4, [.ref d0, .ref d1, .ref d2, .ref d3, .ref d4, .ref d5, .ref d6, .ref d7, .ref d8, .ref d9, .ref d10, .ref d11, .ref d12, .ref d13, .ref d14, .ref d15, .ref d16, .int (1:Int32)]))] := by
  refine en_i (cc := cX4_recall) (maxL := 5) (ret := (some .int)) (own := RX4) (by decide) rfl rfl (Nat.le_of_ble_eq_true rfl) ?_
  intro p e s m below meth c A ls hx hb hr hts hown hml hlocks hA hK hE hP hD hS hl
  have hl : lv_has ls 5 [(0, .ref ma), (1, .int (nI i)), (2, .int ps)] := hl
  refine lv_aload_n hx hb dX4_recall_0 rfl (lv_at hl 0 rfl) ?_
  refine lv_iload_n hx hb dX4_recall_1 rfl (lv_at hl 1 rfl) ?_
  refine cs_i (As := [.int (nI i)]) (rest := [.ref ma]) ⟨hx, hb, hml, hown, hts⟩ (kX4_isWire l G (nI i)) (va_cwS 1 hts gX4_recall_X4_isWire rfl rfl rfl (by decide +kernel) ⟨Nat.le_of_ble_eq_true rfl, Nat.le_of_ble_eq_true rfl⟩) hE hK hP hD hS hA hl.1 [] rfl rfl rfl rfl rfl rfl (Nat.le_of_ble_eq_true rfl) dX4_recall_2 ⟨Nat.zero_le _, Nat.zero_le _⟩ (fun H locs hP hD hS => ?_)
  have hP : va_P G.1 vwCl [(ma, .inr (4, [.ref d0, .ref d1, .ref d2, .ref d3, .ref d4, .ref d5, .ref d6, .ref d7, .ref d8, .ref d9, .ref d10, .ref d11, .ref d12, .ref d13, .ref d14, .ref d15, .ref d16, .int cd]))] H := hP
  have hD : va_D A [(ma, .inr (4, [.ref d0, .ref d1, .ref d2, .ref d3, .ref d4, .ref d5, .ref d6, .ref d7, .ref d8, .ref d9, .ref d10, .ref d11, .ref d12, .ref d13, .ref d14, .ref d15, .ref d16, .int cd]))] := hD
  refine bz_eq (tgt := 17) hx hb dX4_recall_5 (by decide) (fun h9 => absurd h9 (isW4_1 hi4)) (fun _ => ?_)
  refine lv_iload_n hx hb dX4_recall_8 rfl (lv_at hl 2 rfl) ?_
  refine bz_lt (tgt := 17) hx hb dX4_recall_9 (by decide) (fun h9 => absurd h9 hps) (fun _ => ?_)
  refine lv_iload_n hx hb dX4_recall_12 rfl (lv_at hl 2 rfl) ?_
  refine lv_iconst (v := (3:Int32)) hx hb dX4_recall_13 (by decide) ?_
  refine bi_le (tgt := 21) hx hb dX4_recall_14 (by decide) (fun _ => ?_) (fun h9 => absurd hps2 h9)
  refine lv_iconst (v := (1:Int32)) hx hb dX4_recall_17 (by decide) ?_
  refine lv_goto (tgt := 22) hx hb dX4_recall_18 (by decide) ?_
  refine lv_iconst (v := (0:Int32)) hx hb dX4_recall_22 (by decide) ?_
  refine cv_i (As := [.int (1:Int32), .int (0:Int32)]) (rest := []) (ws' := [(ma, .inr (4, [.ref d0, .ref d1, .ref d2, .ref d3, .ref d4, .ref d5, .ref d6, .ref d7, .ref d8, .ref d9, .ref d10, .ref d11, .ref d12, .ref d13, .ref d14, .ref d15, .ref d16, .int (1:Int32)]))]) ⟨hx, hb, hml, hown, hts⟩ (kX4_refuses10 l G ma d0 d1 d2 d3 d4 d5 d6 d7 d8 d9 d10 d11 d12 d13 d14 d15 d16 cd) (cwV 2 hts gX4_recall_X4_refuses rfl rfl rfl (by decide +kernel) ⟨Nat.le_of_ble_eq_true rfl, Nat.le_of_ble_eq_true rfl⟩) (va_recv hK hP (ci := 4) (q0 := 0) rfl rfl) hE hK hP hD hS hA hl.1 [0] rfl rfl rfl rfl rfl rfl (Nat.le_of_ble_eq_true rfl) dX4_recall_23 ⟨Nat.zero_le _, Nat.zero_le _⟩ (fun H locs hP hD hS => ?_)
  refine bz_eq (tgt := 31) hx hb dX4_recall_26 (by decide) (fun h9 => absurd h9 (by decide)) (fun _ => ?_)
  refine lv_iconst (v := (0:Int32)) hx hb dX4_recall_29 (by decide) ?_
  exact rt_i hx hb hr hlocks hP hD hS dX4_recall_30 rfl
set_option maxHeartbeats 4000000 in
set_option maxRecDepth 100000 in
theorem kX4_about0 (l : Launch) (G : GT) (ma : Nat) (d0 : Nat) (d1 : Nat) (d2 : Nat) (d3 : Nat) (d4 : Nat) (d5 : Nat) (d6 : Nat) (d7 : Nat) (d8 : Nat) (d9 : Nat) (d10 : Nat) (d11 : Nat) (d12 : Nat) (d13 : Nat) (d14 : Nat) (d15 : Nat) (d16 : Nat) (cd : Int32) (f5 : Nat → Int32) (i : Nat) (n : Nat) (hi4 : i < 4) (hm : f5 i = nI n) : CI l yX4_about wsX4_about { frames := 1, cells := 0, slots := 0, locals := 20 } G [.ref ma, .int (nI i), .int (0:Int32)] [(ma, .inr (4, [.ref d0, .ref d1, .ref d2, .ref d3, .ref d4, .ref d5, .ref d6, .ref d7, .ref d8, .ref d9, .ref d10, .ref d11, .ref d12, .ref d13, .ref d14, .ref d15, .ref d16, .int cd])), (d5, .inl (G.2.1 0, 4, .inl f5))] (nI n) [(ma, .inr (4, [.ref d0, .ref d1, .ref d2, .ref d3, .ref d4, .ref d5, .ref d6, .ref d7, .ref d8, .ref d9, .ref d10, .ref d11, .ref d12, .ref d13, .ref d14, .ref d15, .ref d16, .int (0:Int32)])), (d5, .inl (G.2.1 0, 4, .inl f5))] := by
  refine en_i (cc := cX4_about) (maxL := 5) (ret := (some .int)) (own := RX4) (by decide) rfl rfl (Nat.le_of_ble_eq_true rfl) ?_
  intro p e s m below meth c A ls hx hb hr hts hown hml hlocks hA hK hE hP hD hS hl
  have hl : lv_has ls 5 [(0, .ref ma), (1, .int (nI i)), (2, .int (0:Int32))] := hl
  refine lv_aload_n hx hb dX4_about_0 rfl (lv_at hl 0 rfl) ?_
  refine lv_iconst (v := (0:Int32)) hx hb dX4_about_1 (by decide) ?_
  refine va_put (D := G.1) (ci := 4) (v := .int (0:Int32)) (ty := .int) (C := RX4) (T := TX4) (N := 18) hx hb hts (by decide +kernel) tyX4 tyX4_ok nmX4 hown hK hP hD hS 0 rfl rfl 17 (by decide) (hts (.fieldLink RX4 63 "PedalBoardModel" "code" "I") (by decide +kernel)) (fun _ h9 => h9) rfl (by decide +kernel) rfl rfl (Nat.le_of_ble_eq_true rfl) dX4_about_2 (fun H locs hP hD hS => ?_)
  have hP : va_P G.1 vwCl [(ma, .inr (4, [.ref d0, .ref d1, .ref d2, .ref d3, .ref d4, .ref d5, .ref d6, .ref d7, .ref d8, .ref d9, .ref d10, .ref d11, .ref d12, .ref d13, .ref d14, .ref d15, .ref d16, .int (0:Int32)])), (d5, .inl (G.2.1 0, 4, .inl f5))] H := hP
  have hD : va_D A [(ma, .inr (4, [.ref d0, .ref d1, .ref d2, .ref d3, .ref d4, .ref d5, .ref d6, .ref d7, .ref d8, .ref d9, .ref d10, .ref d11, .ref d12, .ref d13, .ref d14, .ref d15, .ref d16, .int (0:Int32)])), (d5, .inl (G.2.1 0, 4, .inl f5))] := hD
  refine lv_iload_n hx hb dX4_about_5 rfl (lv_at hl 1 rfl) ?_
  refine cs_i (As := [.int (nI i)]) (rest := []) ⟨hx, hb, hml, hown, hts⟩ (kX4_isWire l G (nI i)) (va_cwS 1 hts gX4_about_X4_isWire rfl rfl rfl (by decide +kernel) ⟨Nat.le_of_ble_eq_true rfl, Nat.le_of_ble_eq_true rfl⟩) hE hK hP hD hS hA hl.1 [] rfl rfl rfl rfl rfl rfl (Nat.le_of_ble_eq_true rfl) dX4_about_6 ⟨Nat.zero_le _, Nat.zero_le _⟩ (fun H locs hP hD hS => ?_)
  have hP : va_P G.1 vwCl [(ma, .inr (4, [.ref d0, .ref d1, .ref d2, .ref d3, .ref d4, .ref d5, .ref d6, .ref d7, .ref d8, .ref d9, .ref d10, .ref d11, .ref d12, .ref d13, .ref d14, .ref d15, .ref d16, .int (0:Int32)])), (d5, .inl (G.2.1 0, 4, .inl f5))] H := hP
  have hD : va_D A [(ma, .inr (4, [.ref d0, .ref d1, .ref d2, .ref d3, .ref d4, .ref d5, .ref d6, .ref d7, .ref d8, .ref d9, .ref d10, .ref d11, .ref d12, .ref d13, .ref d14, .ref d15, .ref d16, .int (0:Int32)])), (d5, .inl (G.2.1 0, 4, .inl f5))] := hD
  refine bz_eq (tgt := 21) hx hb dX4_about_9 (by decide) (fun h9 => absurd h9 (isW4_1 hi4)) (fun _ => ?_)
  refine lv_iload_n hx hb dX4_about_12 rfl (lv_at hl 2 rfl) ?_
  refine bz_lt (tgt := 21) hx hb dX4_about_13 (by decide) (fun h9 => absurd h9 (by decide)) (fun _ => ?_)
  refine lv_iload_n hx hb dX4_about_16 rfl (lv_at hl 2 rfl) ?_
  refine lv_iconst (v := (3:Int32)) hx hb dX4_about_17 (by decide) ?_
  refine bi_le (tgt := 23) hx hb dX4_about_18 (by decide) (fun h9 => absurd h9 (by decide)) (fun _ => ?_)
  refine lv_iload_n hx hb dX4_about_23 rfl (lv_at hl 2 rfl) ?_
  refine bz_ne (tgt := 34) hx hb dX4_about_24 (by decide) (fun _ => ?_) (fun h9 => absurd rfl h9)
  refine lv_aload_n hx hb dX4_about_27 rfl (lv_at hl 0 rfl) ?_
  refine va_get (D := G.1) (ci := 4) (v := .ref d5) (C := RX4) (T := TX4) (N := 18) hx hb hts (by decide +kernel) hown hK hP 0 rfl rfl 5 (by decide) (hts (.fieldLink RX4 26 "PedalBoardModel" "many" "[I") (by decide +kernel)) (fun _ h9 => h9) rfl dX4_about_28 ?_
  refine lv_iload_n hx hb dX4_about_31 rfl (lv_at hl 1 rfl) ?_
  refine ar_ild hx hb hK hP 1 rfl i rfl (by omega) (by decide) dX4_about_32 ?_
  rw [hm]
  exact rt_i hx hb hr hlocks hP hD hS dX4_about_33 rfl
set_option maxHeartbeats 4000000 in
set_option maxRecDepth 100000 in
theorem kX4_about3 (l : Launch) (G : GT) (ma : Nat) (d0 : Nat) (d1 : Nat) (d2 : Nat) (d3 : Nat) (d4 : Nat) (d5 : Nat) (d6 : Nat) (d7 : Nat) (d8 : Nat) (d9 : Nat) (d10 : Nat) (d11 : Nat) (d12 : Nat) (d13 : Nat) (d14 : Nat) (d15 : Nat) (d16 : Nat) (cd : Int32) (f4 : Nat → Int32) (i : Nat) (hi4 : i < 4) : CI l yX4_about wsX4_about { frames := 1, cells := 0, slots := 0, locals := 20 } G [.ref ma, .int (nI i), .int (3:Int32)] [(ma, .inr (4, [.ref d0, .ref d1, .ref d2, .ref d3, .ref d4, .ref d5, .ref d6, .ref d7, .ref d8, .ref d9, .ref d10, .ref d11, .ref d12, .ref d13, .ref d14, .ref d15, .ref d16, .int cd])), (d4, .inl (G.2.1 0, 4, .inl f4))] (f4 i) [(ma, .inr (4, [.ref d0, .ref d1, .ref d2, .ref d3, .ref d4, .ref d5, .ref d6, .ref d7, .ref d8, .ref d9, .ref d10, .ref d11, .ref d12, .ref d13, .ref d14, .ref d15, .ref d16, .int (0:Int32)])), (d4, .inl (G.2.1 0, 4, .inl f4))] := by
  refine en_i (cc := cX4_about) (maxL := 5) (ret := (some .int)) (own := RX4) (by decide) rfl rfl (Nat.le_of_ble_eq_true rfl) ?_
  intro p e s m below meth c A ls hx hb hr hts hown hml hlocks hA hK hE hP hD hS hl
  have hl : lv_has ls 5 [(0, .ref ma), (1, .int (nI i)), (2, .int (3:Int32))] := hl
  refine lv_aload_n hx hb dX4_about_0 rfl (lv_at hl 0 rfl) ?_
  refine lv_iconst (v := (0:Int32)) hx hb dX4_about_1 (by decide) ?_
  refine va_put (D := G.1) (ci := 4) (v := .int (0:Int32)) (ty := .int) (C := RX4) (T := TX4) (N := 18) hx hb hts (by decide +kernel) tyX4 tyX4_ok nmX4 hown hK hP hD hS 0 rfl rfl 17 (by decide) (hts (.fieldLink RX4 63 "PedalBoardModel" "code" "I") (by decide +kernel)) (fun _ h9 => h9) rfl (by decide +kernel) rfl rfl (Nat.le_of_ble_eq_true rfl) dX4_about_2 (fun H locs hP hD hS => ?_)
  have hP : va_P G.1 vwCl [(ma, .inr (4, [.ref d0, .ref d1, .ref d2, .ref d3, .ref d4, .ref d5, .ref d6, .ref d7, .ref d8, .ref d9, .ref d10, .ref d11, .ref d12, .ref d13, .ref d14, .ref d15, .ref d16, .int (0:Int32)])), (d4, .inl (G.2.1 0, 4, .inl f4))] H := hP
  have hD : va_D A [(ma, .inr (4, [.ref d0, .ref d1, .ref d2, .ref d3, .ref d4, .ref d5, .ref d6, .ref d7, .ref d8, .ref d9, .ref d10, .ref d11, .ref d12, .ref d13, .ref d14, .ref d15, .ref d16, .int (0:Int32)])), (d4, .inl (G.2.1 0, 4, .inl f4))] := hD
  refine lv_iload_n hx hb dX4_about_5 rfl (lv_at hl 1 rfl) ?_
  refine cs_i (As := [.int (nI i)]) (rest := []) ⟨hx, hb, hml, hown, hts⟩ (kX4_isWire l G (nI i)) (va_cwS 1 hts gX4_about_X4_isWire rfl rfl rfl (by decide +kernel) ⟨Nat.le_of_ble_eq_true rfl, Nat.le_of_ble_eq_true rfl⟩) hE hK hP hD hS hA hl.1 [] rfl rfl rfl rfl rfl rfl (Nat.le_of_ble_eq_true rfl) dX4_about_6 ⟨Nat.zero_le _, Nat.zero_le _⟩ (fun H locs hP hD hS => ?_)
  have hP : va_P G.1 vwCl [(ma, .inr (4, [.ref d0, .ref d1, .ref d2, .ref d3, .ref d4, .ref d5, .ref d6, .ref d7, .ref d8, .ref d9, .ref d10, .ref d11, .ref d12, .ref d13, .ref d14, .ref d15, .ref d16, .int (0:Int32)])), (d4, .inl (G.2.1 0, 4, .inl f4))] H := hP
  have hD : va_D A [(ma, .inr (4, [.ref d0, .ref d1, .ref d2, .ref d3, .ref d4, .ref d5, .ref d6, .ref d7, .ref d8, .ref d9, .ref d10, .ref d11, .ref d12, .ref d13, .ref d14, .ref d15, .ref d16, .int (0:Int32)])), (d4, .inl (G.2.1 0, 4, .inl f4))] := hD
  refine bz_eq (tgt := 21) hx hb dX4_about_9 (by decide) (fun h9 => absurd h9 (isW4_1 hi4)) (fun _ => ?_)
  refine lv_iload_n hx hb dX4_about_12 rfl (lv_at hl 2 rfl) ?_
  refine bz_lt (tgt := 21) hx hb dX4_about_13 (by decide) (fun h9 => absurd h9 (by decide)) (fun _ => ?_)
  refine lv_iload_n hx hb dX4_about_16 rfl (lv_at hl 2 rfl) ?_
  refine lv_iconst (v := (3:Int32)) hx hb dX4_about_17 (by decide) ?_
  refine bi_le (tgt := 23) hx hb dX4_about_18 (by decide) (fun h9 => absurd h9 (by decide)) (fun _ => ?_)
  refine lv_iload_n hx hb dX4_about_23 rfl (lv_at hl 2 rfl) ?_
  refine bz_ne (tgt := 34) hx hb dX4_about_24 (by decide) (fun h9 => absurd h9 (by decide)) (fun _ => ?_)
  refine lv_iload_n hx hb dX4_about_34 rfl (lv_at hl 2 rfl) ?_
  refine lv_iconst (v := (3:Int32)) hx hb dX4_about_35 (by decide) ?_
  refine bi_ne (tgt := 46) hx hb dX4_about_36 (by decide) (fun _ => ?_) (fun h9 => absurd rfl h9)
  refine lv_aload_n hx hb dX4_about_39 rfl (lv_at hl 0 rfl) ?_
  refine va_get (D := G.1) (ci := 4) (v := .ref d4) (C := RX4) (T := TX4) (N := 18) hx hb hts (by decide +kernel) hown hK hP 0 rfl rfl 4 (by decide) (hts (.fieldLink RX4 22 "PedalBoardModel" "played" "[I") (by decide +kernel)) (fun _ h9 => h9) rfl dX4_about_40 ?_
  refine lv_iload_n hx hb dX4_about_43 rfl (lv_at hl 1 rfl) ?_
  refine ar_ild hx hb hK hP 1 rfl i rfl (by omega) (by decide) dX4_about_44 ?_
  exact rt_i hx hb hr hlocks hP hD hS dX4_about_45 rfl
set_option maxHeartbeats 4000000 in
set_option maxRecDepth 100000 in
theorem kX4_aboutN (l : Launch) (G : GT) (ma : Nat) (d0 : Nat) (d1 : Nat) (d2 : Nat) (d3 : Nat) (d4 : Nat) (d5 : Nat) (d6 : Nat) (d7 : Nat) (d8 : Nat) (d9 : Nat) (d10 : Nat) (d11 : Nat) (d12 : Nat) (d13 : Nat) (d14 : Nat) (d15 : Nat) (d16 : Nat) (cd : Int32) (wi : Int32) (wt9 : Int32) (hwi : fX4_isWire wi = 0) : CI l yX4_about wsX4_about { frames := 1, cells := 0, slots := 0, locals := 20 } G [.ref ma, .int wi, .int wt9] [(ma, .inr (4, [.ref d0, .ref d1, .ref d2, .ref d3, .ref d4, .ref d5, .ref d6, .ref d7, .ref d8, .ref d9, .ref d10, .ref d11, .ref d12, .ref d13, .ref d14, .ref d15, .ref d16, .int cd]))] (-1:Int32) [(ma, .inr (4, [.ref d0, .ref d1, .ref d2, .ref d3, .ref d4, .ref d5, .ref d6, .ref d7, .ref d8, .ref d9, .ref d10, .ref d11, .ref d12, .ref d13, .ref d14, .ref d15, .ref d16, .int (0:Int32)]))] := by
  refine en_i (cc := cX4_about) (maxL := 5) (ret := (some .int)) (own := RX4) (by decide) rfl rfl (Nat.le_of_ble_eq_true rfl) ?_
  intro p e s m below meth c A ls hx hb hr hts hown hml hlocks hA hK hE hP hD hS hl
  have hl : lv_has ls 5 [(0, .ref ma), (1, .int wi), (2, .int wt9)] := hl
  refine lv_aload_n hx hb dX4_about_0 rfl (lv_at hl 0 rfl) ?_
  refine lv_iconst (v := (0:Int32)) hx hb dX4_about_1 (by decide) ?_
  refine va_put (D := G.1) (ci := 4) (v := .int (0:Int32)) (ty := .int) (C := RX4) (T := TX4) (N := 18) hx hb hts (by decide +kernel) tyX4 tyX4_ok nmX4 hown hK hP hD hS 0 rfl rfl 17 (by decide) (hts (.fieldLink RX4 63 "PedalBoardModel" "code" "I") (by decide +kernel)) (fun _ h9 => h9) rfl (by decide +kernel) rfl rfl (Nat.le_of_ble_eq_true rfl) dX4_about_2 (fun H locs hP hD hS => ?_)
  have hP : va_P G.1 vwCl [(ma, .inr (4, [.ref d0, .ref d1, .ref d2, .ref d3, .ref d4, .ref d5, .ref d6, .ref d7, .ref d8, .ref d9, .ref d10, .ref d11, .ref d12, .ref d13, .ref d14, .ref d15, .ref d16, .int (0:Int32)]))] H := hP
  have hD : va_D A [(ma, .inr (4, [.ref d0, .ref d1, .ref d2, .ref d3, .ref d4, .ref d5, .ref d6, .ref d7, .ref d8, .ref d9, .ref d10, .ref d11, .ref d12, .ref d13, .ref d14, .ref d15, .ref d16, .int (0:Int32)]))] := hD
  refine lv_iload_n hx hb dX4_about_5 rfl (lv_at hl 1 rfl) ?_
  refine cs_i (As := [.int wi]) (rest := []) ⟨hx, hb, hml, hown, hts⟩ (kX4_isWire l G wi) (va_cwS 1 hts gX4_about_X4_isWire rfl rfl rfl (by decide +kernel) ⟨Nat.le_of_ble_eq_true rfl, Nat.le_of_ble_eq_true rfl⟩) hE hK hP hD hS hA hl.1 [] rfl rfl rfl rfl rfl rfl (Nat.le_of_ble_eq_true rfl) dX4_about_6 ⟨Nat.zero_le _, Nat.zero_le _⟩ (fun H locs hP hD hS => ?_)
  have hP : va_P G.1 vwCl [(ma, .inr (4, [.ref d0, .ref d1, .ref d2, .ref d3, .ref d4, .ref d5, .ref d6, .ref d7, .ref d8, .ref d9, .ref d10, .ref d11, .ref d12, .ref d13, .ref d14, .ref d15, .ref d16, .int (0:Int32)]))] H := hP
  have hD : va_D A [(ma, .inr (4, [.ref d0, .ref d1, .ref d2, .ref d3, .ref d4, .ref d5, .ref d6, .ref d7, .ref d8, .ref d9, .ref d10, .ref d11, .ref d12, .ref d13, .ref d14, .ref d15, .ref d16, .int (0:Int32)]))] := hD
  refine bz_eq (tgt := 21) hx hb dX4_about_9 (by decide) (fun _ => ?_) (fun h9 => absurd hwi h9)
  refine lv_iconst (v := (-1:Int32)) hx hb dX4_about_21 (by decide) ?_
  exact rt_i hx hb hr hlocks hP hD hS dX4_about_22 rfl
set_option maxHeartbeats 4000000 in
set_option maxRecDepth 100000 in
theorem kX4_aboutM1 (l : Launch) (G : GT) (ma : Nat) (d0 : Nat) (d1 : Nat) (d2 : Nat) (d3 : Nat) (d4 : Nat) (d5 : Nat) (d6 : Nat) (d7 : Nat) (d8 : Nat) (d9 : Nat) (d10 : Nat) (d11 : Nat) (d12 : Nat) (d13 : Nat) (d14 : Nat) (d15 : Nat) (d16 : Nat) (cd : Int32) (i : Nat) (wt9 : Int32) (hi4 : i < 4) (hq : wt9 < 0) : CI l yX4_about wsX4_about { frames := 1, cells := 0, slots := 0, locals := 20 } G [.ref ma, .int (nI i), .int wt9] [(ma, .inr (4, [.ref d0, .ref d1, .ref d2, .ref d3, .ref d4, .ref d5, .ref d6, .ref d7, .ref d8, .ref d9, .ref d10, .ref d11, .ref d12, .ref d13, .ref d14, .ref d15, .ref d16, .int cd]))] (-1:Int32) [(ma, .inr (4, [.ref d0, .ref d1, .ref d2, .ref d3, .ref d4, .ref d5, .ref d6, .ref d7, .ref d8, .ref d9, .ref d10, .ref d11, .ref d12, .ref d13, .ref d14, .ref d15, .ref d16, .int (0:Int32)]))] := by
  refine en_i (cc := cX4_about) (maxL := 5) (ret := (some .int)) (own := RX4) (by decide) rfl rfl (Nat.le_of_ble_eq_true rfl) ?_
  intro p e s m below meth c A ls hx hb hr hts hown hml hlocks hA hK hE hP hD hS hl
  have hl : lv_has ls 5 [(0, .ref ma), (1, .int (nI i)), (2, .int wt9)] := hl
  refine lv_aload_n hx hb dX4_about_0 rfl (lv_at hl 0 rfl) ?_
  refine lv_iconst (v := (0:Int32)) hx hb dX4_about_1 (by decide) ?_
  refine va_put (D := G.1) (ci := 4) (v := .int (0:Int32)) (ty := .int) (C := RX4) (T := TX4) (N := 18) hx hb hts (by decide +kernel) tyX4 tyX4_ok nmX4 hown hK hP hD hS 0 rfl rfl 17 (by decide) (hts (.fieldLink RX4 63 "PedalBoardModel" "code" "I") (by decide +kernel)) (fun _ h9 => h9) rfl (by decide +kernel) rfl rfl (Nat.le_of_ble_eq_true rfl) dX4_about_2 (fun H locs hP hD hS => ?_)
  have hP : va_P G.1 vwCl [(ma, .inr (4, [.ref d0, .ref d1, .ref d2, .ref d3, .ref d4, .ref d5, .ref d6, .ref d7, .ref d8, .ref d9, .ref d10, .ref d11, .ref d12, .ref d13, .ref d14, .ref d15, .ref d16, .int (0:Int32)]))] H := hP
  have hD : va_D A [(ma, .inr (4, [.ref d0, .ref d1, .ref d2, .ref d3, .ref d4, .ref d5, .ref d6, .ref d7, .ref d8, .ref d9, .ref d10, .ref d11, .ref d12, .ref d13, .ref d14, .ref d15, .ref d16, .int (0:Int32)]))] := hD
  refine lv_iload_n hx hb dX4_about_5 rfl (lv_at hl 1 rfl) ?_
  refine cs_i (As := [.int (nI i)]) (rest := []) ⟨hx, hb, hml, hown, hts⟩ (kX4_isWire l G (nI i)) (va_cwS 1 hts gX4_about_X4_isWire rfl rfl rfl (by decide +kernel) ⟨Nat.le_of_ble_eq_true rfl, Nat.le_of_ble_eq_true rfl⟩) hE hK hP hD hS hA hl.1 [] rfl rfl rfl rfl rfl rfl (Nat.le_of_ble_eq_true rfl) dX4_about_6 ⟨Nat.zero_le _, Nat.zero_le _⟩ (fun H locs hP hD hS => ?_)
  have hP : va_P G.1 vwCl [(ma, .inr (4, [.ref d0, .ref d1, .ref d2, .ref d3, .ref d4, .ref d5, .ref d6, .ref d7, .ref d8, .ref d9, .ref d10, .ref d11, .ref d12, .ref d13, .ref d14, .ref d15, .ref d16, .int (0:Int32)]))] H := hP
  have hD : va_D A [(ma, .inr (4, [.ref d0, .ref d1, .ref d2, .ref d3, .ref d4, .ref d5, .ref d6, .ref d7, .ref d8, .ref d9, .ref d10, .ref d11, .ref d12, .ref d13, .ref d14, .ref d15, .ref d16, .int (0:Int32)]))] := hD
  refine bz_eq (tgt := 21) hx hb dX4_about_9 (by decide) (fun h9 => absurd h9 (isW4_1 hi4)) (fun _ => ?_)
  refine lv_iload_n hx hb dX4_about_12 rfl (lv_at hl 2 rfl) ?_
  refine bz_lt (tgt := 21) hx hb dX4_about_13 (by decide) (fun _ => ?_) (fun h9 => absurd hq h9)
  refine lv_iconst (v := (-1:Int32)) hx hb dX4_about_21 (by decide) ?_
  exact rt_i hx hb hr hlocks hP hD hS dX4_about_22 rfl
set_option maxHeartbeats 4000000 in
set_option maxRecDepth 100000 in
theorem kX4_aboutM2 (l : Launch) (G : GT) (ma : Nat) (d0 : Nat) (d1 : Nat) (d2 : Nat) (d3 : Nat) (d4 : Nat) (d5 : Nat) (d6 : Nat) (d7 : Nat) (d8 : Nat) (d9 : Nat) (d10 : Nat) (d11 : Nat) (d12 : Nat) (d13 : Nat) (d14 : Nat) (d15 : Nat) (d16 : Nat) (cd : Int32) (i : Nat) (wt9 : Int32) (hi4 : i < 4) (hq : ¬ wt9 < 0) (hq2 : (3:Int32) < wt9) : CI l yX4_about wsX4_about { frames := 1, cells := 0, slots := 0, locals := 20 } G [.ref ma, .int (nI i), .int wt9] [(ma, .inr (4, [.ref d0, .ref d1, .ref d2, .ref d3, .ref d4, .ref d5, .ref d6, .ref d7, .ref d8, .ref d9, .ref d10, .ref d11, .ref d12, .ref d13, .ref d14, .ref d15, .ref d16, .int cd]))] (-1:Int32) [(ma, .inr (4, [.ref d0, .ref d1, .ref d2, .ref d3, .ref d4, .ref d5, .ref d6, .ref d7, .ref d8, .ref d9, .ref d10, .ref d11, .ref d12, .ref d13, .ref d14, .ref d15, .ref d16, .int (0:Int32)]))] := by
  refine en_i (cc := cX4_about) (maxL := 5) (ret := (some .int)) (own := RX4) (by decide) rfl rfl (Nat.le_of_ble_eq_true rfl) ?_
  intro p e s m below meth c A ls hx hb hr hts hown hml hlocks hA hK hE hP hD hS hl
  have hl : lv_has ls 5 [(0, .ref ma), (1, .int (nI i)), (2, .int wt9)] := hl
  refine lv_aload_n hx hb dX4_about_0 rfl (lv_at hl 0 rfl) ?_
  refine lv_iconst (v := (0:Int32)) hx hb dX4_about_1 (by decide) ?_
  refine va_put (D := G.1) (ci := 4) (v := .int (0:Int32)) (ty := .int) (C := RX4) (T := TX4) (N := 18) hx hb hts (by decide +kernel) tyX4 tyX4_ok nmX4 hown hK hP hD hS 0 rfl rfl 17 (by decide) (hts (.fieldLink RX4 63 "PedalBoardModel" "code" "I") (by decide +kernel)) (fun _ h9 => h9) rfl (by decide +kernel) rfl rfl (Nat.le_of_ble_eq_true rfl) dX4_about_2 (fun H locs hP hD hS => ?_)
  have hP : va_P G.1 vwCl [(ma, .inr (4, [.ref d0, .ref d1, .ref d2, .ref d3, .ref d4, .ref d5, .ref d6, .ref d7, .ref d8, .ref d9, .ref d10, .ref d11, .ref d12, .ref d13, .ref d14, .ref d15, .ref d16, .int (0:Int32)]))] H := hP
  have hD : va_D A [(ma, .inr (4, [.ref d0, .ref d1, .ref d2, .ref d3, .ref d4, .ref d5, .ref d6, .ref d7, .ref d8, .ref d9, .ref d10, .ref d11, .ref d12, .ref d13, .ref d14, .ref d15, .ref d16, .int (0:Int32)]))] := hD
  refine lv_iload_n hx hb dX4_about_5 rfl (lv_at hl 1 rfl) ?_
  refine cs_i (As := [.int (nI i)]) (rest := []) ⟨hx, hb, hml, hown, hts⟩ (kX4_isWire l G (nI i)) (va_cwS 1 hts gX4_about_X4_isWire rfl rfl rfl (by decide +kernel) ⟨Nat.le_of_ble_eq_true rfl, Nat.le_of_ble_eq_true rfl⟩) hE hK hP hD hS hA hl.1 [] rfl rfl rfl rfl rfl rfl (Nat.le_of_ble_eq_true rfl) dX4_about_6 ⟨Nat.zero_le _, Nat.zero_le _⟩ (fun H locs hP hD hS => ?_)
  have hP : va_P G.1 vwCl [(ma, .inr (4, [.ref d0, .ref d1, .ref d2, .ref d3, .ref d4, .ref d5, .ref d6, .ref d7, .ref d8, .ref d9, .ref d10, .ref d11, .ref d12, .ref d13, .ref d14, .ref d15, .ref d16, .int (0:Int32)]))] H := hP
  have hD : va_D A [(ma, .inr (4, [.ref d0, .ref d1, .ref d2, .ref d3, .ref d4, .ref d5, .ref d6, .ref d7, .ref d8, .ref d9, .ref d10, .ref d11, .ref d12, .ref d13, .ref d14, .ref d15, .ref d16, .int (0:Int32)]))] := hD
  refine bz_eq (tgt := 21) hx hb dX4_about_9 (by decide) (fun h9 => absurd h9 (isW4_1 hi4)) (fun _ => ?_)
  refine lv_iload_n hx hb dX4_about_12 rfl (lv_at hl 2 rfl) ?_
  refine bz_lt (tgt := 21) hx hb dX4_about_13 (by decide) (fun h9 => absurd h9 hq) (fun _ => ?_)
  refine lv_iload_n hx hb dX4_about_16 rfl (lv_at hl 2 rfl) ?_
  refine lv_iconst (v := (3:Int32)) hx hb dX4_about_17 (by decide) ?_
  refine bi_le (tgt := 23) hx hb dX4_about_18 (by decide) (fun _ => ?_) (fun h9 => absurd hq2 h9)
  refine lv_iconst (v := (-1:Int32)) hx hb dX4_about_21 (by decide) ?_
  exact rt_i hx hb hr hlocks hP hD hS dX4_about_22 rfl
def cOn4 (i : Nat) (on : Nat → Int32) : Nat → Int32
  | 0 => 0
  | k + 1 => cOn4 i on k + (if on (12 * i + k) = 0 then (0:Int32) else (1:Int32))
def cLit4 (i : Nat) (tr : Int32) (li : Nat → Int32) : Nat → Int32
  | 0 => 0
  | k + 1 => cLit4 i tr li k + (if tr = 0 then (0:Int32) else (if li (12 * i + k) = 0 then (0:Int32) else (1:Int32)))
def fX4_about1 (f11 : Nat → Int32) (i : Nat) (n : Nat) : Int32 := cOn4 i f11 n
set_option maxHeartbeats 4000000 in
set_option maxRecDepth 100000 in
theorem kX4_about1 (l : Launch) (G : GT) (ma : Nat) (d0 : Nat) (d1 : Nat) (d2 : Nat) (d3 : Nat) (d4 : Nat) (d5 : Nat) (d6 : Nat) (d7 : Nat) (d8 : Nat) (d9 : Nat) (d10 : Nat) (d11 : Nat) (d12 : Nat) (d13 : Nat) (d14 : Nat) (d15 : Nat) (d16 : Nat) (cd : Int32) (f5 : Nat → Int32) (f11 : Nat → Int32) (i : Nat) (n : Nat) (hi4 : i < 4) (hm : f5 i = nI n) (hn : n ≤ 12) : CI l yX4_about wsX4_about { frames := 1, cells := 0, slots := 0, locals := 20 } G [.ref ma, .int (nI i), .int (1:Int32)] [(ma, .inr (4, [.ref d0, .ref d1, .ref d2, .ref d3, .ref d4, .ref d5, .ref d6, .ref d7, .ref d8, .ref d9, .ref d10, .ref d11, .ref d12, .ref d13, .ref d14, .ref d15, .ref d16, .int cd])), (d5, .inl (G.2.1 0, 4, .inl f5)), (d11, .inl (G.2.1 2, 48, .inl f11))] (fX4_about1 f11 i n) [(ma, .inr (4, [.ref d0, .ref d1, .ref d2, .ref d3, .ref d4, .ref d5, .ref d6, .ref d7, .ref d8, .ref d9, .ref d10, .ref d11, .ref d12, .ref d13, .ref d14, .ref d15, .ref d16, .int (0:Int32)])), (d5, .inl (G.2.1 0, 4, .inl f5)), (d11, .inl (G.2.1 2, 48, .inl f11))] := by
  refine en_i (cc := cX4_about) (maxL := 5) (ret := (some .int)) (own := RX4) (by decide) rfl rfl (Nat.le_of_ble_eq_true rfl) ?_
  intro p e s m below meth c A ls hx hb hr hts hown hml hlocks hA hK hE hP hD hS hl
  have hl : lv_has ls 5 [(0, .ref ma), (1, .int (nI i)), (2, .int (1:Int32))] := hl
  refine lv_aload_n hx hb dX4_about_0 rfl (lv_at hl 0 rfl) ?_
  refine lv_iconst (v := (0:Int32)) hx hb dX4_about_1 (by decide) ?_
  refine va_put (D := G.1) (ci := 4) (v := .int (0:Int32)) (ty := .int) (C := RX4) (T := TX4) (N := 18) hx hb hts (by decide +kernel) tyX4 tyX4_ok nmX4 hown hK hP hD hS 0 rfl rfl 17 (by decide) (hts (.fieldLink RX4 63 "PedalBoardModel" "code" "I") (by decide +kernel)) (fun _ h9 => h9) rfl (by decide +kernel) rfl rfl (Nat.le_of_ble_eq_true rfl) dX4_about_2 (fun H locs hP hD hS => ?_)
  have hP : va_P G.1 vwCl [(ma, .inr (4, [.ref d0, .ref d1, .ref d2, .ref d3, .ref d4, .ref d5, .ref d6, .ref d7, .ref d8, .ref d9, .ref d10, .ref d11, .ref d12, .ref d13, .ref d14, .ref d15, .ref d16, .int (0:Int32)])), (d5, .inl (G.2.1 0, 4, .inl f5)), (d11, .inl (G.2.1 2, 48, .inl f11))] H := hP
  have hD : va_D A [(ma, .inr (4, [.ref d0, .ref d1, .ref d2, .ref d3, .ref d4, .ref d5, .ref d6, .ref d7, .ref d8, .ref d9, .ref d10, .ref d11, .ref d12, .ref d13, .ref d14, .ref d15, .ref d16, .int (0:Int32)])), (d5, .inl (G.2.1 0, 4, .inl f5)), (d11, .inl (G.2.1 2, 48, .inl f11))] := hD
  refine lv_iload_n hx hb dX4_about_5 rfl (lv_at hl 1 rfl) ?_
  refine cs_i (As := [.int (nI i)]) (rest := []) ⟨hx, hb, hml, hown, hts⟩ (kX4_isWire l G (nI i)) (va_cwS 1 hts gX4_about_X4_isWire rfl rfl rfl (by decide +kernel) ⟨Nat.le_of_ble_eq_true rfl, Nat.le_of_ble_eq_true rfl⟩) hE hK hP hD hS hA hl.1 [] rfl rfl rfl rfl rfl rfl (Nat.le_of_ble_eq_true rfl) dX4_about_6 ⟨Nat.zero_le _, Nat.zero_le _⟩ (fun H locs hP hD hS => ?_)
  have hP : va_P G.1 vwCl [(ma, .inr (4, [.ref d0, .ref d1, .ref d2, .ref d3, .ref d4, .ref d5, .ref d6, .ref d7, .ref d8, .ref d9, .ref d10, .ref d11, .ref d12, .ref d13, .ref d14, .ref d15, .ref d16, .int (0:Int32)])), (d5, .inl (G.2.1 0, 4, .inl f5)), (d11, .inl (G.2.1 2, 48, .inl f11))] H := hP
  have hD : va_D A [(ma, .inr (4, [.ref d0, .ref d1, .ref d2, .ref d3, .ref d4, .ref d5, .ref d6, .ref d7, .ref d8, .ref d9, .ref d10, .ref d11, .ref d12, .ref d13, .ref d14, .ref d15, .ref d16, .int (0:Int32)])), (d5, .inl (G.2.1 0, 4, .inl f5)), (d11, .inl (G.2.1 2, 48, .inl f11))] := hD
  refine bz_eq (tgt := 21) hx hb dX4_about_9 (by decide) (fun h9 => absurd h9 (isW4_1 hi4)) (fun _ => ?_)
  refine lv_iload_n hx hb dX4_about_12 rfl (lv_at hl 2 rfl) ?_
  refine bz_lt (tgt := 21) hx hb dX4_about_13 (by decide) (fun h9 => absurd h9 (by decide)) (fun _ => ?_)
  refine lv_iload_n hx hb dX4_about_16 rfl (lv_at hl 2 rfl) ?_
  refine lv_iconst (v := (3:Int32)) hx hb dX4_about_17 (by decide) ?_
  refine bi_le (tgt := 23) hx hb dX4_about_18 (by decide) (fun h9 => absurd h9 (by decide)) (fun _ => ?_)
  refine lv_iload_n hx hb dX4_about_23 rfl (lv_at hl 2 rfl) ?_
  refine bz_ne (tgt := 34) hx hb dX4_about_24 (by decide) (fun h9 => absurd h9 (by decide)) (fun _ => ?_)
  refine lv_iload_n hx hb dX4_about_34 rfl (lv_at hl 2 rfl) ?_
  refine lv_iconst (v := (3:Int32)) hx hb dX4_about_35 (by decide) ?_
  refine bi_ne (tgt := 46) hx hb dX4_about_36 (by decide) (fun h9 => absurd h9 (by decide)) (fun _ => ?_)
  refine lv_iconst (v := (0:Int32)) hx hb dX4_about_46 (by decide) ?_
  refine lv_istore_n (lv' := [(3, .int (0:Int32)), (0, .ref ma), (1, .int (nI i)), (2, .int (1:Int32))]) hx hb dX4_about_47 rfl hl (by decide) rfl (fun ls hl => ?_)
  refine lv_bipush (v := (12:Int32)) hx hb dX4_about_48 (by decide) ?_
  refine lv_iload_n hx hb dX4_about_50 rfl (lv_at hl 2 rfl) ?_
  refine lv_imul hx hb dX4_about_51 ?_
  rw [show ((12:Int32) * (nI i)) = nI (12 * i) from pk_mul 12 i]
  refine lv_istore (lv' := [(4, .int (nI (12 * i))), (3, .int (0:Int32)), (0, .ref ma), (1, .int (nI i)), (2, .int (1:Int32))]) hx hb dX4_about_52 hl (by decide) rfl (fun ls hl => ?_)
  refine lp_1 (T := Int32) G A n (fun k y => y = cOn4 i f11 k) (fun k y => [(ma, .inr (4, [.ref d0, .ref d1, .ref d2, .ref d3, .ref d4, .ref d5, .ref d6, .ref d7, .ref d8, .ref d9, .ref d10, .ref d11, .ref d12, .ref d13, .ref d14, .ref d15, .ref d16, .int (0:Int32)])), (d5, .inl (G.2.1 0, 4, .inl f5)), (d11, .inl (G.2.1 2, 48, .inl f11))]) 5 (fun k y => [(4, .int (nI (12 * i + k))), (3, .int y), (0, .ref ma), (1, .int (nI i)), (2, .int (1:Int32))]) 54 (fun k yy hk hi ih H locs ls hP hD hS hl => ?_) 0 (0:Int32) (by first | exact Nat.zero_le _ | omega) rfl _ _ _ hP hD hS (lv_sub hl [0, 1, 2, 3, 4] rfl)
  obtain ⟨fd, rfl⟩ : ∃ z, z = yy := ⟨_, rfl⟩
  have hl : lv_has ls 5 [(4, .int (nI (12 * i + k))), (3, .int fd), (0, .ref ma), (1, .int (nI i)), (2, .int (1:Int32))] := hl
  have hi : fd = cOn4 i f11 k := hi
  have hP : va_P G.1 vwCl [(ma, .inr (4, [.ref d0, .ref d1, .ref d2, .ref d3, .ref d4, .ref d5, .ref d6, .ref d7, .ref d8, .ref d9, .ref d10, .ref d11, .ref d12, .ref d13, .ref d14, .ref d15, .ref d16, .int (0:Int32)])), (d5, .inl (G.2.1 0, 4, .inl f5)), (d11, .inl (G.2.1 2, 48, .inl f11))] H := hP
  have hD : va_D A [(ma, .inr (4, [.ref d0, .ref d1, .ref d2, .ref d3, .ref d4, .ref d5, .ref d6, .ref d7, .ref d8, .ref d9, .ref d10, .ref d11, .ref d12, .ref d13, .ref d14, .ref d15, .ref d16, .int (0:Int32)])), (d5, .inl (G.2.1 0, 4, .inl f5)), (d11, .inl (G.2.1 2, 48, .inl f11))] := hD
  refine lv_iload hx hb dX4_about_54 (lv_at hl 0 rfl) ?_
  refine lv_bipush (v := (12:Int32)) hx hb dX4_about_56 (by decide) ?_
  refine lv_iload_n hx hb dX4_about_58 rfl (lv_at hl 3 rfl) ?_
  refine lv_imul hx hb dX4_about_59 ?_
  rw [show ((12:Int32) * (nI i)) = nI (12 * i) from pk_mul 12 i]
  refine lv_aload_n hx hb dX4_about_60 rfl (lv_at hl 2 rfl) ?_
  refine va_get (D := G.1) (ci := 4) (v := .ref d5) (C := RX4) (T := TX4) (N := 18) hx hb hts (by decide +kernel) hown hK hP 0 rfl rfl 5 (by decide) (hts (.fieldLink RX4 26 "PedalBoardModel" "many" "[I") (by decide +kernel)) (fun _ h9 => h9) rfl dX4_about_61 ?_
  refine lv_iload_n hx hb dX4_about_64 rfl (lv_at hl 3 rfl) ?_
  refine ar_ild hx hb hK hP 1 rfl i rfl (by omega) (by decide) dX4_about_65 ?_
  rw [hm]
  refine lv_iadd hx hb dX4_about_66 ?_
  rw [nI_add]
  refine bi_ge (tgt := 126) hx hb dX4_about_67 (by decide) (fun c_1 => ?_) (fun c_1 => ?_)
  · have hk1 := nk_lt2 (by omega) hk (by omega) c_1
    refine lv_iload_n hx hb dX4_about_70 rfl (lv_at hl 1 rfl) ?_
    refine lv_iload_n hx hb dX4_about_71 rfl (lv_at hl 4 rfl) ?_
    refine lv_iconst (v := (1:Int32)) hx hb dX4_about_72 (by decide) ?_
    refine bi_ne (tgt := 94) hx hb dX4_about_73 (by decide) (fun _ => ?_) (fun h9 => absurd rfl h9)
    refine lv_aload_n hx hb dX4_about_76 rfl (lv_at hl 2 rfl) ?_
    refine va_get (D := G.1) (ci := 4) (v := .ref d11) (C := RX4) (T := TX4) (N := 18) hx hb hts (by decide +kernel) hown hK hP 0 rfl rfl 11 (by decide) (hts (.fieldLink RX4 45 "PedalBoardModel" "on" "[Z") (by decide +kernel)) (fun _ h9 => h9) rfl dX4_about_77 ?_
    refine lv_iload hx hb dX4_about_80 (lv_at hl 0 rfl) ?_
    refine ar_zld hx hb hK hP 2 rfl (12 * i + k) rfl (by omega) (by decide) dX4_about_82 ?_
    refine bz_eq (tgt := 90) hx hb dX4_about_83 (by decide) (fun c_2 => ?_) (fun c_2 => ?_)
    · refine lv_iconst (v := (0:Int32)) hx hb dX4_about_90 (by decide) ?_
      refine lv_goto (tgt := 118) hx hb dX4_about_91 (by decide) ?_
      refine lv_iadd hx hb dX4_about_118 ?_
      refine lv_istore_n (lv' := [(3, .int (fd + (0:Int32))), (4, .int (nI (12 * i + k))), (0, .ref ma), (1, .int (nI i)), (2, .int (1:Int32))]) hx hb dX4_about_119 rfl hl (by decide) rfl (fun ls hl => ?_)
      refine lv_iinc (v := (nI ((12 * i + k) + 1))) (lv' := [(4, .int (nI ((12 * i + k) + 1))), (3, .int (fd + (0:Int32))), (0, .ref ma), (1, .int (nI i)), (2, .int (1:Int32))]) hx hb dX4_about_120 hl (k := 1) rfl (by rw [← nI_1]; rfl) (by decide) rfl (fun ls hl => ?_)
      refine lv_goto (tgt := 54) hx hb dX4_about_123 (by decide) ?_
      exact ih (nk_lt2 (by omega) hk (by omega) c_1) (fd + (0:Int32)) (by show _ = cOn4 i f11 (k + 1); rw [cOn4, ← hi, if_pos c_2]) _ _ _ hP hD hS (lv_sub hl [0, 1, 2, 3, 4] rfl)
    · refine lv_iconst (v := (1:Int32)) hx hb dX4_about_86 (by decide) ?_
      refine lv_goto (tgt := 118) hx hb dX4_about_87 (by decide) ?_
      refine lv_iadd hx hb dX4_about_118 ?_
      refine lv_istore_n (lv' := [(3, .int (fd + (1:Int32))), (4, .int (nI (12 * i + k))), (0, .ref ma), (1, .int (nI i)), (2, .int (1:Int32))]) hx hb dX4_about_119 rfl hl (by decide) rfl (fun ls hl => ?_)
      refine lv_iinc (v := (nI ((12 * i + k) + 1))) (lv' := [(4, .int (nI ((12 * i + k) + 1))), (3, .int (fd + (1:Int32))), (0, .ref ma), (1, .int (nI i)), (2, .int (1:Int32))]) hx hb dX4_about_120 hl (k := 1) rfl (by rw [← nI_1]; rfl) (by decide) rfl (fun ls hl => ?_)
      refine lv_goto (tgt := 54) hx hb dX4_about_123 (by decide) ?_
      exact ih (nk_lt2 (by omega) hk (by omega) c_1) (fd + (1:Int32)) (by show _ = cOn4 i f11 (k + 1); rw [cOn4, ← hi, if_neg c_2]) _ _ _ hP hD hS (lv_sub hl [0, 1, 2, 3, 4] rfl)
  · refine lv_iload_n hx hb dX4_about_126 rfl (lv_at hl 1 rfl) ?_
    exact rt_i hx hb hr hlocks hP hD hS dX4_about_127 (by rw [hi, nk_ge2 (by omega) hk (by omega) c_1]; rfl)
def fX4_about2 (f6 : Nat → Int32) (f12 : Nat → Int32) (i : Nat) (n : Nat) : Int32 := cLit4 i (f6 i) f12 n
set_option maxHeartbeats 4000000 in
set_option maxRecDepth 100000 in
theorem kX4_about2 (l : Launch) (G : GT) (ma : Nat) (d0 : Nat) (d1 : Nat) (d2 : Nat) (d3 : Nat) (d4 : Nat) (d5 : Nat) (d6 : Nat) (d7 : Nat) (d8 : Nat) (d9 : Nat) (d10 : Nat) (d11 : Nat) (d12 : Nat) (d13 : Nat) (d14 : Nat) (d15 : Nat) (d16 : Nat) (cd : Int32) (f5 : Nat → Int32) (f6 : Nat → Int32) (f12 : Nat → Int32) (i : Nat) (n : Nat) (hi4 : i < 4) (hm : f5 i = nI n) (hn : n ≤ 12) : CI l yX4_about wsX4_about { frames := 1, cells := 0, slots := 0, locals := 20 } G [.ref ma, .int (nI i), .int (2:Int32)] [(ma, .inr (4, [.ref d0, .ref d1, .ref d2, .ref d3, .ref d4, .ref d5, .ref d6, .ref d7, .ref d8, .ref d9, .ref d10, .ref d11, .ref d12, .ref d13, .ref d14, .ref d15, .ref d16, .int cd])), (d5, .inl (G.2.1 0, 4, .inl f5)), (d6, .inl (G.2.1 2, 4, .inl f6)), (d12, .inl (G.2.1 2, 48, .inl f12))] (fX4_about2 f6 f12 i n) [(ma, .inr (4, [.ref d0, .ref d1, .ref d2, .ref d3, .ref d4, .ref d5, .ref d6, .ref d7, .ref d8, .ref d9, .ref d10, .ref d11, .ref d12, .ref d13, .ref d14, .ref d15, .ref d16, .int (0:Int32)])), (d5, .inl (G.2.1 0, 4, .inl f5)), (d6, .inl (G.2.1 2, 4, .inl f6)), (d12, .inl (G.2.1 2, 48, .inl f12))] := by
  refine en_i (cc := cX4_about) (maxL := 5) (ret := (some .int)) (own := RX4) (by decide) rfl rfl (Nat.le_of_ble_eq_true rfl) ?_
  intro p e s m below meth c A ls hx hb hr hts hown hml hlocks hA hK hE hP hD hS hl
  have hl : lv_has ls 5 [(0, .ref ma), (1, .int (nI i)), (2, .int (2:Int32))] := hl
  refine lv_aload_n hx hb dX4_about_0 rfl (lv_at hl 0 rfl) ?_
  refine lv_iconst (v := (0:Int32)) hx hb dX4_about_1 (by decide) ?_
  refine va_put (D := G.1) (ci := 4) (v := .int (0:Int32)) (ty := .int) (C := RX4) (T := TX4) (N := 18) hx hb hts (by decide +kernel) tyX4 tyX4_ok nmX4 hown hK hP hD hS 0 rfl rfl 17 (by decide) (hts (.fieldLink RX4 63 "PedalBoardModel" "code" "I") (by decide +kernel)) (fun _ h9 => h9) rfl (by decide +kernel) rfl rfl (Nat.le_of_ble_eq_true rfl) dX4_about_2 (fun H locs hP hD hS => ?_)
  have hP : va_P G.1 vwCl [(ma, .inr (4, [.ref d0, .ref d1, .ref d2, .ref d3, .ref d4, .ref d5, .ref d6, .ref d7, .ref d8, .ref d9, .ref d10, .ref d11, .ref d12, .ref d13, .ref d14, .ref d15, .ref d16, .int (0:Int32)])), (d5, .inl (G.2.1 0, 4, .inl f5)), (d6, .inl (G.2.1 2, 4, .inl f6)), (d12, .inl (G.2.1 2, 48, .inl f12))] H := hP
  have hD : va_D A [(ma, .inr (4, [.ref d0, .ref d1, .ref d2, .ref d3, .ref d4, .ref d5, .ref d6, .ref d7, .ref d8, .ref d9, .ref d10, .ref d11, .ref d12, .ref d13, .ref d14, .ref d15, .ref d16, .int (0:Int32)])), (d5, .inl (G.2.1 0, 4, .inl f5)), (d6, .inl (G.2.1 2, 4, .inl f6)), (d12, .inl (G.2.1 2, 48, .inl f12))] := hD
  refine lv_iload_n hx hb dX4_about_5 rfl (lv_at hl 1 rfl) ?_
  refine cs_i (As := [.int (nI i)]) (rest := []) ⟨hx, hb, hml, hown, hts⟩ (kX4_isWire l G (nI i)) (va_cwS 1 hts gX4_about_X4_isWire rfl rfl rfl (by decide +kernel) ⟨Nat.le_of_ble_eq_true rfl, Nat.le_of_ble_eq_true rfl⟩) hE hK hP hD hS hA hl.1 [] rfl rfl rfl rfl rfl rfl (Nat.le_of_ble_eq_true rfl) dX4_about_6 ⟨Nat.zero_le _, Nat.zero_le _⟩ (fun H locs hP hD hS => ?_)
  have hP : va_P G.1 vwCl [(ma, .inr (4, [.ref d0, .ref d1, .ref d2, .ref d3, .ref d4, .ref d5, .ref d6, .ref d7, .ref d8, .ref d9, .ref d10, .ref d11, .ref d12, .ref d13, .ref d14, .ref d15, .ref d16, .int (0:Int32)])), (d5, .inl (G.2.1 0, 4, .inl f5)), (d6, .inl (G.2.1 2, 4, .inl f6)), (d12, .inl (G.2.1 2, 48, .inl f12))] H := hP
  have hD : va_D A [(ma, .inr (4, [.ref d0, .ref d1, .ref d2, .ref d3, .ref d4, .ref d5, .ref d6, .ref d7, .ref d8, .ref d9, .ref d10, .ref d11, .ref d12, .ref d13, .ref d14, .ref d15, .ref d16, .int (0:Int32)])), (d5, .inl (G.2.1 0, 4, .inl f5)), (d6, .inl (G.2.1 2, 4, .inl f6)), (d12, .inl (G.2.1 2, 48, .inl f12))] := hD
  refine bz_eq (tgt := 21) hx hb dX4_about_9 (by decide) (fun h9 => absurd h9 (isW4_1 hi4)) (fun _ => ?_)
  refine lv_iload_n hx hb dX4_about_12 rfl (lv_at hl 2 rfl) ?_
  refine bz_lt (tgt := 21) hx hb dX4_about_13 (by decide) (fun h9 => absurd h9 (by decide)) (fun _ => ?_)
  refine lv_iload_n hx hb dX4_about_16 rfl (lv_at hl 2 rfl) ?_
  refine lv_iconst (v := (3:Int32)) hx hb dX4_about_17 (by decide) ?_
  refine bi_le (tgt := 23) hx hb dX4_about_18 (by decide) (fun h9 => absurd h9 (by decide)) (fun _ => ?_)
  refine lv_iload_n hx hb dX4_about_23 rfl (lv_at hl 2 rfl) ?_
  refine bz_ne (tgt := 34) hx hb dX4_about_24 (by decide) (fun h9 => absurd h9 (by decide)) (fun _ => ?_)
  refine lv_iload_n hx hb dX4_about_34 rfl (lv_at hl 2 rfl) ?_
  refine lv_iconst (v := (3:Int32)) hx hb dX4_about_35 (by decide) ?_
  refine bi_ne (tgt := 46) hx hb dX4_about_36 (by decide) (fun h9 => absurd h9 (by decide)) (fun _ => ?_)
  refine lv_iconst (v := (0:Int32)) hx hb dX4_about_46 (by decide) ?_
  refine lv_istore_n (lv' := [(3, .int (0:Int32)), (0, .ref ma), (1, .int (nI i)), (2, .int (2:Int32))]) hx hb dX4_about_47 rfl hl (by decide) rfl (fun ls hl => ?_)
  refine lv_bipush (v := (12:Int32)) hx hb dX4_about_48 (by decide) ?_
  refine lv_iload_n hx hb dX4_about_50 rfl (lv_at hl 2 rfl) ?_
  refine lv_imul hx hb dX4_about_51 ?_
  rw [show ((12:Int32) * (nI i)) = nI (12 * i) from pk_mul 12 i]
  refine lv_istore (lv' := [(4, .int (nI (12 * i))), (3, .int (0:Int32)), (0, .ref ma), (1, .int (nI i)), (2, .int (2:Int32))]) hx hb dX4_about_52 hl (by decide) rfl (fun ls hl => ?_)
  refine lp_1 (T := Int32) G A n (fun k y => y = cLit4 i (f6 i) f12 k) (fun k y => [(ma, .inr (4, [.ref d0, .ref d1, .ref d2, .ref d3, .ref d4, .ref d5, .ref d6, .ref d7, .ref d8, .ref d9, .ref d10, .ref d11, .ref d12, .ref d13, .ref d14, .ref d15, .ref d16, .int (0:Int32)])), (d5, .inl (G.2.1 0, 4, .inl f5)), (d6, .inl (G.2.1 2, 4, .inl f6)), (d12, .inl (G.2.1 2, 48, .inl f12))]) 5 (fun k y => [(4, .int (nI (12 * i + k))), (3, .int y), (0, .ref ma), (1, .int (nI i)), (2, .int (2:Int32))]) 54 (fun k yy hk hi ih H locs ls hP hD hS hl => ?_) 0 (0:Int32) (by first | exact Nat.zero_le _ | omega) rfl _ _ _ hP hD hS (lv_sub hl [0, 1, 2, 3, 4] rfl)
  obtain ⟨fd, rfl⟩ : ∃ z, z = yy := ⟨_, rfl⟩
  have hl : lv_has ls 5 [(4, .int (nI (12 * i + k))), (3, .int fd), (0, .ref ma), (1, .int (nI i)), (2, .int (2:Int32))] := hl
  have hi : fd = cLit4 i (f6 i) f12 k := hi
  have hP : va_P G.1 vwCl [(ma, .inr (4, [.ref d0, .ref d1, .ref d2, .ref d3, .ref d4, .ref d5, .ref d6, .ref d7, .ref d8, .ref d9, .ref d10, .ref d11, .ref d12, .ref d13, .ref d14, .ref d15, .ref d16, .int (0:Int32)])), (d5, .inl (G.2.1 0, 4, .inl f5)), (d6, .inl (G.2.1 2, 4, .inl f6)), (d12, .inl (G.2.1 2, 48, .inl f12))] H := hP
  have hD : va_D A [(ma, .inr (4, [.ref d0, .ref d1, .ref d2, .ref d3, .ref d4, .ref d5, .ref d6, .ref d7, .ref d8, .ref d9, .ref d10, .ref d11, .ref d12, .ref d13, .ref d14, .ref d15, .ref d16, .int (0:Int32)])), (d5, .inl (G.2.1 0, 4, .inl f5)), (d6, .inl (G.2.1 2, 4, .inl f6)), (d12, .inl (G.2.1 2, 48, .inl f12))] := hD
  refine lv_iload hx hb dX4_about_54 (lv_at hl 0 rfl) ?_
  refine lv_bipush (v := (12:Int32)) hx hb dX4_about_56 (by decide) ?_
  refine lv_iload_n hx hb dX4_about_58 rfl (lv_at hl 3 rfl) ?_
  refine lv_imul hx hb dX4_about_59 ?_
  rw [show ((12:Int32) * (nI i)) = nI (12 * i) from pk_mul 12 i]
  refine lv_aload_n hx hb dX4_about_60 rfl (lv_at hl 2 rfl) ?_
  refine va_get (D := G.1) (ci := 4) (v := .ref d5) (C := RX4) (T := TX4) (N := 18) hx hb hts (by decide +kernel) hown hK hP 0 rfl rfl 5 (by decide) (hts (.fieldLink RX4 26 "PedalBoardModel" "many" "[I") (by decide +kernel)) (fun _ h9 => h9) rfl dX4_about_61 ?_
  refine lv_iload_n hx hb dX4_about_64 rfl (lv_at hl 3 rfl) ?_
  refine ar_ild hx hb hK hP 1 rfl i rfl (by omega) (by decide) dX4_about_65 ?_
  rw [hm]
  refine lv_iadd hx hb dX4_about_66 ?_
  rw [nI_add]
  refine bi_ge (tgt := 126) hx hb dX4_about_67 (by decide) (fun c_1 => ?_) (fun c_1 => ?_)
  · have hk1 := nk_lt2 (by omega) hk (by omega) c_1
    refine lv_iload_n hx hb dX4_about_70 rfl (lv_at hl 1 rfl) ?_
    refine lv_iload_n hx hb dX4_about_71 rfl (lv_at hl 4 rfl) ?_
    refine lv_iconst (v := (1:Int32)) hx hb dX4_about_72 (by decide) ?_
    refine bi_ne (tgt := 94) hx hb dX4_about_73 (by decide) (fun h9 => absurd h9 (by decide)) (fun _ => ?_)
    refine lv_aload_n hx hb dX4_about_94 rfl (lv_at hl 2 rfl) ?_
    refine va_get (D := G.1) (ci := 4) (v := .ref d6) (C := RX4) (T := TX4) (N := 18) hx hb hts (by decide +kernel) hown hK hP 0 rfl rfl 6 (by decide) (hts (.fieldLink RX4 29 "PedalBoardModel" "traced" "[Z") (by decide +kernel)) (fun _ h9 => h9) rfl dX4_about_95 ?_
    refine lv_iload_n hx hb dX4_about_98 rfl (lv_at hl 3 rfl) ?_
    refine ar_zld hx hb hK hP 2 rfl i rfl (by omega) (by decide) dX4_about_99 ?_
    refine bz_eq (tgt := 117) hx hb dX4_about_100 (by decide) (fun c_2 => ?_) (fun c_2 => ?_)
    · refine lv_iconst (v := (0:Int32)) hx hb dX4_about_117 (by decide) ?_
      refine lv_iadd hx hb dX4_about_118 ?_
      refine lv_istore_n (lv' := [(3, .int (fd + (0:Int32))), (4, .int (nI (12 * i + k))), (0, .ref ma), (1, .int (nI i)), (2, .int (2:Int32))]) hx hb dX4_about_119 rfl hl (by decide) rfl (fun ls hl => ?_)
      refine lv_iinc (v := (nI ((12 * i + k) + 1))) (lv' := [(4, .int (nI ((12 * i + k) + 1))), (3, .int (fd + (0:Int32))), (0, .ref ma), (1, .int (nI i)), (2, .int (2:Int32))]) hx hb dX4_about_120 hl (k := 1) rfl (by rw [← nI_1]; rfl) (by decide) rfl (fun ls hl => ?_)
      refine lv_goto (tgt := 54) hx hb dX4_about_123 (by decide) ?_
      exact ih (nk_lt2 (by omega) hk (by omega) c_1) (fd + (0:Int32)) (by show _ = cLit4 i (f6 i) f12 (k + 1); rw [cLit4, ← hi, if_pos c_2]) _ _ _ hP hD hS (lv_sub hl [0, 1, 2, 3, 4] rfl)
    · refine lv_aload_n hx hb dX4_about_103 rfl (lv_at hl 2 rfl) ?_
      refine va_get (D := G.1) (ci := 4) (v := .ref d12) (C := RX4) (T := TX4) (N := 18) hx hb hts (by decide +kernel) hown hK hP 0 rfl rfl 12 (by decide) (hts (.fieldLink RX4 48 "PedalBoardModel" "lit" "[Z") (by decide +kernel)) (fun _ h9 => h9) rfl dX4_about_104 ?_
      refine lv_iload hx hb dX4_about_107 (lv_at hl 0 rfl) ?_
      refine ar_zld hx hb hK hP 3 rfl (12 * i + k) rfl (by omega) (by decide) dX4_about_109 ?_
      refine bz_eq (tgt := 117) hx hb dX4_about_110 (by decide) (fun c_3 => ?_) (fun c_3 => ?_)
      · refine lv_iconst (v := (0:Int32)) hx hb dX4_about_117 (by decide) ?_
        refine lv_iadd hx hb dX4_about_118 ?_
        refine lv_istore_n (lv' := [(3, .int (fd + (0:Int32))), (4, .int (nI (12 * i + k))), (0, .ref ma), (1, .int (nI i)), (2, .int (2:Int32))]) hx hb dX4_about_119 rfl hl (by decide) rfl (fun ls hl => ?_)
        refine lv_iinc (v := (nI ((12 * i + k) + 1))) (lv' := [(4, .int (nI ((12 * i + k) + 1))), (3, .int (fd + (0:Int32))), (0, .ref ma), (1, .int (nI i)), (2, .int (2:Int32))]) hx hb dX4_about_120 hl (k := 1) rfl (by rw [← nI_1]; rfl) (by decide) rfl (fun ls hl => ?_)
        refine lv_goto (tgt := 54) hx hb dX4_about_123 (by decide) ?_
        exact ih (nk_lt2 (by omega) hk (by omega) c_1) (fd + (0:Int32)) (by show _ = cLit4 i (f6 i) f12 (k + 1); rw [cLit4, ← hi, if_neg c_2, if_pos c_3]) _ _ _ hP hD hS (lv_sub hl [0, 1, 2, 3, 4] rfl)
      · refine lv_iconst (v := (1:Int32)) hx hb dX4_about_113 (by decide) ?_
        refine lv_goto (tgt := 118) hx hb dX4_about_114 (by decide) ?_
        refine lv_iadd hx hb dX4_about_118 ?_
        refine lv_istore_n (lv' := [(3, .int (fd + (1:Int32))), (4, .int (nI (12 * i + k))), (0, .ref ma), (1, .int (nI i)), (2, .int (2:Int32))]) hx hb dX4_about_119 rfl hl (by decide) rfl (fun ls hl => ?_)
        refine lv_iinc (v := (nI ((12 * i + k) + 1))) (lv' := [(4, .int (nI ((12 * i + k) + 1))), (3, .int (fd + (1:Int32))), (0, .ref ma), (1, .int (nI i)), (2, .int (2:Int32))]) hx hb dX4_about_120 hl (k := 1) rfl (by rw [← nI_1]; rfl) (by decide) rfl (fun ls hl => ?_)
        refine lv_goto (tgt := 54) hx hb dX4_about_123 (by decide) ?_
        exact ih (nk_lt2 (by omega) hk (by omega) c_1) (fd + (1:Int32)) (by show _ = cLit4 i (f6 i) f12 (k + 1); rw [cLit4, ← hi, if_neg c_2, if_neg c_3]) _ _ _ hP hD hS (lv_sub hl [0, 1, 2, 3, 4] rfl)
  · refine lv_iload_n hx hb dX4_about_126 rfl (lv_at hl 1 rfl) ?_
    exact rt_i hx hb hr hlocks hP hD hS dX4_about_127 (by rw [hi, nk_ge2 (by omega) hk (by omega) c_1]; rfl)
