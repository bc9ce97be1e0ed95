set_option maxHeartbeats 4000000 in
theorem law_next {p : Program} {e : Env} {s : State} {m : MethodId} {below : List Frame} {meth : Method} {c : Code} {l : Launch} {b L : Nat} {xs : Nat → Int32} (C0 : lw_At p s m meth c b L xs) {G : GT} {A : Nat → Prop} (hA : ∀ q : Nat, s.heap.size ≤ q → A q) (hA2 : ∀ q : Nat, A q → s.heap.size ≤ q) (hbA : ¬ A b) (hE : Ev G A s s.heap) (hK : va_K G.1 vwCl (gT G) s) {a : Nat} {ba bw ma qo : Nat} {U : Nat → Nat → Nat} {d : Nat → Nat} {cells slots K : Nat} (kk : LawK p l e s m below meth c b G A ba bw U ma d qo (a + 5) cells slots K 23) : LawK p l e s m below meth c b G A ba bw U ma d qo a cells slots K 1083 := by
  obtain ⟨hx, hb, hr, hml, hown, hts, hX, hbl, hlocks, hgv⟩ := id C0
  intro V M ox hR H locs ls hP hD hS hl
  refine lv_iinc (v := nI (a + 5)) (lv' := [(4, .int (nI (a + 5))), (0, .ref b), (1, .ref ba), (2, .ref ma), (3, .ref qo)]) hx hb dL_law_1083 hl (k := 4) rfl (by rw [show Int32.ofInt 5 = nI 5 from by decide]; exact nI_add a 5) (by decide) rfl (fun ls hl => ?_)
  refine lv_goto (tgt := 23) hx hb dL_law_1086 (by decide) ?_
  exact kk V M ox hR H locs ls hP hD hS (lv_sub hl [1, 2, 3, 4, 0] rfl)
set_option maxHeartbeats 4000000 in
theorem law_end {p : Program} {e : Env} {s : State} {m : MethodId} {below : List Frame} {meth : Method} {c : Code} {l : Launch} {b L : Nat} {xs : Nat → Int32} (C0 : lw_At p s m meth c b L xs) {G : GT} {A : Nat → Prop} (hA : ∀ q : Nat, s.heap.size ≤ q → A q) (hA2 : ∀ q : Nat, A q → s.heap.size ≤ q) (hbA : ¬ A b) (hE : Ev G A s s.heap) (hK : va_K G.1 vwCl (gT G) s) {a : Nat} {ba bw ma qo : Nat} {U : Nat → Nat → Nat} {d : Nat → Nat} {cells slots K : Nat} (hc : cells ≤ 601024) (hsl : slots ≤ 7293034) : LawK p l e s m below meth c b G A ba bw U ma d qo a cells slots K 1089 := by
  obtain ⟨hx, hb, hr, hml, hown, hts, hX, hbl, hlocks, hgv⟩ := id C0
  intro V M ox hR H locs ls hP hD hS hl
  refine lv_iconst (v := (1:Int32)) hx hb dL_law_1089 (by decide) ?_
  refine va_forget (fun q hq => hA2 _ (hS.2.2 q hq)) ?_
  refine W.widen (k := 601024) (n := 7293034) hc hsl ?_
  exact lw_ret hx hb hr hlocks dL_law_1090
set_option maxHeartbeats 4000000 in
theorem law_loop {p : Program} {e : Env} {s : State} {m : MethodId} {below : List Frame} {meth : Method} {c : Code} {l : Launch} (hl9 : l.stackTraces = false) {b L : Nat} {xs : Nat → Int32} (hL : L ≤ 2560) (C0 : lw_At p s m meth c b L xs) {G : GT} {A : Nat → Prop} (hA : ∀ q : Nat, s.heap.size ≤ q → A q) (hA2 : ∀ q : Nat, A q → s.heap.size ≤ q) (hbA : ¬ A b) (hE : Ev G A s s.heap) (hK : va_K G.1 vwCl (gT G) s) {ba bw ma qo : Nat} {U : Nat → Nat → Nat} {d : Nat → Nat} : ∀ (n a cells slots K : Nat), L + 5 ≤ a + n → a ≤ L + 5 → cells + n ≤ 601024 → slots + 6 * n ≤ 7293034 → K + 50 * n < 2 ^ 29 → LawK p l e s m below meth c b G A ba bw U ma d qo a cells slots K 23 := by
  obtain ⟨hx, hb, hr, hml, hown, hts, hX, hbl, hlocks, hgv⟩ := id C0
  intro n
  induction n with
  | zero =>
    intro a cells slots K h1 h2 h3 h4 h5 V M ox hR H locs ls hP hD hS hl
    refine lv_iload hx hb dL_law_23 (lv_at hl 4 rfl) ?_
    refine lv_aload_n hx hb dL_law_25 rfl (lv_at hl 0 rfl) ?_
    refine va_slen hx hb hX hbl hbA hS dL_law_26 ?_
    refine lv_iconst (v := nI 5) hx hb dL_law_27 (by decide) ?_
    refine lv_isub hx hb dL_law_28 ?_
    refine bi_gt (tgt := 1089) hx hb dL_law_29 (by decide) (fun c1 => ?_) (fun c1 => ?_)
    · exact law_end C0 hA hA2 hbA hE hK (by omega) (by omega) V M ox hR H locs ls hP hD hS hl
    · exact absurd ((nI_slt (a := L) (b := 5) (c := a) (by omega) (by omega) (by omega)).mpr (by omega)) c1
  | succ n ih =>
    intro a cells slots K h1 h2 h3 h4 h5 V M ox hR H locs ls hP hD hS hl
    refine lv_iload hx hb dL_law_23 (lv_at hl 4 rfl) ?_
    refine lv_aload_n hx hb dL_law_25 rfl (lv_at hl 0 rfl) ?_
    refine va_slen hx hb hX hbl hbA hS dL_law_26 ?_
    refine lv_iconst (v := nI 5) hx hb dL_law_27 (by decide) ?_
    refine lv_isub hx hb dL_law_28 ?_
    refine bi_gt (tgt := 1089) hx hb dL_law_29 (by decide) (fun c1 => ?_) (fun c1 => ?_)
    · exact law_end C0 hA hA2 hbA hE hK (by omega) (by omega) V M ox hR H locs ls hP hD hS hl
    have ha : a + 5 ≤ L := by
      have c2 : ¬ L < 5 + a := fun h => c1 ((nI_slt (a := L) (b := 5) (c := a) (by omega) (by omega) (by omega)).mpr h)
      omega
    have hc : cells + 1 ≤ room_1.cells := by
      show cells + 1 ≤ 601024
      omega
    have hsl : slots + 6 ≤ room_1.slots := by
      show slots + 6 ≤ 7293034
      omega
    have hKK : K < 2 ^ 29 := by omega
    have kk : LawK p l e s m below meth c b G A ba bw U ma d qo a (cells + 1) (slots + 6) (K + 50) 1083 := law_next C0 hA hA2 hbA hE hK (ih (a + 5) (cells + 1) (slots + 6) (K + 50) (by omega) (by omega) (by omega) (by omega) (by omega))
    refine lv_aload_n hx hb dL_law_32 rfl (lv_at hl 0 rfl) ?_
    refine lv_iload hx hb dL_law_33 (lv_at hl 4 rfl) ?_
    refine ar_sldv (v := xs a) hx hb hX hbl hbA hS a rfl rfl (by omega) (by omega) dL_law_35 ?_
    refine lv_bipush (v := (15:Int32)) hx hb dL_law_36 (by decide) ?_
    refine lv_iand hx hb dL_law_38 ?_
    by_cases k0 : (xs a &&& 15) = (0:Int32)
    · refine sw_in (tgt := 108) (off := 69) hx hb dL_law_39 k0 (by decide) (by decide) (by decide) (by decide) ?_
      exact op_put hl9 hL C0 hA hbA hE hK ha hc hsl hKK kk V M ox hR H locs ls hP hD hS hl
    by_cases k1 : (xs a &&& 15) = (1:Int32)
    · refine sw_in (tgt := 195) (off := 156) hx hb dL_law_39 k1 (by decide) (by decide) (by decide) (by decide) ?_
      exact op_pedal hl9 hL C0 hA hbA hE hK ha hc hsl hKK kk V M ox hR H locs ls hP hD hS hl
    by_cases k2 : (xs a &&& 15) = (2:Int32)
    · refine sw_in (tgt := 287) (off := 248) hx hb dL_law_39 k2 (by decide) (by decide) (by decide) (by decide) ?_
      exact op_turn hl9 hL C0 hA hbA hE hK ha hc hsl hKK kk V M ox hR H locs ls hP hD hS hl
    by_cases k3 : (xs a &&& 15) = (3:Int32)
    · refine sw_in (tgt := 386) (off := 347) hx hb dL_law_39 k3 (by decide) (by decide) (by decide) (by decide) ?_
      exact op_tap hl9 hL C0 hA hbA hE hK ha hc hsl hKK kk V M ox hR H locs ls hP hD hS hl
    by_cases k4 : (xs a &&& 15) = (4:Int32)
    · refine sw_in (tgt := 461) (off := 422) hx hb dL_law_39 k4 (by decide) (by decide) (by decide) (by decide) ?_
      exact op_swap hl9 hL C0 hA hbA hE hK ha hc hsl hKK kk V M ox hR H locs ls hP hD hS hl
    by_cases k5 : (xs a &&& 15) = (5:Int32)
    · refine sw_in (tgt := 548) (off := 509) hx hb dL_law_39 k5 (by decide) (by decide) (by decide) (by decide) ?_
      exact op_play hl9 hL C0 hA hbA hE hK ha hc hsl hKK kk V M ox hR H locs ls hP hD hS hl
    by_cases k6 : (xs a &&& 15) = (6:Int32)
    · refine sw_in (tgt := 616) (off := 577) hx hb dL_law_39 k6 (by decide) (by decide) (by decide) (by decide) ?_
      exact op_code hl9 hL C0 hA hbA hE hK ha hc hsl hKK kk V M ox hR H locs ls hP hD hS hl
    by_cases k7 : (xs a &&& 15) = (7:Int32)
    · refine sw_in (tgt := 683) (off := 644) hx hb dL_law_39 k7 (by decide) (by decide) (by decide) (by decide) ?_
      exact op_trace hl9 hL C0 hA hbA hE hK ha hc hsl hKK kk V M ox hR H locs ls hP hD hS hl
    by_cases k8 : (xs a &&& 15) = (8:Int32)
    · refine sw_in (tgt := 750) (off := 711) hx hb dL_law_39 k8 (by decide) (by decide) (by decide) (by decide) ?_
      exact op_light hl9 hL C0 hA hbA hE hK ha hc hsl hKK kk V M ox hR H locs ls hP hD hS hl
    by_cases k9 : (xs a &&& 15) = (9:Int32)
    · refine sw_in (tgt := 787) (off := 748) hx hb dL_law_39 k9 (by decide) (by decide) (by decide) (by decide) ?_
      exact op_against hl9 hL C0 hA hbA hE hK ha hc hsl hKK kk V M ox hR H locs ls hP hD hS hl
    by_cases k10 : (xs a &&& 15) = (10:Int32)
    · refine sw_in (tgt := 843) (off := 804) hx hb dL_law_39 k10 (by decide) (by decide) (by decide) (by decide) ?_
      exact op_save hl9 hL C0 hA hbA hE hK ha hc hsl hKK kk V M ox hR H locs ls hP hD hS hl
    by_cases k11 : (xs a &&& 15) = (11:Int32)
    · refine sw_in (tgt := 911) (off := 872) hx hb dL_law_39 k11 (by decide) (by decide) (by decide) (by decide) ?_
      exact op_recall hl9 hL C0 hA hbA hE hK ha hc hsl hKK kk V M ox hR H locs ls hP hD hS hl
    by_cases k12 : (xs a &&& 15) = (12:Int32)
    · refine sw_in (tgt := 979) (off := 940) hx hb dL_law_39 k12 (by decide) (by decide) (by decide) (by decide) ?_
      exact op_patch hl9 hL C0 hA hbA hE hK ha hc hsl hKK kk V M ox hR H locs ls hP hD hS hl
    by_cases k13 : (xs a &&& 15) = (13:Int32)
    · refine sw_in (tgt := 1046) (off := 1007) hx hb dL_law_39 k13 (by decide) (by decide) (by decide) (by decide) ?_
      exact op_about hl9 hL C0 hA hbA hE hK ha hc hsl hKK kk V M ox hR H locs ls hP hD hS hl
    refine lv_tableOut (tgt := 1083) hx hb dL_law_39 (sw_out14 k0 k1 k2 k3 k4 k5 k6 k7 k8 k9 k10 k11 k12 k13) (by decide) ?_
    refine W.widen (k := cells + 1) (n := slots + 6) (by omega) (by omega) ?_
    exact kk V M ox (hR.up (by omega)) H locs ls hP hD hS hl
