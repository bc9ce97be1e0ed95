set_option maxHeartbeats 8000000 in
set_option maxRecDepth 100000 in
theorem cz_put {p : Program} {e : Env} {s : State} {m : MethodId} {below : List Frame} {meth : Method} {c : Code} {l : Launch} (hl9 : l.stackTraces = false) {b L : Nat} {xs : Nat → Int32} (hL : L ≤ 2560) (C0 : lw_At p s m meth c b L xs) {G : GT} {A : Nat → Prop} (hA : ∀ q : Nat, s.heap.size ≤ q → A q) (hbA : ¬ A b) (hE : Ev G A s s.heap) (hK : va_K G.1 vwCl (gT G) s) {a : Nat} (ha : a + 5 ≤ L) {ba bw ma qo : Nat} {U : Nat → Nat → Nat} {V : Nat → WV} {d : Nat → Nat} {M : MV} {ox : Nat → Int64} {cells slots : Nat} (hc : cells + 1 ≤ room_1.cells) (hsl : slots + 6 ≤ room_1.slots) {H : Heap} {locs : List Loc} {ls : Array Slot} (hP : va_P G.1 vwCl (lawW G ba bw U V ma d M qo ox) H) (hD : va_D A (lawW G ba bw U V ma d M qo ox)) (hS : va_S A s.heap H locs) (hl : lv_has ls 8 [(0, .ref b), (1, .ref ba), (2, .ref ma), (3, .ref qo), (4, .int (nI a))]) (i : Nat) (hh : Int32) (lo : Int32) (hv1 : xs (a + 1) = (nI i)) (hv2 : xs (a + 2) = hh) (hv3 : xs (a + 3) = lo) (hi4 : i < 4) (L_hwf : (pf4 (U 0 0) (U 1 0) (U 2 0) (U 3 0)) i = some (U i 0)) (L_hill : fX1_isIll i (fX1_codeOf i hh lo) = 0) (M_hill : fX4_isIll (nI i) (fX4_coded (nI i) hh lo) = 0) (hans : ((vp_updL ox 0 (if (fX3_put i (v_dr (V i)) hh lo) = 0 then (0:Int64) else (1:Int64))) 0) = (if (fX4_put (m_f0 M) i hh lo) = 0 then (0:Int64) else (1:Int64)))
    (kk : ∀ (H : Heap) (locs : List Loc) (ls : Array Slot), va_P G.1 vwCl (lawW G ba bw U (setV V i ((0:Int32), (fX1_codeOf i hh lo), (fX1_codeOf i hh lo), 0, (v_gr (V i)), (v_le (V i)), (v_n (V i)), (v_ki (V i)), (v_kn (V i)), (v_on (V i)), (v_ou (V i)), (v_li (V i)), (v_pn (V i)), (v_pki (V i)), (v_pkn (V i)), (v_pon (V i)))) ma d ((vp_updL (m_f0 M) i (fX4_coded (nI i) hh lo)), (vp_updL (m_f1 M) i (fX4_coded (nI i) hh lo)), (m_f2 M), (m_f3 M), (upd (m_f4 M) i (0:Int32)), (m_f5 M), (upd (m_f6 M) i (0:Int32)), (upd (m_f7 M) i (0:Int32)), (m_f8 M), (m_f9 M), (m_f10 M), (m_f11 M), (m_f12 M), (m_f13 M), (m_f14 M), (m_f15 M), (m_f16 M), (0:Int32)) qo (vp_updL ox 0 (if (fX3_put i (v_dr (V i)) hh lo) = 0 then (0:Int64) else (1:Int64)))) H → va_D A (lawW G ba bw U (setV V i ((0:Int32), (fX1_codeOf i hh lo), (fX1_codeOf i hh lo), 0, (v_gr (V i)), (v_le (V i)), (v_n (V i)), (v_ki (V i)), (v_kn (V i)), (v_on (V i)), (v_ou (V i)), (v_li (V i)), (v_pn (V i)), (v_pki (V i)), (v_pkn (V i)), (v_pon (V i)))) ma d ((vp_updL (m_f0 M) i (fX4_coded (nI i) hh lo)), (vp_updL (m_f1 M) i (fX4_coded (nI i) hh lo)), (m_f2 M), (m_f3 M), (upd (m_f4 M) i (0:Int32)), (m_f5 M), (upd (m_f6 M) i (0:Int32)), (upd (m_f7 M) i (0:Int32)), (m_f8 M), (m_f9 M), (m_f10 M), (m_f11 M), (m_f12 M), (m_f13 M), (m_f14 M), (m_f15 M), (m_f16 M), (0:Int32)) qo (vp_updL ox 0 (if (fX3_put i (v_dr (V i)) hh lo) = 0 then (0:Int64) else (1:Int64)))) → va_S A s.heap H locs → lv_has ls 8 [(0, .ref b), (1, .ref ba), (2, .ref ma), (3, .ref qo), (4, .int (nI a))] → W p l e room_1 s m #[Value.ref b] below meth c H locs (cells + 1) (slots + 6) (lw_Z below #[Value.ref b] s) (F0 m 1083 ls [])) : W p l e room_1 s m #[Value.ref b] below meth c H locs cells slots (lw_Z below #[Value.ref b] s) (F0 m 108 ls []) := by
  obtain ⟨hx, hb, hr, hml, hown, hts, hX, hbl, hlocks, hgv⟩ := id C0
  have hts := fun w h => hts w (wsL_law_in w h)
  have hcR : room_1.cells = 601024 := rfl
  have hsR : room_1.slots = 7293034 := rfl
  have L_hi4 := hi4
  have M_hi4 := hi4
  refine lv_aload_n hx hb dL_law_108 rfl (lv_at hl 1 rfl) ?_
  refine lv_aload_n hx hb dL_law_109 rfl (lv_at hl 0 rfl) ?_
  refine lv_iload hx hb dL_law_110 (lv_at hl 4 rfl) ?_
  refine lv_iconst (v := (1:Int32)) hx hb dL_law_112 (by decide) ?_
  refine lv_iadd hx hb dL_law_113 ?_
  refine ar_sldv (v := (nI i)) hx hb hX hbl hbA hS (a + 1) (nI_add a 1) hv1 (by omega) (by omega) dL_law_114 ?_
  refine lv_aload_n hx hb dL_law_115 rfl (lv_at hl 0 rfl) ?_
  refine lv_iload hx hb dL_law_116 (lv_at hl 4 rfl) ?_
  refine lv_iconst (v := (2:Int32)) hx hb dL_law_118 (by decide) ?_
  refine lv_iadd hx hb dL_law_119 ?_
  refine ar_sldv (v := hh) hx hb hX hbl hbA hS (a + 2) (nI_add a 2) hv2 (by omega) (by omega) dL_law_120 ?_
  refine lv_aload_n hx hb dL_law_121 rfl (lv_at hl 0 rfl) ?_
  refine lv_iload hx hb dL_law_122 (lv_at hl 4 rfl) ?_
  refine lv_iconst (v := (3:Int32)) hx hb dL_law_124 (by decide) ?_
  refine lv_iadd hx hb dL_law_125 ?_
  refine ar_sldv (v := lo) hx hb hX hbl hbA hS (a + 3) (nI_add a 3) hv3 (by omega) (by omega) dL_law_126 ?_
  refine lv_aload_n hx hb dL_law_127 rfl (lv_at hl 3 rfl) ?_
  refine lc_b (As := [.ref ba, .int (nI i), .int hh, .int lo, .ref qo]) (rest := []) (w0' := [((U i 0), .inr (2, [.ref (G.2.2.1 i), .ref (U i 1), .ref (U i 5), .ref (U i 22), .ref (U i 23), .int (v_tr (V i)), .long (v_dr (V i)), .long (v_wt (V i)), .int (nI (v_rd (V i))), .long (v_gr (V i)), .long (v_le (V i))]))]) (w1' := [((U i 0), .inr (2, [.ref (G.2.2.1 i), .ref (U i 1), .ref (U i 5), .ref (U i 22), .ref (U i 23), .int (0:Int32), .long (fX1_codeOf i hh lo), .long (fX1_codeOf i hh lo), .int (0:Int32), .long (v_gr (V i)), .long (v_le (V i))]))]) (v' := ((0:Int32), (fX1_codeOf i hh lo), (fX1_codeOf i hh lo), 0, (v_gr (V i)), (v_le (V i)), (v_n (V i)), (v_ki (V i)), (v_kn (V i)), (v_on (V i)), (v_ou (V i)), (v_li (V i)), (v_pn (V i)), (v_pki (V i)), (v_pkn (V i)), (v_pon (V i)))) (ox' := (vp_updL ox 0 (if (fX3_put i (v_dr (V i)) hh lo) = 0 then (0:Int64) else (1:Int64)))) ⟨hx, hb, hml, hown, hts⟩ (kL_put l hl9 G ba bw (pf4 (U 0 0) (U 1 0) (U 2 0) (U 3 0)) (U i 0) i (U i 1) (U i 5) (U i 22) (U i 23) (v_tr (V i)) (v_dr (V i)) (v_wt (V i)) (v_rd (V i)) (v_gr (V i)) (v_le (V i)) hh lo qo ox L_hi4 L_hwf L_hill) (vx_cwSW 5 hts gL_law_L_put rfl rfl rfl (by decide +kernel) ⟨Nat.le_of_ble_eq_true rfl, Nat.le_of_ble_eq_true rfl⟩) hE hK hP hD hS hA hl.1 hi4 [0] (nd4 hi4 (by decide)) (by decide) rfl rfl rfl rfl rfl rfl (Nat.le_of_ble_eq_true rfl) dL_law_128 ⟨hc, hsl⟩ (fun H locs hP hD hS => ?_)
  have hP : va_P G.1 vwCl (lawW G ba bw U (setV V i ((0:Int32), (fX1_codeOf i hh lo), (fX1_codeOf i hh lo), 0, (v_gr (V i)), (v_le (V i)), (v_n (V i)), (v_ki (V i)), (v_kn (V i)), (v_on (V i)), (v_ou (V i)), (v_li (V i)), (v_pn (V i)), (v_pki (V i)), (v_pkn (V i)), (v_pon (V i)))) ma d M qo (vp_updL ox 0 (if (fX3_put i (v_dr (V i)) hh lo) = 0 then (0:Int64) else (1:Int64)))) H := hP
  have hD : va_D A (lawW G ba bw U (setV V i ((0:Int32), (fX1_codeOf i hh lo), (fX1_codeOf i hh lo), 0, (v_gr (V i)), (v_le (V i)), (v_n (V i)), (v_ki (V i)), (v_kn (V i)), (v_on (V i)), (v_ou (V i)), (v_li (V i)), (v_pn (V i)), (v_pki (V i)), (v_pkn (V i)), (v_pon (V i)))) ma d M qo (vp_updL ox 0 (if (fX3_put i (v_dr (V i)) hh lo) = 0 then (0:Int64) else (1:Int64)))) := hD
  refine lv_istore (lv' := [(5, .int (0:Int32)), (0, .ref b), (1, .ref ba), (2, .ref ma), (3, .ref qo), (4, .int (nI a))]) hx hb dL_law_131 hl (by decide) rfl (fun ls hl => ?_)
  refine lv_aload_n hx hb dL_law_133 rfl (lv_at hl 3 rfl) ?_
  refine lv_aload_n hx hb dL_law_134 rfl (lv_at hl 1 rfl) ?_
  refine lv_iload hx hb dL_law_135 (lv_at hl 5 rfl) ?_
  refine lv_iconst (v := (1:Int32)) hx hb dL_law_137 (by decide) ?_
  refine lv_iadd hx hb dL_law_138 ?_
  refine ar_sldv (v := (nI i)) hx hb hX hbl hbA hS (a + 1) (nI_add a 1) hv1 (by omega) (by omega) dL_law_139 ?_
  refine lv_aload_n hx hb dL_law_140 rfl (lv_at hl 1 rfl) ?_
  refine lv_iload hx hb dL_law_141 (lv_at hl 5 rfl) ?_
  refine lv_iconst (v := (2:Int32)) hx hb dL_law_143 (by decide) ?_
  refine lv_iadd hx hb dL_law_144 ?_
  refine ar_sldv (v := hh) hx hb hX hbl hbA hS (a + 2) (nI_add a 2) hv2 (by omega) (by omega) dL_law_145 ?_
  refine lv_aload_n hx hb dL_law_146 rfl (lv_at hl 1 rfl) ?_
  refine lv_iload hx hb dL_law_147 (lv_at hl 5 rfl) ?_
  refine lv_iconst (v := (3:Int32)) hx hb dL_law_149 (by decide) ?_
  refine lv_iadd hx hb dL_law_150 ?_
  refine ar_sldv (v := lo) hx hb hX hbl hbA hS (a + 3) (nI_add a 3) hv3 (by omega) (by omega) dL_law_151 ?_
  refine lc_mi (As := [.int (nI i), .int hh, .int lo]) (rest := []) (w0' := [(ma, .inr (4, [.ref (d 0), .ref (d 1), .ref (d 2), .ref (d 3), .ref (d 4), .ref (d 5), .ref (d 6), .ref (d 7), .ref (d 8), .ref (d 9), .ref (d 10), .ref (d 11), .ref (d 12), .ref (d 13), .ref (d 14), .ref (d 15), .ref (d 16), .int (m_cd M)])), ((d 0), .inl (G.2.1 1, 4, .inr (.inl (m_f0 M)))), ((d 1), .inl (G.2.1 1, 4, .inr (.inl (m_f1 M)))), ((d 4), .inl (G.2.1 0, 4, .inl (m_f4 M))), ((d 6), .inl (G.2.1 2, 4, .inl (m_f6 M))), ((d 7), .inl (G.2.1 2, 4, .inl (m_f7 M)))]) (w1' := [(ma, .inr (4, [.ref (d 0), .ref (d 1), .ref (d 2), .ref (d 3), .ref (d 4), .ref (d 5), .ref (d 6), .ref (d 7), .ref (d 8), .ref (d 9), .ref (d 10), .ref (d 11), .ref (d 12), .ref (d 13), .ref (d 14), .ref (d 15), .ref (d 16), .int (0:Int32)])), ((d 0), .inl (G.2.1 1, 4, .inr (.inl (vp_updL (m_f0 M) i (fX4_coded (nI i) hh lo))))), ((d 1), .inl (G.2.1 1, 4, .inr (.inl (vp_updL (m_f1 M) i (fX4_coded (nI i) hh lo))))), ((d 4), .inl (G.2.1 0, 4, .inl (upd (m_f4 M) i (0:Int32)))), ((d 6), .inl (G.2.1 2, 4, .inl (upd (m_f6 M) i (0:Int32)))), ((d 7), .inl (G.2.1 2, 4, .inl (upd (m_f7 M) i (0:Int32))))]) (M' := ((vp_updL (m_f0 M) i (fX4_coded (nI i) hh lo)), (vp_updL (m_f1 M) i (fX4_coded (nI i) hh lo)), (m_f2 M), (m_f3 M), (upd (m_f4 M) i (0:Int32)), (m_f5 M), (upd (m_f6 M) i (0:Int32)), (upd (m_f7 M) i (0:Int32)), (m_f8 M), (m_f9 M), (m_f10 M), (m_f11 M), (m_f12 M), (m_f13 M), (m_f14 M), (m_f15 M), (m_f16 M), (0:Int32))) ⟨hx, hb, hml, hown, hts⟩ (kX4_put l G ma (d 0) (d 1) (d 2) (d 3) (d 4) (d 5) (d 6) (d 7) (d 8) (d 9) (d 10) (d 11) (d 12) (d 13) (d 14) (d 15) (d 16) (m_cd M) (m_f0 M) (m_f1 M) (m_f4 M) (m_f6 M) (m_f7 M) i hh lo M_hi4 M_hill) (cwV 3 hts gL_law_X4_put rfl rfl rfl (by decide +kernel) ⟨Nat.le_of_ble_eq_true rfl, Nat.le_of_ble_eq_true rfl⟩) hE hK hP hD hS hA hl.1 [0, 1, 2, 5, 7, 8] (by decide) (by decide) rfl rfl rfl rfl rfl (Nat.le_of_ble_eq_true rfl) dL_law_152 ⟨by omega, by omega⟩ (fun H locs hP hD hS => ?_)
  have hP : va_P G.1 vwCl (lawW G ba bw U (setV V i ((0:Int32), (fX1_codeOf i hh lo), (fX1_codeOf i hh lo), 0, (v_gr (V i)), (v_le (V i)), (v_n (V i)), (v_ki (V i)), (v_kn (V i)), (v_on (V i)), (v_ou (V i)), (v_li (V i)), (v_pn (V i)), (v_pki (V i)), (v_pkn (V i)), (v_pon (V i)))) ma d ((vp_updL (m_f0 M) i (fX4_coded (nI i) hh lo)), (vp_updL (m_f1 M) i (fX4_coded (nI i) hh lo)), (m_f2 M), (m_f3 M), (upd (m_f4 M) i (0:Int32)), (m_f5 M), (upd (m_f6 M) i (0:Int32)), (upd (m_f7 M) i (0:Int32)), (m_f8 M), (m_f9 M), (m_f10 M), (m_f11 M), (m_f12 M), (m_f13 M), (m_f14 M), (m_f15 M), (m_f16 M), (0:Int32)) qo (vp_updL ox 0 (if (fX3_put i (v_dr (V i)) hh lo) = 0 then (0:Int64) else (1:Int64)))) H := hP
  have hD : va_D A (lawW G ba bw U (setV V i ((0:Int32), (fX1_codeOf i hh lo), (fX1_codeOf i hh lo), 0, (v_gr (V i)), (v_le (V i)), (v_n (V i)), (v_ki (V i)), (v_kn (V i)), (v_on (V i)), (v_ou (V i)), (v_li (V i)), (v_pn (V i)), (v_pki (V i)), (v_pkn (V i)), (v_pon (V i)))) ma d ((vp_updL (m_f0 M) i (fX4_coded (nI i) hh lo)), (vp_updL (m_f1 M) i (fX4_coded (nI i) hh lo)), (m_f2 M), (m_f3 M), (upd (m_f4 M) i (0:Int32)), (m_f5 M), (upd (m_f6 M) i (0:Int32)), (upd (m_f7 M) i (0:Int32)), (m_f8 M), (m_f9 M), (m_f10 M), (m_f11 M), (m_f12 M), (m_f13 M), (m_f14 M), (m_f15 M), (m_f16 M), (0:Int32)) qo (vp_updL ox 0 (if (fX3_put i (v_dr (V i)) hh lo) = 0 then (0:Int64) else (1:Int64)))) := hD
  refine lv_istore (lv' := [(6, .int (fX4_put (m_f0 M) i hh lo)), (5, .int (0:Int32)), (0, .ref b), (1, .ref ba), (2, .ref ma), (3, .ref qo), (4, .int (nI a))]) hx hb dL_law_155 hl (by decide) rfl (fun ls hl => ?_)
  refine lv_aload_n hx hb dL_law_157 rfl (lv_at hl 4 rfl) ?_
  refine lc_mi (As := []) (rest := []) (w0' := [(ma, .inr (4, [.ref (d 0), .ref (d 1), .ref (d 2), .ref (d 3), .ref (d 4), .ref (d 5), .ref (d 6), .ref (d 7), .ref (d 8), .ref (d 9), .ref (d 10), .ref (d 11), .ref (d 12), .ref (d 13), .ref (d 14), .ref (d 15), .ref (d 16), .int (m_cd ((vp_updL (m_f0 M) i (fX4_coded (nI i) hh lo)), (vp_updL (m_f1 M) i (fX4_coded (nI i) hh lo)), (m_f2 M), (m_f3 M), (upd (m_f4 M) i (0:Int32)), (m_f5 M), (upd (m_f6 M) i (0:Int32)), (upd (m_f7 M) i (0:Int32)), (m_f8 M), (m_f9 M), (m_f10 M), (m_f11 M), (m_f12 M), (m_f13 M), (m_f14 M), (m_f15 M), (m_f16 M), (0:Int32)))]))]) (w1' := [(ma, .inr (4, [.ref (d 0), .ref (d 1), .ref (d 2), .ref (d 3), .ref (d 4), .ref (d 5), .ref (d 6), .ref (d 7), .ref (d 8), .ref (d 9), .ref (d 10), .ref (d 11), .ref (d 12), .ref (d 13), .ref (d 14), .ref (d 15), .ref (d 16), .int (m_cd ((vp_updL (m_f0 M) i (fX4_coded (nI i) hh lo)), (vp_updL (m_f1 M) i (fX4_coded (nI i) hh lo)), (m_f2 M), (m_f3 M), (upd (m_f4 M) i (0:Int32)), (m_f5 M), (upd (m_f6 M) i (0:Int32)), (upd (m_f7 M) i (0:Int32)), (m_f8 M), (m_f9 M), (m_f10 M), (m_f11 M), (m_f12 M), (m_f13 M), (m_f14 M), (m_f15 M), (m_f16 M), (0:Int32)))]))]) (M' := ((vp_updL (m_f0 M) i (fX4_coded (nI i) hh lo)), (vp_updL (m_f1 M) i (fX4_coded (nI i) hh lo)), (m_f2 M), (m_f3 M), (upd (m_f4 M) i (0:Int32)), (m_f5 M), (upd (m_f6 M) i (0:Int32)), (upd (m_f7 M) i (0:Int32)), (m_f8 M), (m_f9 M), (m_f10 M), (m_f11 M), (m_f12 M), (m_f13 M), (m_f14 M), (m_f15 M), (m_f16 M), (0:Int32))) ⟨hx, hb, hml, hown, hts⟩ (kX4_thrown l G ma (d 0) (d 1) (d 2) (d 3) (d 4) (d 5) (d 6) (d 7) (d 8) (d 9) (d 10) (d 11) (d 12) (d 13) (d 14) (d 15) (d 16) (m_cd ((vp_updL (m_f0 M) i (fX4_coded (nI i) hh lo)), (vp_updL (m_f1 M) i (fX4_coded (nI i) hh lo)), (m_f2 M), (m_f3 M), (upd (m_f4 M) i (0:Int32)), (m_f5 M), (upd (m_f6 M) i (0:Int32)), (upd (m_f7 M) i (0:Int32)), (m_f8 M), (m_f9 M), (m_f10 M), (m_f11 M), (m_f12 M), (m_f13 M), (m_f14 M), (m_f15 M), (m_f16 M), (0:Int32)))) (cwV 0 hts gL_law_X4_thrown rfl rfl rfl (by decide +kernel) ⟨Nat.le_of_ble_eq_true rfl, Nat.le_of_ble_eq_true rfl⟩) hE hK hP hD hS hA hl.1 [0] (by decide) (by decide) rfl rfl rfl rfl rfl (Nat.le_of_ble_eq_true rfl) dL_law_158 ⟨by omega, by omega⟩ (fun H locs hP hD hS => ?_)
  have hP : va_P G.1 vwCl (lawW G ba bw U (setV V i ((0:Int32), (fX1_codeOf i hh lo), (fX1_codeOf i hh lo), 0, (v_gr (V i)), (v_le (V i)), (v_n (V i)), (v_ki (V i)), (v_kn (V i)), (v_on (V i)), (v_ou (V i)), (v_li (V i)), (v_pn (V i)), (v_pki (V i)), (v_pkn (V i)), (v_pon (V i)))) ma d ((vp_updL (m_f0 M) i (fX4_coded (nI i) hh lo)), (vp_updL (m_f1 M) i (fX4_coded (nI i) hh lo)), (m_f2 M), (m_f3 M), (upd (m_f4 M) i (0:Int32)), (m_f5 M), (upd (m_f6 M) i (0:Int32)), (upd (m_f7 M) i (0:Int32)), (m_f8 M), (m_f9 M), (m_f10 M), (m_f11 M), (m_f12 M), (m_f13 M), (m_f14 M), (m_f15 M), (m_f16 M), (0:Int32)) qo (vp_updL ox 0 (if (fX3_put i (v_dr (V i)) hh lo) = 0 then (0:Int64) else (1:Int64)))) H := hP
  have hD : va_D A (lawW G ba bw U (setV V i ((0:Int32), (fX1_codeOf i hh lo), (fX1_codeOf i hh lo), 0, (v_gr (V i)), (v_le (V i)), (v_n (V i)), (v_ki (V i)), (v_kn (V i)), (v_on (V i)), (v_ou (V i)), (v_li (V i)), (v_pn (V i)), (v_pki (V i)), (v_pkn (V i)), (v_pon (V i)))) ma d ((vp_updL (m_f0 M) i (fX4_coded (nI i) hh lo)), (vp_updL (m_f1 M) i (fX4_coded (nI i) hh lo)), (m_f2 M), (m_f3 M), (upd (m_f4 M) i (0:Int32)), (m_f5 M), (upd (m_f6 M) i (0:Int32)), (upd (m_f7 M) i (0:Int32)), (m_f8 M), (m_f9 M), (m_f10 M), (m_f11 M), (m_f12 M), (m_f13 M), (m_f14 M), (m_f15 M), (m_f16 M), (0:Int32)) qo (vp_updL ox 0 (if (fX3_put i (v_dr (V i)) hh lo) = 0 then (0:Int64) else (1:Int64)))) := hD
  refine lv_iload hx hb dL_law_161 (lv_at hl 1 rfl) ?_
  refine bi_eq (tgt := 168) hx hb dL_law_163 (by decide) (fun _ => ?_) (fun h9 => absurd rfl h9)
  refine lv_iload hx hb dL_law_168 (lv_at hl 1 rfl) ?_
  refine bz_ne (tgt := 192) hx hb dL_law_170 (by decide) (fun _ => ?_) (fun h9 => absurd rfl h9)
  refine lv_aload_n hx hb dL_law_173 rfl (lv_at hl 5 rfl) ?_
  refine lv_iconst (v := (0:Int32)) hx hb dL_law_174 (by decide) ?_
  refine lw_out hx hb hK hP dL_law_175 ?_
  refine lv_iload hx hb dL_law_176 (lv_at hl 0 rfl) ?_
  refine jn_3 (T := Int64) G A (if (fX4_put (m_f0 M) i hh lo) = 0 then (0:Int64) else (1:Int64)) (lawW G ba bw U (setV V i ((0:Int32), (fX1_codeOf i hh lo), (fX1_codeOf i hh lo), 0, (v_gr (V i)), (v_le (V i)), (v_n (V i)), (v_ki (V i)), (v_kn (V i)), (v_on (V i)), (v_ou (V i)), (v_li (V i)), (v_pn (V i)), (v_pki (V i)), (v_pkn (V i)), (v_pon (V i)))) ma d ((vp_updL (m_f0 M) i (fX4_coded (nI i) hh lo)), (vp_updL (m_f1 M) i (fX4_coded (nI i) hh lo)), (m_f2 M), (m_f3 M), (upd (m_f4 M) i (0:Int32)), (m_f5 M), (upd (m_f6 M) i (0:Int32)), (upd (m_f7 M) i (0:Int32)), (m_f8 M), (m_f9 M), (m_f10 M), (m_f11 M), (m_f12 M), (m_f13 M), (m_f14 M), (m_f15 M), (m_f16 M), (0:Int32)) qo (vp_updL ox 0 (if (fX3_put i (v_dr (V i)) hh lo) = 0 then (0:Int64) else (1:Int64)))) 8 ([(6, .int (fX4_put (m_f0 M) i hh lo)), (5, .int (0:Int32)), (0, .ref b), (1, .ref ba), (2, .ref ma), (3, .ref qo), (4, .int (nI a))]) (fun y => .long y :: [.long ((vp_updL ox 0 (if (fX3_put i (v_dr (V i)) hh lo) = 0 then (0:Int64) else (1:Int64))) 0)]) 186 ?_ ?_
  · intro kj_2
    refine bz_eq (tgt := 185) hx hb dL_law_178 (by decide) (fun c_1 => ?_) (fun c_1 => ?_)
    · refine lv_lconst (v := (0:Int64)) hx hb dL_law_185 (by decide) ?_
      exact kj_2 _ (by rw [if_pos c_1]) _ _ _ hP hD hS hl
    · refine lv_lconst (v := (1:Int64)) hx hb dL_law_181 (by decide) ?_
      refine lv_goto (tgt := 186) hx hb dL_law_182 (by decide) ?_
      exact kj_2 _ (by rw [if_neg c_1]) _ _ _ hP hD hS hl
  · intro y_2 ey_2 H locs ls hP hD hS hl
    refine bl_eq (tgt := 192) hx hb dL_law_186 dL_law_187 (by decide) (fun _ => ?_) (fun h9 => absurd (by rw [ey_2]; exact hans) h9)
    refine lv_goto (tgt := 1083) hx hb dL_law_192 (by decide) ?_
    exact kk H locs ls hP hD hS (lv_sub hl [2, 3, 4, 5, 6] rfl)
set_option maxHeartbeats 8000000 in
set_option maxRecDepth 100000 in
theorem cz_putX0 {p : Program} {e : Env} {s : State} {m : MethodId} {below : List Frame} {meth : Method} {c : Code} {l : Launch} (hl9 : l.stackTraces = false) {b L : Nat} {xs : Nat → Int32} (hL : L ≤ 2560) (C0 : lw_At p s m meth c b L xs) {G : GT} {A : Nat → Prop} (hA : ∀ q : Nat, s.heap.size ≤ q → A q) (hbA : ¬ A b) (hE : Ev G A s s.heap) (hK : va_K G.1 vwCl (gT G) s) {a : Nat} (ha : a + 5 ≤ L) {ba bw ma qo : Nat} {U : Nat → Nat → Nat} {V : Nat → WV} {d : Nat → Nat} {M : MV} {ox : Nat → Int64} {cells slots : Nat} (hc : cells + 1 ≤ room_1.cells) (hsl : slots + 6 ≤ room_1.slots) {H : Heap} {locs : List Loc} {ls : Array Slot} (hP : va_P G.1 vwCl (lawW G ba bw U V ma d M qo ox) H) (hD : va_D A (lawW G ba bw U V ma d M qo ox)) (hS : va_S A s.heap H locs) (hl : lv_has ls 8 [(0, .ref b), (1, .ref ba), (2, .ref ma), (3, .ref qo), (4, .int (nI a))]) (wi : Int32) (hh : Int32) (lo : Int32) (hv1 : xs (a + 1) = wi) (hv2 : xs (a + 2) = hh) (hv3 : xs (a + 3) = lo) (L_hwi : fX3_isWire wi = 0) (M_hwi : fX4_isWire wi = 0)
    (kk : ∀ (H : Heap) (locs : List Loc) (ls : Array Slot), va_P G.1 vwCl (lawW G ba bw U V ma d ((m_f0 M), (m_f1 M), (m_f2 M), (m_f3 M), (m_f4 M), (m_f5 M), (m_f6 M), (m_f7 M), (m_f8 M), (m_f9 M), (m_f10 M), (m_f11 M), (m_f12 M), (m_f13 M), (m_f14 M), (m_f15 M), (m_f16 M), (1:Int32)) qo ox) H → va_D A (lawW G ba bw U V ma d ((m_f0 M), (m_f1 M), (m_f2 M), (m_f3 M), (m_f4 M), (m_f5 M), (m_f6 M), (m_f7 M), (m_f8 M), (m_f9 M), (m_f10 M), (m_f11 M), (m_f12 M), (m_f13 M), (m_f14 M), (m_f15 M), (m_f16 M), (1:Int32)) qo ox) → va_S A s.heap H locs → lv_has ls 8 [(0, .ref b), (1, .ref ba), (2, .ref ma), (3, .ref qo), (4, .int (nI a))] → W p l e room_1 s m #[Value.ref b] below meth c H locs (cells + 1) (slots + 6) (lw_Z below #[Value.ref b] s) (F0 m 1083 ls [])) : W p l e room_1 s m #[Value.ref b] below meth c H locs cells slots (lw_Z below #[Value.ref b] s) (F0 m 108 ls []) := by
  obtain ⟨hx, hb, hr, hml, hown, hts, hX, hbl, hlocks, hgv⟩ := id C0
  have hts := fun w h => hts w (wsL_law_in w h)
  have hcR : room_1.cells = 601024 := rfl
  have hsR : room_1.slots = 7293034 := rfl
  refine lv_aload_n hx hb dL_law_108 rfl (lv_at hl 1 rfl) ?_
  refine lv_aload_n hx hb dL_law_109 rfl (lv_at hl 0 rfl) ?_
  refine lv_iload hx hb dL_law_110 (lv_at hl 4 rfl) ?_
  refine lv_iconst (v := (1:Int32)) hx hb dL_law_112 (by decide) ?_
  refine lv_iadd hx hb dL_law_113 ?_
  refine ar_sldv (v := wi) hx hb hX hbl hbA hS (a + 1) (nI_add a 1) hv1 (by omega) (by omega) dL_law_114 ?_
  refine lv_aload_n hx hb dL_law_115 rfl (lv_at hl 0 rfl) ?_
  refine lv_iload hx hb dL_law_116 (lv_at hl 4 rfl) ?_
  refine lv_iconst (v := (2:Int32)) hx hb dL_law_118 (by decide) ?_
  refine lv_iadd hx hb dL_law_119 ?_
  refine ar_sldv (v := hh) hx hb hX hbl hbA hS (a + 2) (nI_add a 2) hv2 (by omega) (by omega) dL_law_120 ?_
  refine lv_aload_n hx hb dL_law_121 rfl (lv_at hl 0 rfl) ?_
  refine lv_iload hx hb dL_law_122 (lv_at hl 4 rfl) ?_
  refine lv_iconst (v := (3:Int32)) hx hb dL_law_124 (by decide) ?_
  refine lv_iadd hx hb dL_law_125 ?_
  refine ar_sldv (v := lo) hx hb hX hbl hbA hS (a + 3) (nI_add a 3) hv3 (by omega) (by omega) dL_law_126 ?_
  refine lv_aload_n hx hb dL_law_127 rfl (lv_at hl 3 rfl) ?_
  refine lc_0 (As := [.ref ba, .int wi, .int hh, .int lo, .ref qo]) (rest := []) ⟨hx, hb, hml, hown, hts⟩ (kL_putX0 l hl9 G ba bw (pf4 (U 0 0) (U 1 0) (U 2 0) (U 3 0)) wi hh lo qo ox L_hwi) (vx_cwSW 5 hts gL_law_L_put rfl rfl rfl (by decide +kernel) ⟨Nat.le_of_ble_eq_true rfl, Nat.le_of_ble_eq_true rfl⟩) hE hK hP hD hS hA hl.1 rfl rfl (Nat.le_of_ble_eq_true rfl) dL_law_128 ⟨hc, hsl⟩ (fun H locs hP hD hS => ?_)
  have hP : va_P G.1 vwCl (lawW G ba bw U V ma d M qo ox) H := hP
  have hD : va_D A (lawW G ba bw U V ma d M qo ox) := hD
  refine lv_istore (lv' := [(5, .int (1:Int32)), (0, .ref b), (1, .ref ba), (2, .ref ma), (3, .ref qo), (4, .int (nI a))]) hx hb dL_law_131 hl (by decide) rfl (fun ls hl => ?_)
  refine lv_aload_n hx hb dL_law_133 rfl (lv_at hl 3 rfl) ?_
  refine lv_aload_n hx hb dL_law_134 rfl (lv_at hl 1 rfl) ?_
  refine lv_iload hx hb dL_law_135 (lv_at hl 5 rfl) ?_
  refine lv_iconst (v := (1:Int32)) hx hb dL_law_137 (by decide) ?_
  refine lv_iadd hx hb dL_law_138 ?_
  refine ar_sldv (v := wi) hx hb hX hbl hbA hS (a + 1) (nI_add a 1) hv1 (by omega) (by omega) dL_law_139 ?_
  refine lv_aload_n hx hb dL_law_140 rfl (lv_at hl 1 rfl) ?_
  refine lv_iload hx hb dL_law_141 (lv_at hl 5 rfl) ?_
  refine lv_iconst (v := (2:Int32)) hx hb dL_law_143 (by decide) ?_
  refine lv_iadd hx hb dL_law_144 ?_
  refine ar_sldv (v := hh) hx hb hX hbl hbA hS (a + 2) (nI_add a 2) hv2 (by omega) (by omega) dL_law_145 ?_
  refine lv_aload_n hx hb dL_law_146 rfl (lv_at hl 1 rfl) ?_
  refine lv_iload hx hb dL_law_147 (lv_at hl 5 rfl) ?_
  refine lv_iconst (v := (3:Int32)) hx hb dL_law_149 (by decide) ?_
  refine lv_iadd hx hb dL_law_150 ?_
  refine ar_sldv (v := lo) hx hb hX hbl hbA hS (a + 3) (nI_add a 3) hv3 (by omega) (by omega) dL_law_151 ?_
  refine lc_mi (As := [.int wi, .int hh, .int lo]) (rest := []) (w0' := [(ma, .inr (4, [.ref (d 0), .ref (d 1), .ref (d 2), .ref (d 3), .ref (d 4), .ref (d 5), .ref (d 6), .ref (d 7), .ref (d 8), .ref (d 9), .ref (d 10), .ref (d 11), .ref (d 12), .ref (d 13), .ref (d 14), .ref (d 15), .ref (d 16), .int (m_cd M)]))]) (w1' := [(ma, .inr (4, [.ref (d 0), .ref (d 1), .ref (d 2), .ref (d 3), .ref (d 4), .ref (d 5), .ref (d 6), .ref (d 7), .ref (d 8), .ref (d 9), .ref (d 10), .ref (d 11), .ref (d 12), .ref (d 13), .ref (d 14), .ref (d 15), .ref (d 16), .int (1:Int32)]))]) (M' := ((m_f0 M), (m_f1 M), (m_f2 M), (m_f3 M), (m_f4 M), (m_f5 M), (m_f6 M), (m_f7 M), (m_f8 M), (m_f9 M), (m_f10 M), (m_f11 M), (m_f12 M), (m_f13 M), (m_f14 M), (m_f15 M), (m_f16 M), (1:Int32))) ⟨hx, hb, hml, hown, hts⟩ (kX4_putB0 l G ma (d 0) (d 1) (d 2) (d 3) (d 4) (d 5) (d 6) (d 7) (d 8) (d 9) (d 10) (d 11) (d 12) (d 13) (d 14) (d 15) (d 16) (m_cd M) wi hh lo M_hwi) (cwV 3 hts gL_law_X4_put rfl rfl rfl (by decide +kernel) ⟨Nat.le_of_ble_eq_true rfl, Nat.le_of_ble_eq_true rfl⟩) hE hK hP hD hS hA hl.1 [0] (by decide) (by decide) rfl rfl rfl rfl rfl (Nat.le_of_ble_eq_true rfl) dL_law_152 ⟨by omega, by omega⟩ (fun H locs hP hD hS => ?_)
  have hP : va_P G.1 vwCl (lawW G ba bw U V ma d ((m_f0 M), (m_f1 M), (m_f2 M), (m_f3 M), (m_f4 M), (m_f5 M), (m_f6 M), (m_f7 M), (m_f8 M), (m_f9 M), (m_f10 M), (m_f11 M), (m_f12 M), (m_f13 M), (m_f14 M), (m_f15 M), (m_f16 M), (1:Int32)) qo ox) H := hP
  have hD : va_D A (lawW G ba bw U V ma d ((m_f0 M), (m_f1 M), (m_f2 M), (m_f3 M), (m_f4 M), (m_f5 M), (m_f6 M), (m_f7 M), (m_f8 M), (m_f9 M), (m_f10 M), (m_f11 M), (m_f12 M), (m_f13 M), (m_f14 M), (m_f15 M), (m_f16 M), (1:Int32)) qo ox) := hD
  refine lv_istore (lv' := [(6, .int (0:Int32)), (5, .int (1:Int32)), (0, .ref b), (1, .ref ba), (2, .ref ma), (3, .ref qo), (4, .int (nI a))]) hx hb dL_law_155 hl (by decide) rfl (fun ls hl => ?_)
  refine lv_aload_n hx hb dL_law_157 rfl (lv_at hl 4 rfl) ?_
  refine lc_mi (As := []) (rest := []) (w0' := [(ma, .inr (4, [.ref (d 0), .ref (d 1), .ref (d 2), .ref (d 3), .ref (d 4), .ref (d 5), .ref (d 6), .ref (d 7), .ref (d 8), .ref (d 9), .ref (d 10), .ref (d 11), .ref (d 12), .ref (d 13), .ref (d 14), .ref (d 15), .ref (d 16), .int (m_cd ((m_f0 M), (m_f1 M), (m_f2 M), (m_f3 M), (m_f4 M), (m_f5 M), (m_f6 M), (m_f7 M), (m_f8 M), (m_f9 M), (m_f10 M), (m_f11 M), (m_f12 M), (m_f13 M), (m_f14 M), (m_f15 M), (m_f16 M), (1:Int32)))]))]) (w1' := [(ma, .inr (4, [.ref (d 0), .ref (d 1), .ref (d 2), .ref (d 3), .ref (d 4), .ref (d 5), .ref (d 6), .ref (d 7), .ref (d 8), .ref (d 9), .ref (d 10), .ref (d 11), .ref (d 12), .ref (d 13), .ref (d 14), .ref (d 15), .ref (d 16), .int (m_cd ((m_f0 M), (m_f1 M), (m_f2 M), (m_f3 M), (m_f4 M), (m_f5 M), (m_f6 M), (m_f7 M), (m_f8 M), (m_f9 M), (m_f10 M), (m_f11 M), (m_f12 M), (m_f13 M), (m_f14 M), (m_f15 M), (m_f16 M), (1:Int32)))]))]) (M' := ((m_f0 M), (m_f1 M), (m_f2 M), (m_f3 M), (m_f4 M), (m_f5 M), (m_f6 M), (m_f7 M), (m_f8 M), (m_f9 M), (m_f10 M), (m_f11 M), (m_f12 M), (m_f13 M), (m_f14 M), (m_f15 M), (m_f16 M), (1:Int32))) ⟨hx, hb, hml, hown, hts⟩ (kX4_thrown l G ma (d 0) (d 1) (d 2) (d 3) (d 4) (d 5) (d 6) (d 7) (d 8) (d 9) (d 10) (d 11) (d 12) (d 13) (d 14) (d 15) (d 16) (m_cd ((m_f0 M), (m_f1 M), (m_f2 M), (m_f3 M), (m_f4 M), (m_f5 M), (m_f6 M), (m_f7 M), (m_f8 M), (m_f9 M), (m_f10 M), (m_f11 M), (m_f12 M), (m_f13 M), (m_f14 M), (m_f15 M), (m_f16 M), (1:Int32)))) (cwV 0 hts gL_law_X4_thrown rfl rfl rfl (by decide +kernel) ⟨Nat.le_of_ble_eq_true rfl, Nat.le_of_ble_eq_true rfl⟩) hE hK hP hD hS hA hl.1 [0] (by decide) (by decide) rfl rfl rfl rfl rfl (Nat.le_of_ble_eq_true rfl) dL_law_158 ⟨by omega, by omega⟩ (fun H locs hP hD hS => ?_)
  have hP : va_P G.1 vwCl (lawW G ba bw U V ma d ((m_f0 M), (m_f1 M), (m_f2 M), (m_f3 M), (m_f4 M), (m_f5 M), (m_f6 M), (m_f7 M), (m_f8 M), (m_f9 M), (m_f10 M), (m_f11 M), (m_f12 M), (m_f13 M), (m_f14 M), (m_f15 M), (m_f16 M), (1:Int32)) qo ox) H := hP
  have hD : va_D A (lawW G ba bw U V ma d ((m_f0 M), (m_f1 M), (m_f2 M), (m_f3 M), (m_f4 M), (m_f5 M), (m_f6 M), (m_f7 M), (m_f8 M), (m_f9 M), (m_f10 M), (m_f11 M), (m_f12 M), (m_f13 M), (m_f14 M), (m_f15 M), (m_f16 M), (1:Int32)) qo ox) := hD
  refine lv_iload hx hb dL_law_161 (lv_at hl 1 rfl) ?_
  refine bi_eq (tgt := 168) hx hb dL_law_163 (by decide) (fun _ => ?_) (fun h9 => absurd rfl h9)
  refine lv_iload hx hb dL_law_168 (lv_at hl 1 rfl) ?_
  refine bz_ne (tgt := 192) hx hb dL_law_170 (by decide) (fun h9 => absurd h9 (by decide)) (fun _ => ?_)
  refine lv_goto (tgt := 1083) hx hb dL_law_192 (by decide) ?_
  exact kk H locs ls hP hD hS (lv_sub hl [2, 3, 4, 5, 6] rfl)
set_option maxHeartbeats 8000000 in
set_option maxRecDepth 100000 in
theorem cz_putX1 {p : Program} {e : Env} {s : State} {m : MethodId} {below : List Frame} {meth : Method} {c : Code} {l : Launch} (hl9 : l.stackTraces = false) {b L : Nat} {xs : Nat → Int32} (hL : L ≤ 2560) (C0 : lw_At p s m meth c b L xs) {G : GT} {A : Nat → Prop} (hA : ∀ q : Nat, s.heap.size ≤ q → A q) (hbA : ¬ A b) (hE : Ev G A s s.heap) (hK : va_K G.1 vwCl (gT G) s) {a : Nat} (ha : a + 5 ≤ L) {ba bw ma qo : Nat} {U : Nat → Nat → Nat} {V : Nat → WV} {d : Nat → Nat} {M : MV} {ox : Nat → Int64} {cells slots : Nat} (hc : cells + 1 ≤ room_1.cells) (hsl : slots + 6 ≤ room_1.slots) {H : Heap} {locs : List Loc} {ls : Array Slot} (hP : va_P G.1 vwCl (lawW G ba bw U V ma d M qo ox) H) (hD : va_D A (lawW G ba bw U V ma d M qo ox)) (hS : va_S A s.heap H locs) (hl : lv_has ls 8 [(0, .ref b), (1, .ref ba), (2, .ref ma), (3, .ref qo), (4, .int (nI a))]) (i : Nat) (hh : Int32) (lo : Int32) (hv1 : xs (a + 1) = (nI i)) (hv2 : xs (a + 2) = hh) (hv3 : xs (a + 3) = lo) (hi4 : i < 4) (L_hwf : (pf4 (U 0 0) (U 1 0) (U 2 0) (U 3 0)) i = some (U i 0)) (L_hill : ¬ fX1_isIll i (fX1_codeOf i hh lo) = 0) (M_hill : ¬ fX4_isIll (nI i) (fX4_coded (nI i) hh lo) = 0)
    (kk : ∀ (H : Heap) (locs : List Loc) (ls : Array Slot), va_P G.1 vwCl (lawW G ba bw U (setV V i ((v_tr (V i)), (v_dr (V i)), (v_wt (V i)), (v_rd (V i)), (v_gr (V i)), (v_le (V i)), (v_n (V i)), (v_ki (V i)), (v_kn (V i)), (v_on (V i)), (v_ou (V i)), (v_li (V i)), (v_pn (V i)), (v_pki (V i)), (v_pkn (V i)), (v_pon (V i)))) ma d ((m_f0 M), (m_f1 M), (m_f2 M), (m_f3 M), (m_f4 M), (m_f5 M), (m_f6 M), (m_f7 M), (m_f8 M), (m_f9 M), (m_f10 M), (m_f11 M), (m_f12 M), (m_f13 M), (m_f14 M), (m_f15 M), (m_f16 M), (1:Int32)) qo ox) H → va_D A (lawW G ba bw U (setV V i ((v_tr (V i)), (v_dr (V i)), (v_wt (V i)), (v_rd (V i)), (v_gr (V i)), (v_le (V i)), (v_n (V i)), (v_ki (V i)), (v_kn (V i)), (v_on (V i)), (v_ou (V i)), (v_li (V i)), (v_pn (V i)), (v_pki (V i)), (v_pkn (V i)), (v_pon (V i)))) ma d ((m_f0 M), (m_f1 M), (m_f2 M), (m_f3 M), (m_f4 M), (m_f5 M), (m_f6 M), (m_f7 M), (m_f8 M), (m_f9 M), (m_f10 M), (m_f11 M), (m_f12 M), (m_f13 M), (m_f14 M), (m_f15 M), (m_f16 M), (1:Int32)) qo ox) → va_S A s.heap H locs → lv_has ls 8 [(0, .ref b), (1, .ref ba), (2, .ref ma), (3, .ref qo), (4, .int (nI a))] → W p l e room_1 s m #[Value.ref b] below meth c H locs (cells + 1) (slots + 6) (lw_Z below #[Value.ref b] s) (F0 m 1083 ls [])) : W p l e room_1 s m #[Value.ref b] below meth c H locs cells slots (lw_Z below #[Value.ref b] s) (F0 m 108 ls []) := by
  obtain ⟨hx, hb, hr, hml, hown, hts, hX, hbl, hlocks, hgv⟩ := id C0
  have hts := fun w h => hts w (wsL_law_in w h)
  have hcR : room_1.cells = 601024 := rfl
  have hsR : room_1.slots = 7293034 := rfl
  have L_hi4 := hi4
  have M_hi4 := hi4
  refine lv_aload_n hx hb dL_law_108 rfl (lv_at hl 1 rfl) ?_
  refine lv_aload_n hx hb dL_law_109 rfl (lv_at hl 0 rfl) ?_
  refine lv_iload hx hb dL_law_110 (lv_at hl 4 rfl) ?_
  refine lv_iconst (v := (1:Int32)) hx hb dL_law_112 (by decide) ?_
  refine lv_iadd hx hb dL_law_113 ?_
  refine ar_sldv (v := (nI i)) hx hb hX hbl hbA hS (a + 1) (nI_add a 1) hv1 (by omega) (by omega) dL_law_114 ?_
  refine lv_aload_n hx hb dL_law_115 rfl (lv_at hl 0 rfl) ?_
  refine lv_iload hx hb dL_law_116 (lv_at hl 4 rfl) ?_
  refine lv_iconst (v := (2:Int32)) hx hb dL_law_118 (by decide) ?_
  refine lv_iadd hx hb dL_law_119 ?_
  refine ar_sldv (v := hh) hx hb hX hbl hbA hS (a + 2) (nI_add a 2) hv2 (by omega) (by omega) dL_law_120 ?_
  refine lv_aload_n hx hb dL_law_121 rfl (lv_at hl 0 rfl) ?_
  refine lv_iload hx hb dL_law_122 (lv_at hl 4 rfl) ?_
  refine lv_iconst (v := (3:Int32)) hx hb dL_law_124 (by decide) ?_
  refine lv_iadd hx hb dL_law_125 ?_
  refine ar_sldv (v := lo) hx hb hX hbl hbA hS (a + 3) (nI_add a 3) hv3 (by omega) (by omega) dL_law_126 ?_
  refine lv_aload_n hx hb dL_law_127 rfl (lv_at hl 3 rfl) ?_
  refine lc_b (As := [.ref ba, .int (nI i), .int hh, .int lo, .ref qo]) (rest := []) (w0' := [((U i 0), .inr (2, [.ref (G.2.2.1 i), .ref (U i 1), .ref (U i 5), .ref (U i 22), .ref (U i 23), .int (v_tr (V i)), .long (v_dr (V i)), .long (v_wt (V i)), .int (nI (v_rd (V i))), .long (v_gr (V i)), .long (v_le (V i))]))]) (w1' := [((U i 0), .inr (2, [.ref (G.2.2.1 i), .ref (U i 1), .ref (U i 5), .ref (U i 22), .ref (U i 23), .int (v_tr (V i)), .long (v_dr (V i)), .long (v_wt (V i)), .int (nI (v_rd (V i))), .long (v_gr (V i)), .long (v_le (V i))]))]) (v' := ((v_tr (V i)), (v_dr (V i)), (v_wt (V i)), (v_rd (V i)), (v_gr (V i)), (v_le (V i)), (v_n (V i)), (v_ki (V i)), (v_kn (V i)), (v_on (V i)), (v_ou (V i)), (v_li (V i)), (v_pn (V i)), (v_pki (V i)), (v_pkn (V i)), (v_pon (V i)))) (ox' := ox) ⟨hx, hb, hml, hown, hts⟩ (kL_putX1 l hl9 G ba bw (pf4 (U 0 0) (U 1 0) (U 2 0) (U 3 0)) (U i 0) i (U i 1) (U i 5) (U i 22) (U i 23) (v_tr (V i)) (v_dr (V i)) (v_wt (V i)) (v_rd (V i)) (v_gr (V i)) (v_le (V i)) hh lo qo ox L_hi4 L_hwf L_hill) (vx_cwSW 5 hts gL_law_L_put rfl rfl rfl (by decide +kernel) ⟨Nat.le_of_ble_eq_true rfl, Nat.le_of_ble_eq_true rfl⟩) hE hK hP hD hS hA hl.1 hi4 [0] (nd4 hi4 (by decide)) (by decide) rfl rfl rfl rfl rfl rfl (Nat.le_of_ble_eq_true rfl) dL_law_128 ⟨hc, hsl⟩ (fun H locs hP hD hS => ?_)
  have hP : va_P G.1 vwCl (lawW G ba bw U (setV V i ((v_tr (V i)), (v_dr (V i)), (v_wt (V i)), (v_rd (V i)), (v_gr (V i)), (v_le (V i)), (v_n (V i)), (v_ki (V i)), (v_kn (V i)), (v_on (V i)), (v_ou (V i)), (v_li (V i)), (v_pn (V i)), (v_pki (V i)), (v_pkn (V i)), (v_pon (V i)))) ma d M qo ox) H := hP
  have hD : va_D A (lawW G ba bw U (setV V i ((v_tr (V i)), (v_dr (V i)), (v_wt (V i)), (v_rd (V i)), (v_gr (V i)), (v_le (V i)), (v_n (V i)), (v_ki (V i)), (v_kn (V i)), (v_on (V i)), (v_ou (V i)), (v_li (V i)), (v_pn (V i)), (v_pki (V i)), (v_pkn (V i)), (v_pon (V i)))) ma d M qo ox) := hD
  refine lv_istore (lv' := [(5, .int (1:Int32)), (0, .ref b), (1, .ref ba), (2, .ref ma), (3, .ref qo), (4, .int (nI a))]) hx hb dL_law_131 hl (by decide) rfl (fun ls hl => ?_)
  refine lv_aload_n hx hb dL_law_133 rfl (lv_at hl 3 rfl) ?_
  refine lv_aload_n hx hb dL_law_134 rfl (lv_at hl 1 rfl) ?_
  refine lv_iload hx hb dL_law_135 (lv_at hl 5 rfl) ?_
  refine lv_iconst (v := (1:Int32)) hx hb dL_law_137 (by decide) ?_
  refine lv_iadd hx hb dL_law_138 ?_
  refine ar_sldv (v := (nI i)) hx hb hX hbl hbA hS (a + 1) (nI_add a 1) hv1 (by omega) (by omega) dL_law_139 ?_
  refine lv_aload_n hx hb dL_law_140 rfl (lv_at hl 1 rfl) ?_
  refine lv_iload hx hb dL_law_141 (lv_at hl 5 rfl) ?_
  refine lv_iconst (v := (2:Int32)) hx hb dL_law_143 (by decide) ?_
  refine lv_iadd hx hb dL_law_144 ?_
  refine ar_sldv (v := hh) hx hb hX hbl hbA hS (a + 2) (nI_add a 2) hv2 (by omega) (by omega) dL_law_145 ?_
  refine lv_aload_n hx hb dL_law_146 rfl (lv_at hl 1 rfl) ?_
  refine lv_iload hx hb dL_law_147 (lv_at hl 5 rfl) ?_
  refine lv_iconst (v := (3:Int32)) hx hb dL_law_149 (by decide) ?_
  refine lv_iadd hx hb dL_law_150 ?_
  refine ar_sldv (v := lo) hx hb hX hbl hbA hS (a + 3) (nI_add a 3) hv3 (by omega) (by omega) dL_law_151 ?_
  refine lc_mi (As := [.int (nI i), .int hh, .int lo]) (rest := []) (w0' := [(ma, .inr (4, [.ref (d 0), .ref (d 1), .ref (d 2), .ref (d 3), .ref (d 4), .ref (d 5), .ref (d 6), .ref (d 7), .ref (d 8), .ref (d 9), .ref (d 10), .ref (d 11), .ref (d 12), .ref (d 13), .ref (d 14), .ref (d 15), .ref (d 16), .int (m_cd M)]))]) (w1' := [(ma, .inr (4, [.ref (d 0), .ref (d 1), .ref (d 2), .ref (d 3), .ref (d 4), .ref (d 5), .ref (d 6), .ref (d 7), .ref (d 8), .ref (d 9), .ref (d 10), .ref (d 11), .ref (d 12), .ref (d 13), .ref (d 14), .ref (d 15), .ref (d 16), .int (1:Int32)]))]) (M' := ((m_f0 M), (m_f1 M), (m_f2 M), (m_f3 M), (m_f4 M), (m_f5 M), (m_f6 M), (m_f7 M), (m_f8 M), (m_f9 M), (m_f10 M), (m_f11 M), (m_f12 M), (m_f13 M), (m_f14 M), (m_f15 M), (m_f16 M), (1:Int32))) ⟨hx, hb, hml, hown, hts⟩ (kX4_putB1 l G ma (d 0) (d 1) (d 2) (d 3) (d 4) (d 5) (d 6) (d 7) (d 8) (d 9) (d 10) (d 11) (d 12) (d 13) (d 14) (d 15) (d 16) (m_cd M) i hh lo M_hi4 M_hill) (cwV 3 hts gL_law_X4_put rfl rfl rfl (by decide +kernel) ⟨Nat.le_of_ble_eq_true rfl, Nat.le_of_ble_eq_true rfl⟩) hE hK hP hD hS hA hl.1 [0] (by decide) (by decide) rfl rfl rfl rfl rfl (Nat.le_of_ble_eq_true rfl) dL_law_152 ⟨by omega, by omega⟩ (fun H locs hP hD hS => ?_)
  have hP : va_P G.1 vwCl (lawW G ba bw U (setV V i ((v_tr (V i)), (v_dr (V i)), (v_wt (V i)), (v_rd (V i)), (v_gr (V i)), (v_le (V i)), (v_n (V i)), (v_ki (V i)), (v_kn (V i)), (v_on (V i)), (v_ou (V i)), (v_li (V i)), (v_pn (V i)), (v_pki (V i)), (v_pkn (V i)), (v_pon (V i)))) ma d ((m_f0 M), (m_f1 M), (m_f2 M), (m_f3 M), (m_f4 M), (m_f5 M), (m_f6 M), (m_f7 M), (m_f8 M), (m_f9 M), (m_f10 M), (m_f11 M), (m_f12 M), (m_f13 M), (m_f14 M), (m_f15 M), (m_f16 M), (1:Int32)) qo ox) H := hP
  have hD : va_D A (lawW G ba bw U (setV V i ((v_tr (V i)), (v_dr (V i)), (v_wt (V i)), (v_rd (V i)), (v_gr (V i)), (v_le (V i)), (v_n (V i)), (v_ki (V i)), (v_kn (V i)), (v_on (V i)), (v_ou (V i)), (v_li (V i)), (v_pn (V i)), (v_pki (V i)), (v_pkn (V i)), (v_pon (V i)))) ma d ((m_f0 M), (m_f1 M), (m_f2 M), (m_f3 M), (m_f4 M), (m_f5 M), (m_f6 M), (m_f7 M), (m_f8 M), (m_f9 M), (m_f10 M), (m_f11 M), (m_f12 M), (m_f13 M), (m_f14 M), (m_f15 M), (m_f16 M), (1:Int32)) qo ox) := hD
  refine lv_istore (lv' := [(6, .int (0:Int32)), (5, .int (1:Int32)), (0, .ref b), (1, .ref ba), (2, .ref ma), (3, .ref qo), (4, .int (nI a))]) hx hb dL_law_155 hl (by decide) rfl (fun ls hl => ?_)
  refine lv_aload_n hx hb dL_law_157 rfl (lv_at hl 4 rfl) ?_
  refine lc_mi (As := []) (rest := []) (w0' := [(ma, .inr (4, [.ref (d 0), .ref (d 1), .ref (d 2), .ref (d 3), .ref (d 4), .ref (d 5), .ref (d 6), .ref (d 7), .ref (d 8), .ref (d 9), .ref (d 10), .ref (d 11), .ref (d 12), .ref (d 13), .ref (d 14), .ref (d 15), .ref (d 16), .int (m_cd ((m_f0 M), (m_f1 M), (m_f2 M), (m_f3 M), (m_f4 M), (m_f5 M), (m_f6 M), (m_f7 M), (m_f8 M), (m_f9 M), (m_f10 M), (m_f11 M), (m_f12 M), (m_f13 M), (m_f14 M), (m_f15 M), (m_f16 M), (1:Int32)))]))]) (w1' := [(ma, .inr (4, [.ref (d 0), .ref (d 1), .ref (d 2), .ref (d 3), .ref (d 4), .ref (d 5), .ref (d 6), .ref (d 7), .ref (d 8), .ref (d 9), .ref (d 10), .ref (d 11), .ref (d 12), .ref (d 13), .ref (d 14), .ref (d 15), .ref (d 16), .int (m_cd ((m_f0 M), (m_f1 M), (m_f2 M), (m_f3 M), (m_f4 M), (m_f5 M), (m_f6 M), (m_f7 M), (m_f8 M), (m_f9 M), (m_f10 M), (m_f11 M), (m_f12 M), (m_f13 M), (m_f14 M), (m_f15 M), (m_f16 M), (1:Int32)))]))]) (M' := ((m_f0 M), (m_f1 M), (m_f2 M), (m_f3 M), (m_f4 M), (m_f5 M), (m_f6 M), (m_f7 M), (m_f8 M), (m_f9 M), (m_f10 M), (m_f11 M), (m_f12 M), (m_f13 M), (m_f14 M), (m_f15 M), (m_f16 M), (1:Int32))) ⟨hx, hb, hml, hown, hts⟩ (kX4_thrown l G ma (d 0) (d 1) (d 2) (d 3) (d 4) (d 5) (d 6) (d 7) (d 8) (d 9) (d 10) (d 11) (d 12) (d 13) (d 14) (d 15) (d 16) (m_cd ((m_f0 M), (m_f1 M), (m_f2 M), (m_f3 M), (m_f4 M), (m_f5 M), (m_f6 M), (m_f7 M), (m_f8 M), (m_f9 M), (m_f10 M), (m_f11 M), (m_f12 M), (m_f13 M), (m_f14 M), (m_f15 M), (m_f16 M), (1:Int32)))) (cwV 0 hts gL_law_X4_thrown rfl rfl rfl (by decide +kernel) ⟨Nat.le_of_ble_eq_true rfl, Nat.le_of_ble_eq_true rfl⟩) hE hK hP hD hS hA hl.1 [0] (by decide) (by decide) rfl rfl rfl rfl rfl (Nat.le_of_ble_eq_true rfl) dL_law_158 ⟨by omega, by omega⟩ (fun H locs hP hD hS => ?_)
  have hP : va_P G.1 vwCl (lawW G ba bw U (setV V i ((v_tr (V i)), (v_dr (V i)), (v_wt (V i)), (v_rd (V i)), (v_gr (V i)), (v_le (V i)), (v_n (V i)), (v_ki (V i)), (v_kn (V i)), (v_on (V i)), (v_ou (V i)), (v_li (V i)), (v_pn (V i)), (v_pki (V i)), (v_pkn (V i)), (v_pon (V i)))) ma d ((m_f0 M), (m_f1 M), (m_f2 M), (m_f3 M), (m_f4 M), (m_f5 M), (m_f6 M), (m_f7 M), (m_f8 M), (m_f9 M), (m_f10 M), (m_f11 M), (m_f12 M), (m_f13 M), (m_f14 M), (m_f15 M), (m_f16 M), (1:Int32)) qo ox) H := hP
  have hD : va_D A (lawW G ba bw U (setV V i ((v_tr (V i)), (v_dr (V i)), (v_wt (V i)), (v_rd (V i)), (v_gr (V i)), (v_le (V i)), (v_n (V i)), (v_ki (V i)), (v_kn (V i)), (v_on (V i)), (v_ou (V i)), (v_li (V i)), (v_pn (V i)), (v_pki (V i)), (v_pkn (V i)), (v_pon (V i)))) ma d ((m_f0 M), (m_f1 M), (m_f2 M), (m_f3 M), (m_f4 M), (m_f5 M), (m_f6 M), (m_f7 M), (m_f8 M), (m_f9 M), (m_f10 M), (m_f11 M), (m_f12 M), (m_f13 M), (m_f14 M), (m_f15 M), (m_f16 M), (1:Int32)) qo ox) := hD
  refine lv_iload hx hb dL_law_161 (lv_at hl 1 rfl) ?_
  refine bi_eq (tgt := 168) hx hb dL_law_163 (by decide) (fun _ => ?_) (fun h9 => absurd rfl h9)
  refine lv_iload hx hb dL_law_168 (lv_at hl 1 rfl) ?_
  refine bz_ne (tgt := 192) hx hb dL_law_170 (by decide) (fun h9 => absurd h9 (by decide)) (fun _ => ?_)
  refine lv_goto (tgt := 1083) hx hb dL_law_192 (by decide) ?_
  exact kk H locs ls hP hD hS (lv_sub hl [2, 3, 4, 5, 6] rfl)
set_option maxHeartbeats 8000000 in
set_option maxRecDepth 100000 in
theorem cz_pedal {p : Program} {e : Env} {s : State} {m : MethodId} {below : List Frame} {meth : Method} {c : Code} {l : Launch} (hl9 : l.stackTraces = false) {b L : Nat} {xs : Nat → Int32} (hL : L ≤ 2560) (C0 : lw_At p s m meth c b L xs) {G : GT} {A : Nat → Prop} (hA : ∀ q : Nat, s.heap.size ≤ q → A q) (hbA : ¬ A b) (hE : Ev G A s s.heap) (hK : va_K G.1 vwCl (gT G) s) {a : Nat} (ha : a + 5 ≤ L) {ba bw ma qo : Nat} {U : Nat → Nat → Nat} {V : Nat → WV} {d : Nat → Nat} {M : MV} {ox : Nat → Int64} {cells slots : Nat} (hc : cells + 1 ≤ room_1.cells) (hsl : slots + 6 ≤ room_1.slots) {H : Heap} {locs : List Loc} {ls : Array Slot} (hP : va_P G.1 vwCl (lawW G ba bw U V ma d M qo ox) H) (hD : va_D A (lawW G ba bw U V ma d M qo ox)) (hS : va_S A s.heap H locs) (hl : lv_has ls 8 [(0, .ref b), (1, .ref ba), (2, .ref ma), (3, .ref qo), (4, .int (nI a))]) (i : Nat) (kd : Int32) (hh : Int32) (lo : Int32) (hv1 : xs (a + 1) = (nI i)) (hv2 : xs (a + 2) = kd) (hv3 : xs (a + 3) = hh) (hv4 : xs (a + 4) = lo) (hi4 : i < 4) (L_hwf : (pf4 (U 0 0) (U 1 0) (U 2 0) (U 3 0)) i = some (U i 0)) (L_hkd : ¬ fX1_hasKind i kd = 0) (L_hill : fX1_isIll i (fX1_codeOf i hh lo) = 0) (L_hn : (v_n (V i)) < 12) (M_hm : (m_f5 M) i = nI (v_n (V i))) (M_hn : (v_n (V i)) < 12) (M_hkd : ¬ fX4_isKind (nI i) kd = 0) (M_hill : fX4_isIll (nI i) (fX4_coded (nI i) hh lo) = 0) (hans : ((vp_updL ox 0 ((nI (v_n (V i))).toInt64)) 0) = (nI (v_n (V i))).toInt64)
    (kk : ∀ (H : Heap) (locs : List Loc) (ls : Array Slot), va_P G.1 vwCl (lawW G ba bw U (setV V i ((0:Int32), (v_dr (V i)), (v_wt (V i)), (v_rd (V i)), (v_gr (V i)), (v_le (V i)), ((v_n (V i)) + 1), (upd (v_ki (V i)) (v_n (V i)) kd), (vp_updL (v_kn (V i)) (v_n (V i)) (fX1_codeOf i hh lo)), (upd (v_on (V i)) (v_n (V i)) (1:Int32)), (v_ou (V i)), (v_li (V i)), (v_pn (V i)), (v_pki (V i)), (v_pkn (V i)), (v_pon (V i)))) ma d ((m_f0 M), (m_f1 M), (m_f2 M), (m_f3 M), (m_f4 M), (upd (m_f5 M) i (nI ((v_n (V i)) + 1))), (upd (m_f6 M) i (0:Int32)), (m_f7 M), (upd (m_f8 M) ((12 * i) + (v_n (V i))) kd), (vp_updL (m_f9 M) ((12 * i) + (v_n (V i))) (fX4_coded (nI i) hh lo)), (m_f10 M), (upd (m_f11 M) ((12 * i) + (v_n (V i))) (1:Int32)), (m_f12 M), (m_f13 M), (m_f14 M), (m_f15 M), (m_f16 M), (0:Int32)) qo (vp_updL ox 0 ((nI (v_n (V i))).toInt64))) H → va_D A (lawW G ba bw U (setV V i ((0:Int32), (v_dr (V i)), (v_wt (V i)), (v_rd (V i)), (v_gr (V i)), (v_le (V i)), ((v_n (V i)) + 1), (upd (v_ki (V i)) (v_n (V i)) kd), (vp_updL (v_kn (V i)) (v_n (V i)) (fX1_codeOf i hh lo)), (upd (v_on (V i)) (v_n (V i)) (1:Int32)), (v_ou (V i)), (v_li (V i)), (v_pn (V i)), (v_pki (V i)), (v_pkn (V i)), (v_pon (V i)))) ma d ((m_f0 M), (m_f1 M), (m_f2 M), (m_f3 M), (m_f4 M), (upd (m_f5 M) i (nI ((v_n (V i)) + 1))), (upd (m_f6 M) i (0:Int32)), (m_f7 M), (upd (m_f8 M) ((12 * i) + (v_n (V i))) kd), (vp_updL (m_f9 M) ((12 * i) + (v_n (V i))) (fX4_coded (nI i) hh lo)), (m_f10 M), (upd (m_f11 M) ((12 * i) + (v_n (V i))) (1:Int32)), (m_f12 M), (m_f13 M), (m_f14 M), (m_f15 M), (m_f16 M), (0:Int32)) qo (vp_updL ox 0 ((nI (v_n (V i))).toInt64))) → va_S A s.heap H locs → lv_has ls 8 [(0, .ref b), (1, .ref ba), (2, .ref ma), (3, .ref qo), (4, .int (nI a))] → W p l e room_1 s m #[Value.ref b] below meth c H locs (cells + 1) (slots + 6) (lw_Z below #[Value.ref b] s) (F0 m 1083 ls [])) : W p l e room_1 s m #[Value.ref b] below meth c H locs cells slots (lw_Z below #[Value.ref b] s) (F0 m 195 ls []) := by
  obtain ⟨hx, hb, hr, hml, hown, hts, hX, hbl, hlocks, hgv⟩ := id C0
  have hts := fun w h => hts w (wsL_law_in w h)
  have hcR : room_1.cells = 601024 := rfl
  have hsR : room_1.slots = 7293034 := rfl
  have L_hi4 := hi4
  have M_hi4 := hi4
  refine lv_aload_n hx hb dL_law_195 rfl (lv_at hl 1 rfl) ?_
  refine lv_aload_n hx hb dL_law_196 rfl (lv_at hl 0 rfl) ?_
  refine lv_iload hx hb dL_law_197 (lv_at hl 4 rfl) ?_
  refine lv_iconst (v := (1:Int32)) hx hb dL_law_199 (by decide) ?_
  refine lv_iadd hx hb dL_law_200 ?_
  refine ar_sldv (v := (nI i)) hx hb hX hbl hbA hS (a + 1) (nI_add a 1) hv1 (by omega) (by omega) dL_law_201 ?_
  refine lv_aload_n hx hb dL_law_202 rfl (lv_at hl 0 rfl) ?_
  refine lv_iload hx hb dL_law_203 (lv_at hl 4 rfl) ?_
  refine lv_iconst (v := (2:Int32)) hx hb dL_law_205 (by decide) ?_
  refine lv_iadd hx hb dL_law_206 ?_
  refine ar_sldv (v := kd) hx hb hX hbl hbA hS (a + 2) (nI_add a 2) hv2 (by omega) (by omega) dL_law_207 ?_
  refine lv_aload_n hx hb dL_law_208 rfl (lv_at hl 0 rfl) ?_
  refine lv_iload hx hb dL_law_209 (lv_at hl 4 rfl) ?_
  refine lv_iconst (v := (3:Int32)) hx hb dL_law_211 (by decide) ?_
  refine lv_iadd hx hb dL_law_212 ?_
  refine ar_sldv (v := hh) hx hb hX hbl hbA hS (a + 3) (nI_add a 3) hv3 (by omega) (by omega) dL_law_213 ?_
  refine lv_aload_n hx hb dL_law_214 rfl (lv_at hl 0 rfl) ?_
  refine lv_iload hx hb dL_law_215 (lv_at hl 4 rfl) ?_
  refine lv_iconst (v := (4:Int32)) hx hb dL_law_217 (by decide) ?_
  refine lv_iadd hx hb dL_law_218 ?_
  refine ar_sldv (v := lo) hx hb hX hbl hbA hS (a + 4) (nI_add a 4) hv4 (by omega) (by omega) dL_law_219 ?_
  refine lv_aload_n hx hb dL_law_220 rfl (lv_at hl 3 rfl) ?_
  refine lc_b (As := [.ref ba, .int (nI i), .int kd, .int hh, .int lo, .ref qo]) (rest := []) (w0' := [((U i 0), .inr (2, [.ref (G.2.2.1 i), .ref (U i 1), .ref (U i 5), .ref (U i 22), .ref (U i 23), .int (v_tr (V i)), .long (v_dr (V i)), .long (v_wt (V i)), .int (nI (v_rd (V i))), .long (v_gr (V i)), .long (v_le (V i))])), ((U i 1), .inr (0, [.ref (U i 2), .ref (U i 3), .ref (U i 4), .int (nI (v_n (V i)))])), ((U i 2), .inl (G.2.1 0, 12, .inl (v_ki (V i)))), ((U i 3), .inl (G.2.1 1, 12, .inr (.inl (v_kn (V i))))), ((U i 4), .inl (G.2.1 2, 12, .inl (v_on (V i))))]) (w1' := [((U i 0), .inr (2, [.ref (G.2.2.1 i), .ref (U i 1), .ref (U i 5), .ref (U i 22), .ref (U i 23), .int (0:Int32), .long (v_dr (V i)), .long (v_wt (V i)), .int (nI (v_rd (V i))), .long (v_gr (V i)), .long (v_le (V i))])), ((U i 1), .inr (0, [.ref (U i 2), .ref (U i 3), .ref (U i 4), .int (nI ((v_n (V i)) + 1))])), ((U i 2), .inl (G.2.1 0, 12, .inl (upd (v_ki (V i)) (v_n (V i)) kd))), ((U i 3), .inl (G.2.1 1, 12, .inr (.inl (vp_updL (v_kn (V i)) (v_n (V i)) (fX1_codeOf i hh lo))))), ((U i 4), .inl (G.2.1 2, 12, .inl (upd (v_on (V i)) (v_n (V i)) (1:Int32))))]) (v' := ((0:Int32), (v_dr (V i)), (v_wt (V i)), (v_rd (V i)), (v_gr (V i)), (v_le (V i)), ((v_n (V i)) + 1), (upd (v_ki (V i)) (v_n (V i)) kd), (vp_updL (v_kn (V i)) (v_n (V i)) (fX1_codeOf i hh lo)), (upd (v_on (V i)) (v_n (V i)) (1:Int32)), (v_ou (V i)), (v_li (V i)), (v_pn (V i)), (v_pki (V i)), (v_pkn (V i)), (v_pon (V i)))) (ox' := (vp_updL ox 0 ((nI (v_n (V i))).toInt64))) ⟨hx, hb, hml, hown, hts⟩ (kL_pedal l hl9 G ba bw (pf4 (U 0 0) (U 1 0) (U 2 0) (U 3 0)) (U i 0) i (U i 1) (U i 5) (U i 22) (U i 23) (v_tr (V i)) (v_dr (V i)) (v_wt (V i)) (v_rd (V i)) (v_gr (V i)) (v_le (V i)) (U i 2) (U i 3) (U i 4) (v_n (V i)) (v_ki (V i)) (v_kn (V i)) (v_on (V i)) kd hh lo qo ox L_hi4 L_hwf L_hkd L_hill L_hn) (vx_cwSW 6 hts gL_law_L_pedal rfl rfl rfl (by decide +kernel) ⟨Nat.le_of_ble_eq_true rfl, Nat.le_of_ble_eq_true rfl⟩) hE hK hP hD hS hA hl.1 hi4 [0, 1, 2, 3, 4] (nd4 hi4 (by decide)) (by decide) rfl rfl rfl rfl rfl rfl (Nat.le_of_ble_eq_true rfl) dL_law_221 ⟨hc, hsl⟩ (fun H locs hP hD hS => ?_)
  have hP : va_P G.1 vwCl (lawW G ba bw U (setV V i ((0:Int32), (v_dr (V i)), (v_wt (V i)), (v_rd (V i)), (v_gr (V i)), (v_le (V i)), ((v_n (V i)) + 1), (upd (v_ki (V i)) (v_n (V i)) kd), (vp_updL (v_kn (V i)) (v_n (V i)) (fX1_codeOf i hh lo)), (upd (v_on (V i)) (v_n (V i)) (1:Int32)), (v_ou (V i)), (v_li (V i)), (v_pn (V i)), (v_pki (V i)), (v_pkn (V i)), (v_pon (V i)))) ma d M qo (vp_updL ox 0 ((nI (v_n (V i))).toInt64))) H := hP
  have hD : va_D A (lawW G ba bw U (setV V i ((0:Int32), (v_dr (V i)), (v_wt (V i)), (v_rd (V i)), (v_gr (V i)), (v_le (V i)), ((v_n (V i)) + 1), (upd (v_ki (V i)) (v_n (V i)) kd), (vp_updL (v_kn (V i)) (v_n (V i)) (fX1_codeOf i hh lo)), (upd (v_on (V i)) (v_n (V i)) (1:Int32)), (v_ou (V i)), (v_li (V i)), (v_pn (V i)), (v_pki (V i)), (v_pkn (V i)), (v_pon (V i)))) ma d M qo (vp_updL ox 0 ((nI (v_n (V i))).toInt64))) := hD
  refine lv_istore (lv' := [(5, .int (0:Int32)), (0, .ref b), (1, .ref ba), (2, .ref ma), (3, .ref qo), (4, .int (nI a))]) hx hb dL_law_224 hl (by decide) rfl (fun ls hl => ?_)
  refine lv_aload_n hx hb dL_law_226 rfl (lv_at hl 3 rfl) ?_
  refine lv_aload_n hx hb dL_law_227 rfl (lv_at hl 1 rfl) ?_
  refine lv_iload hx hb dL_law_228 (lv_at hl 5 rfl) ?_
  refine lv_iconst (v := (1:Int32)) hx hb dL_law_230 (by decide) ?_
  refine lv_iadd hx hb dL_law_231 ?_
  refine ar_sldv (v := (nI i)) hx hb hX hbl hbA hS (a + 1) (nI_add a 1) hv1 (by omega) (by omega) dL_law_232 ?_
  refine lv_aload_n hx hb dL_law_233 rfl (lv_at hl 1 rfl) ?_
  refine lv_iload hx hb dL_law_234 (lv_at hl 5 rfl) ?_
  refine lv_iconst (v := (2:Int32)) hx hb dL_law_236 (by decide) ?_
  refine lv_iadd hx hb dL_law_237 ?_
  refine ar_sldv (v := kd) hx hb hX hbl hbA hS (a + 2) (nI_add a 2) hv2 (by omega) (by omega) dL_law_238 ?_
  refine lv_aload_n hx hb dL_law_239 rfl (lv_at hl 1 rfl) ?_
  refine lv_iload hx hb dL_law_240 (lv_at hl 5 rfl) ?_
  refine lv_iconst (v := (3:Int32)) hx hb dL_law_242 (by decide) ?_
  refine lv_iadd hx hb dL_law_243 ?_
  refine ar_sldv (v := hh) hx hb hX hbl hbA hS (a + 3) (nI_add a 3) hv3 (by omega) (by omega) dL_law_244 ?_
  refine lv_aload_n hx hb dL_law_245 rfl (lv_at hl 1 rfl) ?_
  refine lv_iload hx hb dL_law_246 (lv_at hl 5 rfl) ?_
  refine lv_iconst (v := (4:Int32)) hx hb dL_law_248 (by decide) ?_
  refine lv_iadd hx hb dL_law_249 ?_
  refine ar_sldv (v := lo) hx hb hX hbl hbA hS (a + 4) (nI_add a 4) hv4 (by omega) (by omega) dL_law_250 ?_
  refine lc_mi (As := [.int (nI i), .int kd, .int hh, .int lo]) (rest := []) (w0' := [(ma, .inr (4, [.ref (d 0), .ref (d 1), .ref (d 2), .ref (d 3), .ref (d 4), .ref (d 5), .ref (d 6), .ref (d 7), .ref (d 8), .ref (d 9), .ref (d 10), .ref (d 11), .ref (d 12), .ref (d 13), .ref (d 14), .ref (d 15), .ref (d 16), .int (m_cd M)])), ((d 5), .inl (G.2.1 0, 4, .inl (m_f5 M))), ((d 6), .inl (G.2.1 2, 4, .inl (m_f6 M))), ((d 8), .inl (G.2.1 0, 48, .inl (m_f8 M))), ((d 9), .inl (G.2.1 1, 48, .inr (.inl (m_f9 M)))), ((d 11), .inl (G.2.1 2, 48, .inl (m_f11 M)))]) (w1' := [(ma, .inr (4, [.ref (d 0), .ref (d 1), .ref (d 2), .ref (d 3), .ref (d 4), .ref (d 5), .ref (d 6), .ref (d 7), .ref (d 8), .ref (d 9), .ref (d 10), .ref (d 11), .ref (d 12), .ref (d 13), .ref (d 14), .ref (d 15), .ref (d 16), .int (0:Int32)])), ((d 5), .inl (G.2.1 0, 4, .inl (upd (m_f5 M) i (nI ((v_n (V i)) + 1))))), ((d 6), .inl (G.2.1 2, 4, .inl (upd (m_f6 M) i (0:Int32)))), ((d 8), .inl (G.2.1 0, 48, .inl (upd (m_f8 M) ((12 * i) + (v_n (V i))) kd))), ((d 9), .inl (G.2.1 1, 48, .inr (.inl (vp_updL (m_f9 M) ((12 * i) + (v_n (V i))) (fX4_coded (nI i) hh lo))))), ((d 11), .inl (G.2.1 2, 48, .inl (upd (m_f11 M) ((12 * i) + (v_n (V i))) (1:Int32))))]) (M' := ((m_f0 M), (m_f1 M), (m_f2 M), (m_f3 M), (m_f4 M), (upd (m_f5 M) i (nI ((v_n (V i)) + 1))), (upd (m_f6 M) i (0:Int32)), (m_f7 M), (upd (m_f8 M) ((12 * i) + (v_n (V i))) kd), (vp_updL (m_f9 M) ((12 * i) + (v_n (V i))) (fX4_coded (nI i) hh lo)), (m_f10 M), (upd (m_f11 M) ((12 * i) + (v_n (V i))) (1:Int32)), (m_f12 M), (m_f13 M), (m_f14 M), (m_f15 M), (m_f16 M), (0:Int32))) ⟨hx, hb, hml, hown, hts⟩ (kX4_pedal l G ma (d 0) (d 1) (d 2) (d 3) (d 4) (d 5) (d 6) (d 7) (d 8) (d 9) (d 10) (d 11) (d 12) (d 13) (d 14) (d 15) (d 16) (m_cd M) (m_f5 M) (m_f6 M) (m_f8 M) (m_f9 M) (m_f11 M) i (v_n (V i)) kd hh lo M_hi4 M_hm M_hn M_hkd M_hill) (cwV 4 hts gL_law_X4_pedal rfl rfl rfl (by decide +kernel) ⟨Nat.le_of_ble_eq_true rfl, Nat.le_of_ble_eq_true rfl⟩) hE hK hP hD hS hA hl.1 [0, 6, 7, 9, 10, 12] (by decide) (by decide) rfl rfl rfl rfl rfl (Nat.le_of_ble_eq_true rfl) dL_law_251 ⟨by omega, by omega⟩ (fun H locs hP hD hS => ?_)
  have hP : va_P G.1 vwCl (lawW G ba bw U (setV V i ((0:Int32), (v_dr (V i)), (v_wt (V i)), (v_rd (V i)), (v_gr (V i)), (v_le (V i)), ((v_n (V i)) + 1), (upd (v_ki (V i)) (v_n (V i)) kd), (vp_updL (v_kn (V i)) (v_n (V i)) (fX1_codeOf i hh lo)), (upd (v_on (V i)) (v_n (V i)) (1:Int32)), (v_ou (V i)), (v_li (V i)), (v_pn (V i)), (v_pki (V i)), (v_pkn (V i)), (v_pon (V i)))) ma d ((m_f0 M), (m_f1 M), (m_f2 M), (m_f3 M), (m_f4 M), (upd (m_f5 M) i (nI ((v_n (V i)) + 1))), (upd (m_f6 M) i (0:Int32)), (m_f7 M), (upd (m_f8 M) ((12 * i) + (v_n (V i))) kd), (vp_updL (m_f9 M) ((12 * i) + (v_n (V i))) (fX4_coded (nI i) hh lo)), (m_f10 M), (upd (m_f11 M) ((12 * i) + (v_n (V i))) (1:Int32)), (m_f12 M), (m_f13 M), (m_f14 M), (m_f15 M), (m_f16 M), (0:Int32)) qo (vp_updL ox 0 ((nI (v_n (V i))).toInt64))) H := hP
  have hD : va_D A (lawW G ba bw U (setV V i ((0:Int32), (v_dr (V i)), (v_wt (V i)), (v_rd (V i)), (v_gr (V i)), (v_le (V i)), ((v_n (V i)) + 1), (upd (v_ki (V i)) (v_n (V i)) kd), (vp_updL (v_kn (V i)) (v_n (V i)) (fX1_codeOf i hh lo)), (upd (v_on (V i)) (v_n (V i)) (1:Int32)), (v_ou (V i)), (v_li (V i)), (v_pn (V i)), (v_pki (V i)), (v_pkn (V i)), (v_pon (V i)))) ma d ((m_f0 M), (m_f1 M), (m_f2 M), (m_f3 M), (m_f4 M), (upd (m_f5 M) i (nI ((v_n (V i)) + 1))), (upd (m_f6 M) i (0:Int32)), (m_f7 M), (upd (m_f8 M) ((12 * i) + (v_n (V i))) kd), (vp_updL (m_f9 M) ((12 * i) + (v_n (V i))) (fX4_coded (nI i) hh lo)), (m_f10 M), (upd (m_f11 M) ((12 * i) + (v_n (V i))) (1:Int32)), (m_f12 M), (m_f13 M), (m_f14 M), (m_f15 M), (m_f16 M), (0:Int32)) qo (vp_updL ox 0 ((nI (v_n (V i))).toInt64))) := hD
  refine lv_istore (lv' := [(6, .int (nI (v_n (V i)))), (5, .int (0:Int32)), (0, .ref b), (1, .ref ba), (2, .ref ma), (3, .ref qo), (4, .int (nI a))]) hx hb dL_law_254 hl (by decide) rfl (fun ls hl => ?_)
  refine lv_aload_n hx hb dL_law_256 rfl (lv_at hl 4 rfl) ?_
  refine lc_mi (As := []) (rest := []) (w0' := [(ma, .inr (4, [.ref (d 0), .ref (d 1), .ref (d 2), .ref (d 3), .ref (d 4), .ref (d 5), .ref (d 6), .ref (d 7), .ref (d 8), .ref (d 9), .ref (d 10), .ref (d 11), .ref (d 12), .ref (d 13), .ref (d 14), .ref (d 15), .ref (d 16), .int (m_cd ((m_f0 M), (m_f1 M), (m_f2 M), (m_f3 M), (m_f4 M), (upd (m_f5 M) i (nI ((v_n (V i)) + 1))), (upd (m_f6 M) i (0:Int32)), (m_f7 M), (upd (m_f8 M) ((12 * i) + (v_n (V i))) kd), (vp_updL (m_f9 M) ((12 * i) + (v_n (V i))) (fX4_coded (nI i) hh lo)), (m_f10 M), (upd (m_f11 M) ((12 * i) + (v_n (V i))) (1:Int32)), (m_f12 M), (m_f13 M), (m_f14 M), (m_f15 M), (m_f16 M), (0:Int32)))]))]) (w1' := [(ma, .inr (4, [.ref (d 0), .ref (d 1), .ref (d 2), .ref (d 3), .ref (d 4), .ref (d 5), .ref (d 6), .ref (d 7), .ref (d 8), .ref (d 9), .ref (d 10), .ref (d 11), .ref (d 12), .ref (d 13), .ref (d 14), .ref (d 15), .ref (d 16), .int (m_cd ((m_f0 M), (m_f1 M), (m_f2 M), (m_f3 M), (m_f4 M), (upd (m_f5 M) i (nI ((v_n (V i)) + 1))), (upd (m_f6 M) i (0:Int32)), (m_f7 M), (upd (m_f8 M) ((12 * i) + (v_n (V i))) kd), (vp_updL (m_f9 M) ((12 * i) + (v_n (V i))) (fX4_coded (nI i) hh lo)), (m_f10 M), (upd (m_f11 M) ((12 * i) + (v_n (V i))) (1:Int32)), (m_f12 M), (m_f13 M), (m_f14 M), (m_f15 M), (m_f16 M), (0:Int32)))]))]) (M' := ((m_f0 M), (m_f1 M), (m_f2 M), (m_f3 M), (m_f4 M), (upd (m_f5 M) i (nI ((v_n (V i)) + 1))), (upd (m_f6 M) i (0:Int32)), (m_f7 M), (upd (m_f8 M) ((12 * i) + (v_n (V i))) kd), (vp_updL (m_f9 M) ((12 * i) + (v_n (V i))) (fX4_coded (nI i) hh lo)), (m_f10 M), (upd (m_f11 M) ((12 * i) + (v_n (V i))) (1:Int32)), (m_f12 M), (m_f13 M), (m_f14 M), (m_f15 M), (m_f16 M), (0:Int32))) ⟨hx, hb, hml, hown, hts⟩ (kX4_thrown l G ma (d 0) (d 1) (d 2) (d 3) (d 4) (d 5) (d 6) (d 7) (d 8) (d 9) (d 10) (d 11) (d 12) (d 13) (d 14) (d 15) (d 16) (m_cd ((m_f0 M), (m_f1 M), (m_f2 M), (m_f3 M), (m_f4 M), (upd (m_f5 M) i (nI ((v_n (V i)) + 1))), (upd (m_f6 M) i (0:Int32)), (m_f7 M), (upd (m_f8 M) ((12 * i) + (v_n (V i))) kd), (vp_updL (m_f9 M) ((12 * i) + (v_n (V i))) (fX4_coded (nI i) hh lo)), (m_f10 M), (upd (m_f11 M) ((12 * i) + (v_n (V i))) (1:Int32)), (m_f12 M), (m_f13 M), (m_f14 M), (m_f15 M), (m_f16 M), (0:Int32)))) (cwV 0 hts gL_law_X4_thrown rfl rfl rfl (by decide +kernel) ⟨Nat.le_of_ble_eq_true rfl, Nat.le_of_ble_eq_true rfl⟩) hE hK hP hD hS hA hl.1 [0] (by decide) (by decide) rfl rfl rfl rfl rfl (Nat.le_of_ble_eq_true rfl) dL_law_257 ⟨by omega, by omega⟩ (fun H locs hP hD hS => ?_)
  have hP : va_P G.1 vwCl (lawW G ba bw U (setV V i ((0:Int32), (v_dr (V i)), (v_wt (V i)), (v_rd (V i)), (v_gr (V i)), (v_le (V i)), ((v_n (V i)) + 1), (upd (v_ki (V i)) (v_n (V i)) kd), (vp_updL (v_kn (V i)) (v_n (V i)) (fX1_codeOf i hh lo)), (upd (v_on (V i)) (v_n (V i)) (1:Int32)), (v_ou (V i)), (v_li (V i)), (v_pn (V i)), (v_pki (V i)), (v_pkn (V i)), (v_pon (V i)))) ma d ((m_f0 M), (m_f1 M), (m_f2 M), (m_f3 M), (m_f4 M), (upd (m_f5 M) i (nI ((v_n (V i)) + 1))), (upd (m_f6 M) i (0:Int32)), (m_f7 M), (upd (m_f8 M) ((12 * i) + (v_n (V i))) kd), (vp_updL (m_f9 M) ((12 * i) + (v_n (V i))) (fX4_coded (nI i) hh lo)), (m_f10 M), (upd (m_f11 M) ((12 * i) + (v_n (V i))) (1:Int32)), (m_f12 M), (m_f13 M), (m_f14 M), (m_f15 M), (m_f16 M), (0:Int32)) qo (vp_updL ox 0 ((nI (v_n (V i))).toInt64))) H := hP
  have hD : va_D A (lawW G ba bw U (setV V i ((0:Int32), (v_dr (V i)), (v_wt (V i)), (v_rd (V i)), (v_gr (V i)), (v_le (V i)), ((v_n (V i)) + 1), (upd (v_ki (V i)) (v_n (V i)) kd), (vp_updL (v_kn (V i)) (v_n (V i)) (fX1_codeOf i hh lo)), (upd (v_on (V i)) (v_n (V i)) (1:Int32)), (v_ou (V i)), (v_li (V i)), (v_pn (V i)), (v_pki (V i)), (v_pkn (V i)), (v_pon (V i)))) ma d ((m_f0 M), (m_f1 M), (m_f2 M), (m_f3 M), (m_f4 M), (upd (m_f5 M) i (nI ((v_n (V i)) + 1))), (upd (m_f6 M) i (0:Int32)), (m_f7 M), (upd (m_f8 M) ((12 * i) + (v_n (V i))) kd), (vp_updL (m_f9 M) ((12 * i) + (v_n (V i))) (fX4_coded (nI i) hh lo)), (m_f10 M), (upd (m_f11 M) ((12 * i) + (v_n (V i))) (1:Int32)), (m_f12 M), (m_f13 M), (m_f14 M), (m_f15 M), (m_f16 M), (0:Int32)) qo (vp_updL ox 0 ((nI (v_n (V i))).toInt64))) := hD
  refine lv_iload hx hb dL_law_260 (lv_at hl 1 rfl) ?_
  refine bi_eq (tgt := 267) hx hb dL_law_262 (by decide) (fun _ => ?_) (fun h9 => absurd rfl h9)
  refine lv_iload hx hb dL_law_267 (lv_at hl 1 rfl) ?_
  refine bz_ne (tgt := 284) hx hb dL_law_269 (by decide) (fun _ => ?_) (fun h9 => absurd rfl h9)
  refine lv_aload_n hx hb dL_law_272 rfl (lv_at hl 5 rfl) ?_
  refine lv_iconst (v := (0:Int32)) hx hb dL_law_273 (by decide) ?_
  refine lw_out hx hb hK hP dL_law_274 ?_
  refine lv_iload hx hb dL_law_275 (lv_at hl 0 rfl) ?_
  refine r_i2l hx hb dL_law_277 ?_
  refine bl_eq (tgt := 284) hx hb dL_law_278 dL_law_279 (by decide) (fun _ => ?_) (fun h9 => absurd hans h9)
  refine lv_goto (tgt := 1083) hx hb dL_law_284 (by decide) ?_
  exact kk H locs ls hP hD hS (lv_sub hl [2, 3, 4, 5, 6] rfl)
set_option maxHeartbeats 8000000 in
set_option maxRecDepth 100000 in
theorem cz_pedalX0 {p : Program} {e : Env} {s : State} {m : MethodId} {below : List Frame} {meth : Method} {c : Code} {l : Launch} (hl9 : l.stackTraces = false) {b L : Nat} {xs : Nat → Int32} (hL : L ≤ 2560) (C0 : lw_At p s m meth c b L xs) {G : GT} {A : Nat → Prop} (hA : ∀ q : Nat, s.heap.size ≤ q → A q) (hbA : ¬ A b) (hE : Ev G A s s.heap) (hK : va_K G.1 vwCl (gT G) s) {a : Nat} (ha : a + 5 ≤ L) {ba bw ma qo : Nat} {U : Nat → Nat → Nat} {V : Nat → WV} {d : Nat → Nat} {M : MV} {ox : Nat → Int64} {cells slots : Nat} (hc : cells + 1 ≤ room_1.cells) (hsl : slots + 6 ≤ room_1.slots) {H : Heap} {locs : List Loc} {ls : Array Slot} (hP : va_P G.1 vwCl (lawW G ba bw U V ma d M qo ox) H) (hD : va_D A (lawW G ba bw U V ma d M qo ox)) (hS : va_S A s.heap H locs) (hl : lv_has ls 8 [(0, .ref b), (1, .ref ba), (2, .ref ma), (3, .ref qo), (4, .int (nI a))]) (wi : Int32) (kd : Int32) (hh : Int32) (lo : Int32) (hv1 : xs (a + 1) = wi) (hv2 : xs (a + 2) = kd) (hv3 : xs (a + 3) = hh) (hv4 : xs (a + 4) = lo) (L_hwi : fX3_isWire wi = 0) (M_hwi : fX4_isWire wi = 0)
    (kk : ∀ (H : Heap) (locs : List Loc) (ls : Array Slot), va_P G.1 vwCl (lawW G ba bw U V ma d ((m_f0 M), (m_f1 M), (m_f2 M), (m_f3 M), (m_f4 M), (m_f5 M), (m_f6 M), (m_f7 M), (m_f8 M), (m_f9 M), (m_f10 M), (m_f11 M), (m_f12 M), (m_f13 M), (m_f14 M), (m_f15 M), (m_f16 M), (1:Int32)) qo ox) H → va_D A (lawW G ba bw U V ma d ((m_f0 M), (m_f1 M), (m_f2 M), (m_f3 M), (m_f4 M), (m_f5 M), (m_f6 M), (m_f7 M), (m_f8 M), (m_f9 M), (m_f10 M), (m_f11 M), (m_f12 M), (m_f13 M), (m_f14 M), (m_f15 M), (m_f16 M), (1:Int32)) qo ox) → va_S A s.heap H locs → lv_has ls 8 [(0, .ref b), (1, .ref ba), (2, .ref ma), (3, .ref qo), (4, .int (nI a))] → W p l e room_1 s m #[Value.ref b] below meth c H locs (cells + 1) (slots + 6) (lw_Z below #[Value.ref b] s) (F0 m 1083 ls [])) : W p l e room_1 s m #[Value.ref b] below meth c H locs cells slots (lw_Z below #[Value.ref b] s) (F0 m 195 ls []) := by
  obtain ⟨hx, hb, hr, hml, hown, hts, hX, hbl, hlocks, hgv⟩ := id C0
  have hts := fun w h => hts w (wsL_law_in w h)
  have hcR : room_1.cells = 601024 := rfl
  have hsR : room_1.slots = 7293034 := rfl
  refine lv_aload_n hx hb dL_law_195 rfl (lv_at hl 1 rfl) ?_
  refine lv_aload_n hx hb dL_law_196 rfl (lv_at hl 0 rfl) ?_
  refine lv_iload hx hb dL_law_197 (lv_at hl 4 rfl) ?_
  refine lv_iconst (v := (1:Int32)) hx hb dL_law_199 (by decide) ?_
  refine lv_iadd hx hb dL_law_200 ?_
  refine ar_sldv (v := wi) hx hb hX hbl hbA hS (a + 1) (nI_add a 1) hv1 (by omega) (by omega) dL_law_201 ?_
  refine lv_aload_n hx hb dL_law_202 rfl (lv_at hl 0 rfl) ?_
  refine lv_iload hx hb dL_law_203 (lv_at hl 4 rfl) ?_
  refine lv_iconst (v := (2:Int32)) hx hb dL_law_205 (by decide) ?_
  refine lv_iadd hx hb dL_law_206 ?_
  refine ar_sldv (v := kd) hx hb hX hbl hbA hS (a + 2) (nI_add a 2) hv2 (by omega) (by omega) dL_law_207 ?_
  refine lv_aload_n hx hb dL_law_208 rfl (lv_at hl 0 rfl) ?_
  refine lv_iload hx hb dL_law_209 (lv_at hl 4 rfl) ?_
  refine lv_iconst (v := (3:Int32)) hx hb dL_law_211 (by decide) ?_
  refine lv_iadd hx hb dL_law_212 ?_
  refine ar_sldv (v := hh) hx hb hX hbl hbA hS (a + 3) (nI_add a 3) hv3 (by omega) (by omega) dL_law_213 ?_
  refine lv_aload_n hx hb dL_law_214 rfl (lv_at hl 0 rfl) ?_
  refine lv_iload hx hb dL_law_215 (lv_at hl 4 rfl) ?_
  refine lv_iconst (v := (4:Int32)) hx hb dL_law_217 (by decide) ?_
  refine lv_iadd hx hb dL_law_218 ?_
  refine ar_sldv (v := lo) hx hb hX hbl hbA hS (a + 4) (nI_add a 4) hv4 (by omega) (by omega) dL_law_219 ?_
  refine lv_aload_n hx hb dL_law_220 rfl (lv_at hl 3 rfl) ?_
  refine lc_0 (As := [.ref ba, .int wi, .int kd, .int hh, .int lo, .ref qo]) (rest := []) ⟨hx, hb, hml, hown, hts⟩ (kL_pedalX0 l hl9 G ba bw (pf4 (U 0 0) (U 1 0) (U 2 0) (U 3 0)) wi kd hh lo qo ox L_hwi) (vx_cwSW 6 hts gL_law_L_pedal rfl rfl rfl (by decide +kernel) ⟨Nat.le_of_ble_eq_true rfl, Nat.le_of_ble_eq_true rfl⟩) hE hK hP hD hS hA hl.1 rfl rfl (Nat.le_of_ble_eq_true rfl) dL_law_221 ⟨hc, hsl⟩ (fun H locs hP hD hS => ?_)
  have hP : va_P G.1 vwCl (lawW G ba bw U V ma d M qo ox) H := hP
  have hD : va_D A (lawW G ba bw U V ma d M qo ox) := hD
  refine lv_istore (lv' := [(5, .int (1:Int32)), (0, .ref b), (1, .ref ba), (2, .ref ma), (3, .ref qo), (4, .int (nI a))]) hx hb dL_law_224 hl (by decide) rfl (fun ls hl => ?_)
  refine lv_aload_n hx hb dL_law_226 rfl (lv_at hl 3 rfl) ?_
  refine lv_aload_n hx hb dL_law_227 rfl (lv_at hl 1 rfl) ?_
  refine lv_iload hx hb dL_law_228 (lv_at hl 5 rfl) ?_
  refine lv_iconst (v := (1:Int32)) hx hb dL_law_230 (by decide) ?_
  refine lv_iadd hx hb dL_law_231 ?_
  refine ar_sldv (v := wi) hx hb hX hbl hbA hS (a + 1) (nI_add a 1) hv1 (by omega) (by omega) dL_law_232 ?_
  refine lv_aload_n hx hb dL_law_233 rfl (lv_at hl 1 rfl) ?_
  refine lv_iload hx hb dL_law_234 (lv_at hl 5 rfl) ?_
  refine lv_iconst (v := (2:Int32)) hx hb dL_law_236 (by decide) ?_
  refine lv_iadd hx hb dL_law_237 ?_
  refine ar_sldv (v := kd) hx hb hX hbl hbA hS (a + 2) (nI_add a 2) hv2 (by omega) (by omega) dL_law_238 ?_
  refine lv_aload_n hx hb dL_law_239 rfl (lv_at hl 1 rfl) ?_
  refine lv_iload hx hb dL_law_240 (lv_at hl 5 rfl) ?_
  refine lv_iconst (v := (3:Int32)) hx hb dL_law_242 (by decide) ?_
  refine lv_iadd hx hb dL_law_243 ?_
  refine ar_sldv (v := hh) hx hb hX hbl hbA hS (a + 3) (nI_add a 3) hv3 (by omega) (by omega) dL_law_244 ?_
  refine lv_aload_n hx hb dL_law_245 rfl (lv_at hl 1 rfl) ?_
  refine lv_iload hx hb dL_law_246 (lv_at hl 5 rfl) ?_
  refine lv_iconst (v := (4:Int32)) hx hb dL_law_248 (by decide) ?_
  refine lv_iadd hx hb dL_law_249 ?_
  refine ar_sldv (v := lo) hx hb hX hbl hbA hS (a + 4) (nI_add a 4) hv4 (by omega) (by omega) dL_law_250 ?_
  refine lc_mi (As := [.int wi, .int kd, .int hh, .int lo]) (rest := []) (w0' := [(ma, .inr (4, [.ref (d 0), .ref (d 1), .ref (d 2), .ref (d 3), .ref (d 4), .ref (d 5), .ref (d 6), .ref (d 7), .ref (d 8), .ref (d 9), .ref (d 10), .ref (d 11), .ref (d 12), .ref (d 13), .ref (d 14), .ref (d 15), .ref (d 16), .int (m_cd M)]))]) (w1' := [(ma, .inr (4, [.ref (d 0), .ref (d 1), .ref (d 2), .ref (d 3), .ref (d 4), .ref (d 5), .ref (d 6), .ref (d 7), .ref (d 8), .ref (d 9), .ref (d 10), .ref (d 11), .ref (d 12), .ref (d 13), .ref (d 14), .ref (d 15), .ref (d 16), .int (1:Int32)]))]) (M' := ((m_f0 M), (m_f1 M), (m_f2 M), (m_f3 M), (m_f4 M), (m_f5 M), (m_f6 M), (m_f7 M), (m_f8 M), (m_f9 M), (m_f10 M), (m_f11 M), (m_f12 M), (m_f13 M), (m_f14 M), (m_f15 M), (m_f16 M), (1:Int32))) ⟨hx, hb, hml, hown, hts⟩ (kX4_pedalB0 l G ma (d 0) (d 1) (d 2) (d 3) (d 4) (d 5) (d 6) (d 7) (d 8) (d 9) (d 10) (d 11) (d 12) (d 13) (d 14) (d 15) (d 16) (m_cd M) wi kd hh lo M_hwi) (cwV 4 hts gL_law_X4_pedal rfl rfl rfl (by decide +kernel) ⟨Nat.le_of_ble_eq_true rfl, Nat.le_of_ble_eq_true rfl⟩) hE hK hP hD hS hA hl.1 [0] (by decide) (by decide) rfl rfl rfl rfl rfl (Nat.le_of_ble_eq_true rfl) dL_law_251 ⟨by omega, by omega⟩ (fun H locs hP hD hS => ?_)
  have hP : va_P G.1 vwCl (lawW G ba bw U V ma d ((m_f0 M), (m_f1 M), (m_f2 M), (m_f3 M), (m_f4 M), (m_f5 M), (m_f6 M), (m_f7 M), (m_f8 M), (m_f9 M), (m_f10 M), (m_f11 M), (m_f12 M), (m_f13 M), (m_f14 M), (m_f15 M), (m_f16 M), (1:Int32)) qo ox) H := hP
  have hD : va_D A (lawW G ba bw U V ma d ((m_f0 M), (m_f1 M), (m_f2 M), (m_f3 M), (m_f4 M), (m_f5 M), (m_f6 M), (m_f7 M), (m_f8 M), (m_f9 M), (m_f10 M), (m_f11 M), (m_f12 M), (m_f13 M), (m_f14 M), (m_f15 M), (m_f16 M), (1:Int32)) qo ox) := hD
  refine lv_istore (lv' := [(6, .int (0:Int32)), (5, .int (1:Int32)), (0, .ref b), (1, .ref ba), (2, .ref ma), (3, .ref qo), (4, .int (nI a))]) hx hb dL_law_254 hl (by decide) rfl (fun ls hl => ?_)
  refine lv_aload_n hx hb dL_law_256 rfl (lv_at hl 4 rfl) ?_
  refine lc_mi (As := []) (rest := []) (w0' := [(ma, .inr (4, [.ref (d 0), .ref (d 1), .ref (d 2), .ref (d 3), .ref (d 4), .ref (d 5), .ref (d 6), .ref (d 7), .ref (d 8), .ref (d 9), .ref (d 10), .ref (d 11), .ref (d 12), .ref (d 13), .ref (d 14), .ref (d 15), .ref (d 16), .int (m_cd ((m_f0 M), (m_f1 M), (m_f2 M), (m_f3 M), (m_f4 M), (m_f5 M), (m_f6 M), (m_f7 M), (m_f8 M), (m_f9 M), (m_f10 M), (m_f11 M), (m_f12 M), (m_f13 M), (m_f14 M), (m_f15 M), (m_f16 M), (1:Int32)))]))]) (w1' := [(ma, .inr (4, [.ref (d 0), .ref (d 1), .ref (d 2), .ref (d 3), .ref (d 4), .ref (d 5), .ref (d 6), .ref (d 7), .ref (d 8), .ref (d 9), .ref (d 10), .ref (d 11), .ref (d 12), .ref (d 13), .ref (d 14), .ref (d 15), .ref (d 16), .int (m_cd ((m_f0 M), (m_f1 M), (m_f2 M), (m_f3 M), (m_f4 M), (m_f5 M), (m_f6 M), (m_f7 M), (m_f8 M), (m_f9 M), (m_f10 M), (m_f11 M), (m_f12 M), (m_f13 M), (m_f14 M), (m_f15 M), (m_f16 M), (1:Int32)))]))]) (M' := ((m_f0 M), (m_f1 M), (m_f2 M), (m_f3 M), (m_f4 M), (m_f5 M), (m_f6 M), (m_f7 M), (m_f8 M), (m_f9 M), (m_f10 M), (m_f11 M), (m_f12 M), (m_f13 M), (m_f14 M), (m_f15 M), (m_f16 M), (1:Int32))) ⟨hx, hb, hml, hown, hts⟩ (kX4_thrown l G ma (d 0) (d 1) (d 2) (d 3) (d 4) (d 5) (d 6) (d 7) (d 8) (d 9) (d 10) (d 11) (d 12) (d 13) (d 14) (d 15) (d 16) (m_cd ((m_f0 M), (m_f1 M), (m_f2 M), (m_f3 M), (m_f4 M), (m_f5 M), (m_f6 M), (m_f7 M), (m_f8 M), (m_f9 M), (m_f10 M), (m_f11 M), (m_f12 M), (m_f13 M), (m_f14 M), (m_f15 M), (m_f16 M), (1:Int32)))) (cwV 0 hts gL_law_X4_thrown rfl rfl rfl (by decide +kernel) ⟨Nat.le_of_ble_eq_true rfl, Nat.le_of_ble_eq_true rfl⟩) hE hK hP hD hS hA hl.1 [0] (by decide) (by decide) rfl rfl rfl rfl rfl (Nat.le_of_ble_eq_true rfl) dL_law_257 ⟨by omega, by omega⟩ (fun H locs hP hD hS => ?_)
  have hP : va_P G.1 vwCl (lawW G ba bw U V ma d ((m_f0 M), (m_f1 M), (m_f2 M), (m_f3 M), (m_f4 M), (m_f5 M), (m_f6 M), (m_f7 M), (m_f8 M), (m_f9 M), (m_f10 M), (m_f11 M), (m_f12 M), (m_f13 M), (m_f14 M), (m_f15 M), (m_f16 M), (1:Int32)) qo ox) H := hP
  have hD : va_D A (lawW G ba bw U V ma d ((m_f0 M), (m_f1 M), (m_f2 M), (m_f3 M), (m_f4 M), (m_f5 M), (m_f6 M), (m_f7 M), (m_f8 M), (m_f9 M), (m_f10 M), (m_f11 M), (m_f12 M), (m_f13 M), (m_f14 M), (m_f15 M), (m_f16 M), (1:Int32)) qo ox) := hD
  refine lv_iload hx hb dL_law_260 (lv_at hl 1 rfl) ?_
  refine bi_eq (tgt := 267) hx hb dL_law_262 (by decide) (fun _ => ?_) (fun h9 => absurd rfl h9)
  refine lv_iload hx hb dL_law_267 (lv_at hl 1 rfl) ?_
  refine bz_ne (tgt := 284) hx hb dL_law_269 (by decide) (fun h9 => absurd h9 (by decide)) (fun _ => ?_)
  refine lv_goto (tgt := 1083) hx hb dL_law_284 (by decide) ?_
  exact kk H locs ls hP hD hS (lv_sub hl [2, 3, 4, 5, 6] rfl)
set_option maxHeartbeats 8000000 in
set_option maxRecDepth 100000 in
theorem cz_pedalX1 {p : Program} {e : Env} {s : State} {m : MethodId} {below : List Frame} {meth : Method} {c : Code} {l : Launch} (hl9 : l.stackTraces = false) {b L : Nat} {xs : Nat → Int32} (hL : L ≤ 2560) (C0 : lw_At p s m meth c b L xs) {G : GT} {A : Nat → Prop} (hA : ∀ q : Nat, s.heap.size ≤ q → A q) (hbA : ¬ A b) (hE : Ev G A s s.heap) (hK : va_K G.1 vwCl (gT G) s) {a : Nat} (ha : a + 5 ≤ L) {ba bw ma qo : Nat} {U : Nat → Nat → Nat} {V : Nat → WV} {d : Nat → Nat} {M : MV} {ox : Nat → Int64} {cells slots : Nat} (hc : cells + 1 ≤ room_1.cells) (hsl : slots + 6 ≤ room_1.slots) {H : Heap} {locs : List Loc} {ls : Array Slot} (hP : va_P G.1 vwCl (lawW G ba bw U V ma d M qo ox) H) (hD : va_D A (lawW G ba bw U V ma d M qo ox)) (hS : va_S A s.heap H locs) (hl : lv_has ls 8 [(0, .ref b), (1, .ref ba), (2, .ref ma), (3, .ref qo), (4, .int (nI a))]) (i : Nat) (kd : Int32) (hh : Int32) (lo : Int32) (hv1 : xs (a + 1) = (nI i)) (hv2 : xs (a + 2) = kd) (hv3 : xs (a + 3) = hh) (hv4 : xs (a + 4) = lo) (hi4 : i < 4) (L_hwf : (pf4 (U 0 0) (U 1 0) (U 2 0) (U 3 0)) i = some (U i 0)) (L_hkd : fX1_hasKind i kd = 0) (M_hkd : fX4_isKind (nI i) kd = 0)
    (kk : ∀ (H : Heap) (locs : List Loc) (ls : Array Slot), va_P G.1 vwCl (lawW G ba bw U (setV V i ((v_tr (V i)), (v_dr (V i)), (v_wt (V i)), (v_rd (V i)), (v_gr (V i)), (v_le (V i)), (v_n (V i)), (v_ki (V i)), (v_kn (V i)), (v_on (V i)), (v_ou (V i)), (v_li (V i)), (v_pn (V i)), (v_pki (V i)), (v_pkn (V i)), (v_pon (V i)))) ma d ((m_f0 M), (m_f1 M), (m_f2 M), (m_f3 M), (m_f4 M), (m_f5 M), (m_f6 M), (m_f7 M), (m_f8 M), (m_f9 M), (m_f10 M), (m_f11 M), (m_f12 M), (m_f13 M), (m_f14 M), (m_f15 M), (m_f16 M), (1:Int32)) qo ox) H → va_D A (lawW G ba bw U (setV V i ((v_tr (V i)), (v_dr (V i)), (v_wt (V i)), (v_rd (V i)), (v_gr (V i)), (v_le (V i)), (v_n (V i)), (v_ki (V i)), (v_kn (V i)), (v_on (V i)), (v_ou (V i)), (v_li (V i)), (v_pn (V i)), (v_pki (V i)), (v_pkn (V i)), (v_pon (V i)))) ma d ((m_f0 M), (m_f1 M), (m_f2 M), (m_f3 M), (m_f4 M), (m_f5 M), (m_f6 M), (m_f7 M), (m_f8 M), (m_f9 M), (m_f10 M), (m_f11 M), (m_f12 M), (m_f13 M), (m_f14 M), (m_f15 M), (m_f16 M), (1:Int32)) qo ox) → va_S A s.heap H locs → lv_has ls 8 [(0, .ref b), (1, .ref ba), (2, .ref ma), (3, .ref qo), (4, .int (nI a))] → W p l e room_1 s m #[Value.ref b] below meth c H locs (cells + 1) (slots + 6) (lw_Z below #[Value.ref b] s) (F0 m 1083 ls [])) : W p l e room_1 s m #[Value.ref b] below meth c H locs cells slots (lw_Z below #[Value.ref b] s) (F0 m 195 ls []) := by
  obtain ⟨hx, hb, hr, hml, hown, hts, hX, hbl, hlocks, hgv⟩ := id C0
  have hts := fun w h => hts w (wsL_law_in w h)
  have hcR : room_1.cells = 601024 := rfl
  have hsR : room_1.slots = 7293034 := rfl
  have L_hi4 := hi4
  have M_hi4 := hi4
  refine lv_aload_n hx hb dL_law_195 rfl (lv_at hl 1 rfl) ?_
  refine lv_aload_n hx hb dL_law_196 rfl (lv_at hl 0 rfl) ?_
  refine lv_iload hx hb dL_law_197 (lv_at hl 4 rfl) ?_
  refine lv_iconst (v := (1:Int32)) hx hb dL_law_199 (by decide) ?_
  refine lv_iadd hx hb dL_law_200 ?_
  refine ar_sldv (v := (nI i)) hx hb hX hbl hbA hS (a + 1) (nI_add a 1) hv1 (by omega) (by omega) dL_law_201 ?_
  refine lv_aload_n hx hb dL_law_202 rfl (lv_at hl 0 rfl) ?_
  refine lv_iload hx hb dL_law_203 (lv_at hl 4 rfl) ?_
  refine lv_iconst (v := (2:Int32)) hx hb dL_law_205 (by decide) ?_
  refine lv_iadd hx hb dL_law_206 ?_
  refine ar_sldv (v := kd) hx hb hX hbl hbA hS (a + 2) (nI_add a 2) hv2 (by omega) (by omega) dL_law_207 ?_
  refine lv_aload_n hx hb dL_law_208 rfl (lv_at hl 0 rfl) ?_
  refine lv_iload hx hb dL_law_209 (lv_at hl 4 rfl) ?_
  refine lv_iconst (v := (3:Int32)) hx hb dL_law_211 (by decide) ?_
  refine lv_iadd hx hb dL_law_212 ?_
  refine ar_sldv (v := hh) hx hb hX hbl hbA hS (a + 3) (nI_add a 3) hv3 (by omega) (by omega) dL_law_213 ?_
  refine lv_aload_n hx hb dL_law_214 rfl (lv_at hl 0 rfl) ?_
  refine lv_iload hx hb dL_law_215 (lv_at hl 4 rfl) ?_
  refine lv_iconst (v := (4:Int32)) hx hb dL_law_217 (by decide) ?_
  refine lv_iadd hx hb dL_law_218 ?_
  refine ar_sldv (v := lo) hx hb hX hbl hbA hS (a + 4) (nI_add a 4) hv4 (by omega) (by omega) dL_law_219 ?_
  refine lv_aload_n hx hb dL_law_220 rfl (lv_at hl 3 rfl) ?_
  refine lc_b (As := [.ref ba, .int (nI i), .int kd, .int hh, .int lo, .ref qo]) (rest := []) (w0' := [((U i 0), .inr (2, [.ref (G.2.2.1 i), .ref (U i 1), .ref (U i 5), .ref (U i 22), .ref (U i 23), .int (v_tr (V i)), .long (v_dr (V i)), .long (v_wt (V i)), .int (nI (v_rd (V i))), .long (v_gr (V i)), .long (v_le (V i))]))]) (w1' := [((U i 0), .inr (2, [.ref (G.2.2.1 i), .ref (U i 1), .ref (U i 5), .ref (U i 22), .ref (U i 23), .int (v_tr (V i)), .long (v_dr (V i)), .long (v_wt (V i)), .int (nI (v_rd (V i))), .long (v_gr (V i)), .long (v_le (V i))]))]) (v' := ((v_tr (V i)), (v_dr (V i)), (v_wt (V i)), (v_rd (V i)), (v_gr (V i)), (v_le (V i)), (v_n (V i)), (v_ki (V i)), (v_kn (V i)), (v_on (V i)), (v_ou (V i)), (v_li (V i)), (v_pn (V i)), (v_pki (V i)), (v_pkn (V i)), (v_pon (V i)))) (ox' := ox) ⟨hx, hb, hml, hown, hts⟩ (kL_pedalX1 l hl9 G ba bw (pf4 (U 0 0) (U 1 0) (U 2 0) (U 3 0)) (U i 0) i (U i 1) (U i 5) (U i 22) (U i 23) (v_tr (V i)) (v_dr (V i)) (v_wt (V i)) (v_rd (V i)) (v_gr (V i)) (v_le (V i)) kd hh lo qo ox L_hi4 L_hwf L_hkd) (vx_cwSW 6 hts gL_law_L_pedal rfl rfl rfl (by decide +kernel) ⟨Nat.le_of_ble_eq_true rfl, Nat.le_of_ble_eq_true rfl⟩) hE hK hP hD hS hA hl.1 hi4 [0] (nd4 hi4 (by decide)) (by decide) rfl rfl rfl rfl rfl rfl (Nat.le_of_ble_eq_true rfl) dL_law_221 ⟨hc, hsl⟩ (fun H locs hP hD hS => ?_)
  have hP : va_P G.1 vwCl (lawW G ba bw U (setV V i ((v_tr (V i)), (v_dr (V i)), (v_wt (V i)), (v_rd (V i)), (v_gr (V i)), (v_le (V i)), (v_n (V i)), (v_ki (V i)), (v_kn (V i)), (v_on (V i)), (v_ou (V i)), (v_li (V i)), (v_pn (V i)), (v_pki (V i)), (v_pkn (V i)), (v_pon (V i)))) ma d M qo ox) H := hP
  have hD : va_D A (lawW G ba bw U (setV V i ((v_tr (V i)), (v_dr (V i)), (v_wt (V i)), (v_rd (V i)), (v_gr (V i)), (v_le (V i)), (v_n (V i)), (v_ki (V i)), (v_kn (V i)), (v_on (V i)), (v_ou (V i)), (v_li (V i)), (v_pn (V i)), (v_pki (V i)), (v_pkn (V i)), (v_pon (V i)))) ma d M qo ox) := hD
  refine lv_istore (lv' := [(5, .int (1:Int32)), (0, .ref b), (1, .ref ba), (2, .ref ma), (3, .ref qo), (4, .int (nI a))]) hx hb dL_law_224 hl (by decide) rfl (fun ls hl => ?_)
  refine lv_aload_n hx hb dL_law_226 rfl (lv_at hl 3 rfl) ?_
  refine lv_aload_n hx hb dL_law_227 rfl (lv_at hl 1 rfl) ?_
  refine lv_iload hx hb dL_law_228 (lv_at hl 5 rfl) ?_
  refine lv_iconst (v := (1:Int32)) hx hb dL_law_230 (by decide) ?_
  refine lv_iadd hx hb dL_law_231 ?_
  refine ar_sldv (v := (nI i)) hx hb hX hbl hbA hS (a + 1) (nI_add a 1) hv1 (by omega) (by omega) dL_law_232 ?_
  refine lv_aload_n hx hb dL_law_233 rfl (lv_at hl 1 rfl) ?_
  refine lv_iload hx hb dL_law_234 (lv_at hl 5 rfl) ?_
  refine lv_iconst (v := (2:Int32)) hx hb dL_law_236 (by decide) ?_
  refine lv_iadd hx hb dL_law_237 ?_
  refine ar_sldv (v := kd) hx hb hX hbl hbA hS (a + 2) (nI_add a 2) hv2 (by omega) (by omega) dL_law_238 ?_
  refine lv_aload_n hx hb dL_law_239 rfl (lv_at hl 1 rfl) ?_
  refine lv_iload hx hb dL_law_240 (lv_at hl 5 rfl) ?_
  refine lv_iconst (v := (3:Int32)) hx hb dL_law_242 (by decide) ?_
  refine lv_iadd hx hb dL_law_243 ?_
  refine ar_sldv (v := hh) hx hb hX hbl hbA hS (a + 3) (nI_add a 3) hv3 (by omega) (by omega) dL_law_244 ?_
  refine lv_aload_n hx hb dL_law_245 rfl (lv_at hl 1 rfl) ?_
  refine lv_iload hx hb dL_law_246 (lv_at hl 5 rfl) ?_
  refine lv_iconst (v := (4:Int32)) hx hb dL_law_248 (by decide) ?_
  refine lv_iadd hx hb dL_law_249 ?_
  refine ar_sldv (v := lo) hx hb hX hbl hbA hS (a + 4) (nI_add a 4) hv4 (by omega) (by omega) dL_law_250 ?_
  refine lc_mi (As := [.int (nI i), .int kd, .int hh, .int lo]) (rest := []) (w0' := [(ma, .inr (4, [.ref (d 0), .ref (d 1), .ref (d 2), .ref (d 3), .ref (d 4), .ref (d 5), .ref (d 6), .ref (d 7), .ref (d 8), .ref (d 9), .ref (d 10), .ref (d 11), .ref (d 12), .ref (d 13), .ref (d 14), .ref (d 15), .ref (d 16), .int (m_cd M)]))]) (w1' := [(ma, .inr (4, [.ref (d 0), .ref (d 1), .ref (d 2), .ref (d 3), .ref (d 4), .ref (d 5), .ref (d 6), .ref (d 7), .ref (d 8), .ref (d 9), .ref (d 10), .ref (d 11), .ref (d 12), .ref (d 13), .ref (d 14), .ref (d 15), .ref (d 16), .int (1:Int32)]))]) (M' := ((m_f0 M), (m_f1 M), (m_f2 M), (m_f3 M), (m_f4 M), (m_f5 M), (m_f6 M), (m_f7 M), (m_f8 M), (m_f9 M), (m_f10 M), (m_f11 M), (m_f12 M), (m_f13 M), (m_f14 M), (m_f15 M), (m_f16 M), (1:Int32))) ⟨hx, hb, hml, hown, hts⟩ (kX4_pedalB1 l G ma (d 0) (d 1) (d 2) (d 3) (d 4) (d 5) (d 6) (d 7) (d 8) (d 9) (d 10) (d 11) (d 12) (d 13) (d 14) (d 15) (d 16) (m_cd M) i kd hh lo M_hi4 M_hkd) (cwV 4 hts gL_law_X4_pedal rfl rfl rfl (by decide +kernel) ⟨Nat.le_of_ble_eq_true rfl, Nat.le_of_ble_eq_true rfl⟩) hE hK hP hD hS hA hl.1 [0] (by decide) (by decide) rfl rfl rfl rfl rfl (Nat.le_of_ble_eq_true rfl) dL_law_251 ⟨by omega, by omega⟩ (fun H locs hP hD hS => ?_)
  have hP : va_P G.1 vwCl (lawW G ba bw U (setV V i ((v_tr (V i)), (v_dr (V i)), (v_wt (V i)), (v_rd (V i)), (v_gr (V i)), (v_le (V i)), (v_n (V i)), (v_ki (V i)), (v_kn (V i)), (v_on (V i)), (v_ou (V i)), (v_li (V i)), (v_pn (V i)), (v_pki (V i)), (v_pkn (V i)), (v_pon (V i)))) ma d ((m_f0 M), (m_f1 M), (m_f2 M), (m_f3 M), (m_f4 M), (m_f5 M), (m_f6 M), (m_f7 M), (m_f8 M), (m_f9 M), (m_f10 M), (m_f11 M), (m_f12 M), (m_f13 M), (m_f14 M), (m_f15 M), (m_f16 M), (1:Int32)) qo ox) H := hP
  have hD : va_D A (lawW G ba bw U (setV V i ((v_tr (V i)), (v_dr (V i)), (v_wt (V i)), (v_rd (V i)), (v_gr (V i)), (v_le (V i)), (v_n (V i)), (v_ki (V i)), (v_kn (V i)), (v_on (V i)), (v_ou (V i)), (v_li (V i)), (v_pn (V i)), (v_pki (V i)), (v_pkn (V i)), (v_pon (V i)))) ma d ((m_f0 M), (m_f1 M), (m_f2 M), (m_f3 M), (m_f4 M), (m_f5 M), (m_f6 M), (m_f7 M), (m_f8 M), (m_f9 M), (m_f10 M), (m_f11 M), (m_f12 M), (m_f13 M), (m_f14 M), (m_f15 M), (m_f16 M), (1:Int32)) qo ox) := hD
  refine lv_istore (lv' := [(6, .int (0:Int32)), (5, .int (1:Int32)), (0, .ref b), (1, .ref ba), (2, .ref ma), (3, .ref qo), (4, .int (nI a))]) hx hb dL_law_254 hl (by decide) rfl (fun ls hl => ?_)
  refine lv_aload_n hx hb dL_law_256 rfl (lv_at hl 4 rfl) ?_
  refine lc_mi (As := []) (rest := []) (w0' := [(ma, .inr (4, [.ref (d 0), .ref (d 1), .ref (d 2), .ref (d 3), .ref (d 4), .ref (d 5), .ref (d 6), .ref (d 7), .ref (d 8), .ref (d 9), .ref (d 10), .ref (d 11), .ref (d 12), .ref (d 13), .ref (d 14), .ref (d 15), .ref (d 16), .int (m_cd ((m_f0 M), (m_f1 M), (m_f2 M), (m_f3 M), (m_f4 M), (m_f5 M), (m_f6 M), (m_f7 M), (m_f8 M), (m_f9 M), (m_f10 M), (m_f11 M), (m_f12 M), (m_f13 M), (m_f14 M), (m_f15 M), (m_f16 M), (1:Int32)))]))]) (w1' := [(ma, .inr (4, [.ref (d 0), .ref (d 1), .ref (d 2), .ref (d 3), .ref (d 4), .ref (d 5), .ref (d 6), .ref (d 7), .ref (d 8), .ref (d 9), .ref (d 10), .ref (d 11), .ref (d 12), .ref (d 13), .ref (d 14), .ref (d 15), .ref (d 16), .int (m_cd ((m_f0 M), (m_f1 M), (m_f2 M), (m_f3 M), (m_f4 M), (m_f5 M), (m_f6 M), (m_f7 M), (m_f8 M), (m_f9 M), (m_f10 M), (m_f11 M), (m_f12 M), (m_f13 M), (m_f14 M), (m_f15 M), (m_f16 M), (1:Int32)))]))]) (M' := ((m_f0 M), (m_f1 M), (m_f2 M), (m_f3 M), (m_f4 M), (m_f5 M), (m_f6 M), (m_f7 M), (m_f8 M), (m_f9 M), (m_f10 M), (m_f11 M), (m_f12 M), (m_f13 M), (m_f14 M), (m_f15 M), (m_f16 M), (1:Int32))) ⟨hx, hb, hml, hown, hts⟩ (kX4_thrown l G ma (d 0) (d 1) (d 2) (d 3) (d 4) (d 5) (d 6) (d 7) (d 8) (d 9) (d 10) (d 11) (d 12) (d 13) (d 14) (d 15) (d 16) (m_cd ((m_f0 M), (m_f1 M), (m_f2 M), (m_f3 M), (m_f4 M), (m_f5 M), (m_f6 M), (m_f7 M), (m_f8 M), (m_f9 M), (m_f10 M), (m_f11 M), (m_f12 M), (m_f13 M), (m_f14 M), (m_f15 M), (m_f16 M), (1:Int32)))) (cwV 0 hts gL_law_X4_thrown rfl rfl rfl (by decide +kernel) ⟨Nat.le_of_ble_eq_true rfl, Nat.le_of_ble_eq_true rfl⟩) hE hK hP hD hS hA hl.1 [0] (by decide) (by decide) rfl rfl rfl rfl rfl (Nat.le_of_ble_eq_true rfl) dL_law_257 ⟨by omega, by omega⟩ (fun H locs hP hD hS => ?_)
  have hP : va_P G.1 vwCl (lawW G ba bw U (setV V i ((v_tr (V i)), (v_dr (V i)), (v_wt (V i)), (v_rd (V i)), (v_gr (V i)), (v_le (V i)), (v_n (V i)), (v_ki (V i)), (v_kn (V i)), (v_on (V i)), (v_ou (V i)), (v_li (V i)), (v_pn (V i)), (v_pki (V i)), (v_pkn (V i)), (v_pon (V i)))) ma d ((m_f0 M), (m_f1 M), (m_f2 M), (m_f3 M), (m_f4 M), (m_f5 M), (m_f6 M), (m_f7 M), (m_f8 M), (m_f9 M), (m_f10 M), (m_f11 M), (m_f12 M), (m_f13 M), (m_f14 M), (m_f15 M), (m_f16 M), (1:Int32)) qo ox) H := hP
  have hD : va_D A (lawW G ba bw U (setV V i ((v_tr (V i)), (v_dr (V i)), (v_wt (V i)), (v_rd (V i)), (v_gr (V i)), (v_le (V i)), (v_n (V i)), (v_ki (V i)), (v_kn (V i)), (v_on (V i)), (v_ou (V i)), (v_li (V i)), (v_pn (V i)), (v_pki (V i)), (v_pkn (V i)), (v_pon (V i)))) ma d ((m_f0 M), (m_f1 M), (m_f2 M), (m_f3 M), (m_f4 M), (m_f5 M), (m_f6 M), (m_f7 M), (m_f8 M), (m_f9 M), (m_f10 M), (m_f11 M), (m_f12 M), (m_f13 M), (m_f14 M), (m_f15 M), (m_f16 M), (1:Int32)) qo ox) := hD
  refine lv_iload hx hb dL_law_260 (lv_at hl 1 rfl) ?_
  refine bi_eq (tgt := 267) hx hb dL_law_262 (by decide) (fun _ => ?_) (fun h9 => absurd rfl h9)
  refine lv_iload hx hb dL_law_267 (lv_at hl 1 rfl) ?_
  refine bz_ne (tgt := 284) hx hb dL_law_269 (by decide) (fun h9 => absurd h9 (by decide)) (fun _ => ?_)
  refine lv_goto (tgt := 1083) hx hb dL_law_284 (by decide) ?_
  exact kk H locs ls hP hD hS (lv_sub hl [2, 3, 4, 5, 6] rfl)
set_option maxHeartbeats 8000000 in
set_option maxRecDepth 100000 in
theorem cz_pedalX2 {p : Program} {e : Env} {s : State} {m : MethodId} {below : List Frame} {meth : Method} {c : Code} {l : Launch} (hl9 : l.stackTraces = false) {b L : Nat} {xs : Nat → Int32} (hL : L ≤ 2560) (C0 : lw_At p s m meth c b L xs) {G : GT} {A : Nat → Prop} (hA : ∀ q : Nat, s.heap.size ≤ q → A q) (hbA : ¬ A b) (hE : Ev G A s s.heap) (hK : va_K G.1 vwCl (gT G) s) {a : Nat} (ha : a + 5 ≤ L) {ba bw ma qo : Nat} {U : Nat → Nat → Nat} {V : Nat → WV} {d : Nat → Nat} {M : MV} {ox : Nat → Int64} {cells slots : Nat} (hc : cells + 1 ≤ room_1.cells) (hsl : slots + 6 ≤ room_1.slots) {H : Heap} {locs : List Loc} {ls : Array Slot} (hP : va_P G.1 vwCl (lawW G ba bw U V ma d M qo ox) H) (hD : va_D A (lawW G ba bw U V ma d M qo ox)) (hS : va_S A s.heap H locs) (hl : lv_has ls 8 [(0, .ref b), (1, .ref ba), (2, .ref ma), (3, .ref qo), (4, .int (nI a))]) (i : Nat) (kd : Int32) (hh : Int32) (lo : Int32) (hv1 : xs (a + 1) = (nI i)) (hv2 : xs (a + 2) = kd) (hv3 : xs (a + 3) = hh) (hv4 : xs (a + 4) = lo) (hi4 : i < 4) (L_hwf : (pf4 (U 0 0) (U 1 0) (U 2 0) (U 3 0)) i = some (U i 0)) (L_hkd : ¬ fX1_hasKind i kd = 0) (L_hill : ¬ fX1_isIll i (fX1_codeOf i hh lo) = 0) (M_hkd : ¬ fX4_isKind (nI i) kd = 0) (M_hill : ¬ fX4_isIll (nI i) (fX4_coded (nI i) hh lo) = 0)
    (kk : ∀ (H : Heap) (locs : List Loc) (ls : Array Slot), va_P G.1 vwCl (lawW G ba bw U (setV V i ((v_tr (V i)), (v_dr (V i)), (v_wt (V i)), (v_rd (V i)), (v_gr (V i)), (v_le (V i)), (v_n (V i)), (v_ki (V i)), (v_kn (V i)), (v_on (V i)), (v_ou (V i)), (v_li (V i)), (v_pn (V i)), (v_pki (V i)), (v_pkn (V i)), (v_pon (V i)))) ma d ((m_f0 M), (m_f1 M), (m_f2 M), (m_f3 M), (m_f4 M), (m_f5 M), (m_f6 M), (m_f7 M), (m_f8 M), (m_f9 M), (m_f10 M), (m_f11 M), (m_f12 M), (m_f13 M), (m_f14 M), (m_f15 M), (m_f16 M), (1:Int32)) qo ox) H → va_D A (lawW G ba bw U (setV V i ((v_tr (V i)), (v_dr (V i)), (v_wt (V i)), (v_rd (V i)), (v_gr (V i)), (v_le (V i)), (v_n (V i)), (v_ki (V i)), (v_kn (V i)), (v_on (V i)), (v_ou (V i)), (v_li (V i)), (v_pn (V i)), (v_pki (V i)), (v_pkn (V i)), (v_pon (V i)))) ma d ((m_f0 M), (m_f1 M), (m_f2 M), (m_f3 M), (m_f4 M), (m_f5 M), (m_f6 M), (m_f7 M), (m_f8 M), (m_f9 M), (m_f10 M), (m_f11 M), (m_f12 M), (m_f13 M), (m_f14 M), (m_f15 M), (m_f16 M), (1:Int32)) qo ox) → va_S A s.heap H locs → lv_has ls 8 [(0, .ref b), (1, .ref ba), (2, .ref ma), (3, .ref qo), (4, .int (nI a))] → W p l e room_1 s m #[Value.ref b] below meth c H locs (cells + 1) (slots + 6) (lw_Z below #[Value.ref b] s) (F0 m 1083 ls [])) : W p l e room_1 s m #[Value.ref b] below meth c H locs cells slots (lw_Z below #[Value.ref b] s) (F0 m 195 ls []) := by
  obtain ⟨hx, hb, hr, hml, hown, hts, hX, hbl, hlocks, hgv⟩ := id C0
  have hts := fun w h => hts w (wsL_law_in w h)
  have hcR : room_1.cells = 601024 := rfl
  have hsR : room_1.slots = 7293034 := rfl
  have L_hi4 := hi4
  have M_hi4 := hi4
  refine lv_aload_n hx hb dL_law_195 rfl (lv_at hl 1 rfl) ?_
  refine lv_aload_n hx hb dL_law_196 rfl (lv_at hl 0 rfl) ?_
  refine lv_iload hx hb dL_law_197 (lv_at hl 4 rfl) ?_
  refine lv_iconst (v := (1:Int32)) hx hb dL_law_199 (by decide) ?_
  refine lv_iadd hx hb dL_law_200 ?_
  refine ar_sldv (v := (nI i)) hx hb hX hbl hbA hS (a + 1) (nI_add a 1) hv1 (by omega) (by omega) dL_law_201 ?_
  refine lv_aload_n hx hb dL_law_202 rfl (lv_at hl 0 rfl) ?_
  refine lv_iload hx hb dL_law_203 (lv_at hl 4 rfl) ?_
  refine lv_iconst (v := (2:Int32)) hx hb dL_law_205 (by decide) ?_
  refine lv_iadd hx hb dL_law_206 ?_
  refine ar_sldv (v := kd) hx hb hX hbl hbA hS (a + 2) (nI_add a 2) hv2 (by omega) (by omega) dL_law_207 ?_
  refine lv_aload_n hx hb dL_law_208 rfl (lv_at hl 0 rfl) ?_
  refine lv_iload hx hb dL_law_209 (lv_at hl 4 rfl) ?_
  refine lv_iconst (v := (3:Int32)) hx hb dL_law_211 (by decide) ?_
  refine lv_iadd hx hb dL_law_212 ?_
  refine ar_sldv (v := hh) hx hb hX hbl hbA hS (a + 3) (nI_add a 3) hv3 (by omega) (by omega) dL_law_213 ?_
  refine lv_aload_n hx hb dL_law_214 rfl (lv_at hl 0 rfl) ?_
  refine lv_iload hx hb dL_law_215 (lv_at hl 4 rfl) ?_
  refine lv_iconst (v := (4:Int32)) hx hb dL_law_217 (by decide) ?_
  refine lv_iadd hx hb dL_law_218 ?_
  refine ar_sldv (v := lo) hx hb hX hbl hbA hS (a + 4) (nI_add a 4) hv4 (by omega) (by omega) dL_law_219 ?_
  refine lv_aload_n hx hb dL_law_220 rfl (lv_at hl 3 rfl) ?_
  refine lc_b (As := [.ref ba, .int (nI i), .int kd, .int hh, .int lo, .ref qo]) (rest := []) (w0' := [((U i 0), .inr (2, [.ref (G.2.2.1 i), .ref (U i 1), .ref (U i 5), .ref (U i 22), .ref (U i 23), .int (v_tr (V i)), .long (v_dr (V i)), .long (v_wt (V i)), .int (nI (v_rd (V i))), .long (v_gr (V i)), .long (v_le (V i))]))]) (w1' := [((U i 0), .inr (2, [.ref (G.2.2.1 i), .ref (U i 1), .ref (U i 5), .ref (U i 22), .ref (U i 23), .int (v_tr (V i)), .long (v_dr (V i)), .long (v_wt (V i)), .int (nI (v_rd (V i))), .long (v_gr (V i)), .long (v_le (V i))]))]) (v' := ((v_tr (V i)), (v_dr (V i)), (v_wt (V i)), (v_rd (V i)), (v_gr (V i)), (v_le (V i)), (v_n (V i)), (v_ki (V i)), (v_kn (V i)), (v_on (V i)), (v_ou (V i)), (v_li (V i)), (v_pn (V i)), (v_pki (V i)), (v_pkn (V i)), (v_pon (V i)))) (ox' := ox) ⟨hx, hb, hml, hown, hts⟩ (kL_pedalX2 l hl9 G ba bw (pf4 (U 0 0) (U 1 0) (U 2 0) (U 3 0)) (U i 0) i (U i 1) (U i 5) (U i 22) (U i 23) (v_tr (V i)) (v_dr (V i)) (v_wt (V i)) (v_rd (V i)) (v_gr (V i)) (v_le (V i)) kd hh lo qo ox L_hi4 L_hwf L_hkd L_hill) (vx_cwSW 6 hts gL_law_L_pedal rfl rfl rfl (by decide +kernel) ⟨Nat.le_of_ble_eq_true rfl, Nat.le_of_ble_eq_true rfl⟩) hE hK hP hD hS hA hl.1 hi4 [0] (nd4 hi4 (by decide)) (by decide) rfl rfl rfl rfl rfl rfl (Nat.le_of_ble_eq_true rfl) dL_law_221 ⟨hc, hsl⟩ (fun H locs hP hD hS => ?_)
  have hP : va_P G.1 vwCl (lawW G ba bw U (setV V i ((v_tr (V i)), (v_dr (V i)), (v_wt (V i)), (v_rd (V i)), (v_gr (V i)), (v_le (V i)), (v_n (V i)), (v_ki (V i)), (v_kn (V i)), (v_on (V i)), (v_ou (V i)), (v_li (V i)), (v_pn (V i)), (v_pki (V i)), (v_pkn (V i)), (v_pon (V i)))) ma d M qo ox) H := hP
  have hD : va_D A (lawW G ba bw U (setV V i ((v_tr (V i)), (v_dr (V i)), (v_wt (V i)), (v_rd (V i)), (v_gr (V i)), (v_le (V i)), (v_n (V i)), (v_ki (V i)), (v_kn (V i)), (v_on (V i)), (v_ou (V i)), (v_li (V i)), (v_pn (V i)), (v_pki (V i)), (v_pkn (V i)), (v_pon (V i)))) ma d M qo ox) := hD
  refine lv_istore (lv' := [(5, .int (1:Int32)), (0, .ref b), (1, .ref ba), (2, .ref ma), (3, .ref qo), (4, .int (nI a))]) hx hb dL_law_224 hl (by decide) rfl (fun ls hl => ?_)
  refine lv_aload_n hx hb dL_law_226 rfl (lv_at hl 3 rfl) ?_
  refine lv_aload_n hx hb dL_law_227 rfl (lv_at hl 1 rfl) ?_
  refine lv_iload hx hb dL_law_228 (lv_at hl 5 rfl) ?_
  refine lv_iconst (v := (1:Int32)) hx hb dL_law_230 (by decide) ?_
  refine lv_iadd hx hb dL_law_231 ?_
  refine ar_sldv (v := (nI i)) hx hb hX hbl hbA hS (a + 1) (nI_add a 1) hv1 (by omega) (by omega) dL_law_232 ?_
  refine lv_aload_n hx hb dL_law_233 rfl (lv_at hl 1 rfl) ?_
  refine lv_iload hx hb dL_law_234 (lv_at hl 5 rfl) ?_
  refine lv_iconst (v := (2:Int32)) hx hb dL_law_236 (by decide) ?_
  refine lv_iadd hx hb dL_law_237 ?_
  refine ar_sldv (v := kd) hx hb hX hbl hbA hS (a + 2) (nI_add a 2) hv2 (by omega) (by omega) dL_law_238 ?_
  refine lv_aload_n hx hb dL_law_239 rfl (lv_at hl 1 rfl) ?_
  refine lv_iload hx hb dL_law_240 (lv_at hl 5 rfl) ?_
  refine lv_iconst (v := (3:Int32)) hx hb dL_law_242 (by decide) ?_
  refine lv_iadd hx hb dL_law_243 ?_
  refine ar_sldv (v := hh) hx hb hX hbl hbA hS (a + 3) (nI_add a 3) hv3 (by omega) (by omega) dL_law_244 ?_
  refine lv_aload_n hx hb dL_law_245 rfl (lv_at hl 1 rfl) ?_
  refine lv_iload hx hb dL_law_246 (lv_at hl 5 rfl) ?_
  refine lv_iconst (v := (4:Int32)) hx hb dL_law_248 (by decide) ?_
  refine lv_iadd hx hb dL_law_249 ?_
  refine ar_sldv (v := lo) hx hb hX hbl hbA hS (a + 4) (nI_add a 4) hv4 (by omega) (by omega) dL_law_250 ?_
  refine lc_mi (As := [.int (nI i), .int kd, .int hh, .int lo]) (rest := []) (w0' := [(ma, .inr (4, [.ref (d 0), .ref (d 1), .ref (d 2), .ref (d 3), .ref (d 4), .ref (d 5), .ref (d 6), .ref (d 7), .ref (d 8), .ref (d 9), .ref (d 10), .ref (d 11), .ref (d 12), .ref (d 13), .ref (d 14), .ref (d 15), .ref (d 16), .int (m_cd M)]))]) (w1' := [(ma, .inr (4, [.ref (d 0), .ref (d 1), .ref (d 2), .ref (d 3), .ref (d 4), .ref (d 5), .ref (d 6), .ref (d 7), .ref (d 8), .ref (d 9), .ref (d 10), .ref (d 11), .ref (d 12), .ref (d 13), .ref (d 14), .ref (d 15), .ref (d 16), .int (1:Int32)]))]) (M' := ((m_f0 M), (m_f1 M), (m_f2 M), (m_f3 M), (m_f4 M), (m_f5 M), (m_f6 M), (m_f7 M), (m_f8 M), (m_f9 M), (m_f10 M), (m_f11 M), (m_f12 M), (m_f13 M), (m_f14 M), (m_f15 M), (m_f16 M), (1:Int32))) ⟨hx, hb, hml, hown, hts⟩ (kX4_pedalB2 l G ma (d 0) (d 1) (d 2) (d 3) (d 4) (d 5) (d 6) (d 7) (d 8) (d 9) (d 10) (d 11) (d 12) (d 13) (d 14) (d 15) (d 16) (m_cd M) i kd hh lo M_hi4 M_hkd M_hill) (cwV 4 hts gL_law_X4_pedal rfl rfl rfl (by decide +kernel) ⟨Nat.le_of_ble_eq_true rfl, Nat.le_of_ble_eq_true rfl⟩) hE hK hP hD hS hA hl.1 [0] (by decide) (by decide) rfl rfl rfl rfl rfl (Nat.le_of_ble_eq_true rfl) dL_law_251 ⟨by omega, by omega⟩ (fun H locs hP hD hS => ?_)
  have hP : va_P G.1 vwCl (lawW G ba bw U (setV V i ((v_tr (V i)), (v_dr (V i)), (v_wt (V i)), (v_rd (V i)), (v_gr (V i)), (v_le (V i)), (v_n (V i)), (v_ki (V i)), (v_kn (V i)), (v_on (V i)), (v_ou (V i)), (v_li (V i)), (v_pn (V i)), (v_pki (V i)), (v_pkn (V i)), (v_pon (V i)))) ma d ((m_f0 M), (m_f1 M), (m_f2 M), (m_f3 M), (m_f4 M), (m_f5 M), (m_f6 M), (m_f7 M), (m_f8 M), (m_f9 M), (m_f10 M), (m_f11 M), (m_f12 M), (m_f13 M), (m_f14 M), (m_f15 M), (m_f16 M), (1:Int32)) qo ox) H := hP
  have hD : va_D A (lawW G ba bw U (setV V i ((v_tr (V i)), (v_dr (V i)), (v_wt (V i)), (v_rd (V i)), (v_gr (V i)), (v_le (V i)), (v_n (V i)), (v_ki (V i)), (v_kn (V i)), (v_on (V i)), (v_ou (V i)), (v_li (V i)), (v_pn (V i)), (v_pki (V i)), (v_pkn (V i)), (v_pon (V i)))) ma d ((m_f0 M), (m_f1 M), (m_f2 M), (m_f3 M), (m_f4 M), (m_f5 M), (m_f6 M), (m_f7 M), (m_f8 M), (m_f9 M), (m_f10 M), (m_f11 M), (m_f12 M), (m_f13 M), (m_f14 M), (m_f15 M), (m_f16 M), (1:Int32)) qo ox) := hD
  refine lv_istore (lv' := [(6, .int (0:Int32)), (5, .int (1:Int32)), (0, .ref b), (1, .ref ba), (2, .ref ma), (3, .ref qo), (4, .int (nI a))]) hx hb dL_law_254 hl (by decide) rfl (fun ls hl => ?_)
  refine lv_aload_n hx hb dL_law_256 rfl (lv_at hl 4 rfl) ?_
  refine lc_mi (As := []) (rest := []) (w0' := [(ma, .inr (4, [.ref (d 0), .ref (d 1), .ref (d 2), .ref (d 3), .ref (d 4), .ref (d 5), .ref (d 6), .ref (d 7), .ref (d 8), .ref (d 9), .ref (d 10), .ref (d 11), .ref (d 12), .ref (d 13), .ref (d 14), .ref (d 15), .ref (d 16), .int (m_cd ((m_f0 M), (m_f1 M), (m_f2 M), (m_f3 M), (m_f4 M), (m_f5 M), (m_f6 M), (m_f7 M), (m_f8 M), (m_f9 M), (m_f10 M), (m_f11 M), (m_f12 M), (m_f13 M), (m_f14 M), (m_f15 M), (m_f16 M), (1:Int32)))]))]) (w1' := [(ma, .inr (4, [.ref (d 0), .ref (d 1), .ref (d 2), .ref (d 3), .ref (d 4), .ref (d 5), .ref (d 6), .ref (d 7), .ref (d 8), .ref (d 9), .ref (d 10), .ref (d 11), .ref (d 12), .ref (d 13), .ref (d 14), .ref (d 15), .ref (d 16), .int (m_cd ((m_f0 M), (m_f1 M), (m_f2 M), (m_f3 M), (m_f4 M), (m_f5 M), (m_f6 M), (m_f7 M), (m_f8 M), (m_f9 M), (m_f10 M), (m_f11 M), (m_f12 M), (m_f13 M), (m_f14 M), (m_f15 M), (m_f16 M), (1:Int32)))]))]) (M' := ((m_f0 M), (m_f1 M), (m_f2 M), (m_f3 M), (m_f4 M), (m_f5 M), (m_f6 M), (m_f7 M), (m_f8 M), (m_f9 M), (m_f10 M), (m_f11 M), (m_f12 M), (m_f13 M), (m_f14 M), (m_f15 M), (m_f16 M), (1:Int32))) ⟨hx, hb, hml, hown, hts⟩ (kX4_thrown l G ma (d 0) (d 1) (d 2) (d 3) (d 4) (d 5) (d 6) (d 7) (d 8) (d 9) (d 10) (d 11) (d 12) (d 13) (d 14) (d 15) (d 16) (m_cd ((m_f0 M), (m_f1 M), (m_f2 M), (m_f3 M), (m_f4 M), (m_f5 M), (m_f6 M), (m_f7 M), (m_f8 M), (m_f9 M), (m_f10 M), (m_f11 M), (m_f12 M), (m_f13 M), (m_f14 M), (m_f15 M), (m_f16 M), (1:Int32)))) (cwV 0 hts gL_law_X4_thrown rfl rfl rfl (by decide +kernel) ⟨Nat.le_of_ble_eq_true rfl, Nat.le_of_ble_eq_true rfl⟩) hE hK hP hD hS hA hl.1 [0] (by decide) (by decide) rfl rfl rfl rfl rfl (Nat.le_of_ble_eq_true rfl) dL_law_257 ⟨by omega, by omega⟩ (fun H locs hP hD hS => ?_)
  have hP : va_P G.1 vwCl (lawW G ba bw U (setV V i ((v_tr (V i)), (v_dr (V i)), (v_wt (V i)), (v_rd (V i)), (v_gr (V i)), (v_le (V i)), (v_n (V i)), (v_ki (V i)), (v_kn (V i)), (v_on (V i)), (v_ou (V i)), (v_li (V i)), (v_pn (V i)), (v_pki (V i)), (v_pkn (V i)), (v_pon (V i)))) ma d ((m_f0 M), (m_f1 M), (m_f2 M), (m_f3 M), (m_f4 M), (m_f5 M), (m_f6 M), (m_f7 M), (m_f8 M), (m_f9 M), (m_f10 M), (m_f11 M), (m_f12 M), (m_f13 M), (m_f14 M), (m_f15 M), (m_f16 M), (1:Int32)) qo ox) H := hP
  have hD : va_D A (lawW G ba bw U (setV V i ((v_tr (V i)), (v_dr (V i)), (v_wt (V i)), (v_rd (V i)), (v_gr (V i)), (v_le (V i)), (v_n (V i)), (v_ki (V i)), (v_kn (V i)), (v_on (V i)), (v_ou (V i)), (v_li (V i)), (v_pn (V i)), (v_pki (V i)), (v_pkn (V i)), (v_pon (V i)))) ma d ((m_f0 M), (m_f1 M), (m_f2 M), (m_f3 M), (m_f4 M), (m_f5 M), (m_f6 M), (m_f7 M), (m_f8 M), (m_f9 M), (m_f10 M), (m_f11 M), (m_f12 M), (m_f13 M), (m_f14 M), (m_f15 M), (m_f16 M), (1:Int32)) qo ox) := hD
  refine lv_iload hx hb dL_law_260 (lv_at hl 1 rfl) ?_
  refine bi_eq (tgt := 267) hx hb dL_law_262 (by decide) (fun _ => ?_) (fun h9 => absurd rfl h9)
  refine lv_iload hx hb dL_law_267 (lv_at hl 1 rfl) ?_
  refine bz_ne (tgt := 284) hx hb dL_law_269 (by decide) (fun h9 => absurd h9 (by decide)) (fun _ => ?_)
  refine lv_goto (tgt := 1083) hx hb dL_law_284 (by decide) ?_
  exact kk H locs ls hP hD hS (lv_sub hl [2, 3, 4, 5, 6] rfl)
set_option maxHeartbeats 8000000 in
set_option maxRecDepth 100000 in
theorem cz_pedalX3 {p : Program} {e : Env} {s : State} {m : MethodId} {below : List Frame} {meth : Method} {c : Code} {l : Launch} (hl9 : l.stackTraces = false) {b L : Nat} {xs : Nat → Int32} (hL : L ≤ 2560) (C0 : lw_At p s m meth c b L xs) {G : GT} {A : Nat → Prop} (hA : ∀ q : Nat, s.heap.size ≤ q → A q) (hbA : ¬ A b) (hE : Ev G A s s.heap) (hK : va_K G.1 vwCl (gT G) s) {a : Nat} (ha : a + 5 ≤ L) {ba bw ma qo : Nat} {U : Nat → Nat → Nat} {V : Nat → WV} {d : Nat → Nat} {M : MV} {ox : Nat → Int64} {cells slots : Nat} (hc : cells + 1 ≤ room_1.cells) (hsl : slots + 6 ≤ room_1.slots) {H : Heap} {locs : List Loc} {ls : Array Slot} (hP : va_P G.1 vwCl (lawW G ba bw U V ma d M qo ox) H) (hD : va_D A (lawW G ba bw U V ma d M qo ox)) (hS : va_S A s.heap H locs) (hl : lv_has ls 8 [(0, .ref b), (1, .ref ba), (2, .ref ma), (3, .ref qo), (4, .int (nI a))]) (i : Nat) (kd : Int32) (hh : Int32) (lo : Int32) (hv1 : xs (a + 1) = (nI i)) (hv2 : xs (a + 2) = kd) (hv3 : xs (a + 3) = hh) (hv4 : xs (a + 4) = lo) (hi4 : i < 4) (L_hwf : (pf4 (U 0 0) (U 1 0) (U 2 0) (U 3 0)) i = some (U i 0)) (L_hkd : ¬ fX1_hasKind i kd = 0) (L_hill : fX1_isIll i (fX1_codeOf i hh lo) = 0) (L_hn : (v_n (V i)) = 12) (M_hm : (m_f5 M) i = nI (v_n (V i))) (M_hn : (v_n (V i)) = 12) (M_hkd : ¬ fX4_isKind (nI i) kd = 0) (M_hill : fX4_isIll (nI i) (fX4_coded (nI i) hh lo) = 0)
    (kk : ∀ (H : Heap) (locs : List Loc) (ls : Array Slot), va_P G.1 vwCl (lawW G ba bw U (setV V i ((v_tr (V i)), (v_dr (V i)), (v_wt (V i)), (v_rd (V i)), (v_gr (V i)), (v_le (V i)), (v_n (V i)), (v_ki (V i)), (v_kn (V i)), (v_on (V i)), (v_ou (V i)), (v_li (V i)), (v_pn (V i)), (v_pki (V i)), (v_pkn (V i)), (v_pon (V i)))) ma d ((m_f0 M), (m_f1 M), (m_f2 M), (m_f3 M), (m_f4 M), (m_f5 M), (m_f6 M), (m_f7 M), (m_f8 M), (m_f9 M), (m_f10 M), (m_f11 M), (m_f12 M), (m_f13 M), (m_f14 M), (m_f15 M), (m_f16 M), (2:Int32)) qo ox) H → va_D A (lawW G ba bw U (setV V i ((v_tr (V i)), (v_dr (V i)), (v_wt (V i)), (v_rd (V i)), (v_gr (V i)), (v_le (V i)), (v_n (V i)), (v_ki (V i)), (v_kn (V i)), (v_on (V i)), (v_ou (V i)), (v_li (V i)), (v_pn (V i)), (v_pki (V i)), (v_pkn (V i)), (v_pon (V i)))) ma d ((m_f0 M), (m_f1 M), (m_f2 M), (m_f3 M), (m_f4 M), (m_f5 M), (m_f6 M), (m_f7 M), (m_f8 M), (m_f9 M), (m_f10 M), (m_f11 M), (m_f12 M), (m_f13 M), (m_f14 M), (m_f15 M), (m_f16 M), (2:Int32)) qo ox) → va_S A s.heap H locs → lv_has ls 8 [(0, .ref b), (1, .ref ba), (2, .ref ma), (3, .ref qo), (4, .int (nI a))] → W p l e room_1 s m #[Value.ref b] below meth c H locs (cells + 1) (slots + 6) (lw_Z below #[Value.ref b] s) (F0 m 1083 ls [])) : W p l e room_1 s m #[Value.ref b] below meth c H locs cells slots (lw_Z below #[Value.ref b] s) (F0 m 195 ls []) := by
  obtain ⟨hx, hb, hr, hml, hown, hts, hX, hbl, hlocks, hgv⟩ := id C0
  have hts := fun w h => hts w (wsL_law_in w h)
  have hcR : room_1.cells = 601024 := rfl
  have hsR : room_1.slots = 7293034 := rfl
  have L_hi4 := hi4
  have M_hi4 := hi4
  refine lv_aload_n hx hb dL_law_195 rfl (lv_at hl 1 rfl) ?_
  refine lv_aload_n hx hb dL_law_196 rfl (lv_at hl 0 rfl) ?_
  refine lv_iload hx hb dL_law_197 (lv_at hl 4 rfl) ?_
  refine lv_iconst (v := (1:Int32)) hx hb dL_law_199 (by decide) ?_
  refine lv_iadd hx hb dL_law_200 ?_
  refine ar_sldv (v := (nI i)) hx hb hX hbl hbA hS (a + 1) (nI_add a 1) hv1 (by omega) (by omega) dL_law_201 ?_
  refine lv_aload_n hx hb dL_law_202 rfl (lv_at hl 0 rfl) ?_
  refine lv_iload hx hb dL_law_203 (lv_at hl 4 rfl) ?_
  refine lv_iconst (v := (2:Int32)) hx hb dL_law_205 (by decide) ?_
  refine lv_iadd hx hb dL_law_206 ?_
  refine ar_sldv (v := kd) hx hb hX hbl hbA hS (a + 2) (nI_add a 2) hv2 (by omega) (by omega) dL_law_207 ?_
  refine lv_aload_n hx hb dL_law_208 rfl (lv_at hl 0 rfl) ?_
  refine lv_iload hx hb dL_law_209 (lv_at hl 4 rfl) ?_
  refine lv_iconst (v := (3:Int32)) hx hb dL_law_211 (by decide) ?_
  refine lv_iadd hx hb dL_law_212 ?_
  refine ar_sldv (v := hh) hx hb hX hbl hbA hS (a + 3) (nI_add a 3) hv3 (by omega) (by omega) dL_law_213 ?_
  refine lv_aload_n hx hb dL_law_214 rfl (lv_at hl 0 rfl) ?_
  refine lv_iload hx hb dL_law_215 (lv_at hl 4 rfl) ?_
  refine lv_iconst (v := (4:Int32)) hx hb dL_law_217 (by decide) ?_
  refine lv_iadd hx hb dL_law_218 ?_
  refine ar_sldv (v := lo) hx hb hX hbl hbA hS (a + 4) (nI_add a 4) hv4 (by omega) (by omega) dL_law_219 ?_
  refine lv_aload_n hx hb dL_law_220 rfl (lv_at hl 3 rfl) ?_
  refine lc_b (As := [.ref ba, .int (nI i), .int kd, .int hh, .int lo, .ref qo]) (rest := []) (w0' := [((U i 0), .inr (2, [.ref (G.2.2.1 i), .ref (U i 1), .ref (U i 5), .ref (U i 22), .ref (U i 23), .int (v_tr (V i)), .long (v_dr (V i)), .long (v_wt (V i)), .int (nI (v_rd (V i))), .long (v_gr (V i)), .long (v_le (V i))])), ((U i 1), .inr (0, [.ref (U i 2), .ref (U i 3), .ref (U i 4), .int (nI (v_n (V i)))]))]) (w1' := [((U i 0), .inr (2, [.ref (G.2.2.1 i), .ref (U i 1), .ref (U i 5), .ref (U i 22), .ref (U i 23), .int (v_tr (V i)), .long (v_dr (V i)), .long (v_wt (V i)), .int (nI (v_rd (V i))), .long (v_gr (V i)), .long (v_le (V i))])), ((U i 1), .inr (0, [.ref (U i 2), .ref (U i 3), .ref (U i 4), .int (nI (v_n (V i)))]))]) (v' := ((v_tr (V i)), (v_dr (V i)), (v_wt (V i)), (v_rd (V i)), (v_gr (V i)), (v_le (V i)), (v_n (V i)), (v_ki (V i)), (v_kn (V i)), (v_on (V i)), (v_ou (V i)), (v_li (V i)), (v_pn (V i)), (v_pki (V i)), (v_pkn (V i)), (v_pon (V i)))) (ox' := ox) ⟨hx, hb, hml, hown, hts⟩ (kL_pedalX3 l hl9 G ba bw (pf4 (U 0 0) (U 1 0) (U 2 0) (U 3 0)) (U i 0) i (U i 1) (U i 5) (U i 22) (U i 23) (v_tr (V i)) (v_dr (V i)) (v_wt (V i)) (v_rd (V i)) (v_gr (V i)) (v_le (V i)) (U i 2) (U i 3) (U i 4) (v_n (V i)) kd hh lo qo ox L_hi4 L_hwf L_hkd L_hill L_hn) (vx_cwSW 6 hts gL_law_L_pedal rfl rfl rfl (by decide +kernel) ⟨Nat.le_of_ble_eq_true rfl, Nat.le_of_ble_eq_true rfl⟩) hE hK hP hD hS hA hl.1 hi4 [0, 1] (nd4 hi4 (by decide)) (by decide) rfl rfl rfl rfl rfl rfl (Nat.le_of_ble_eq_true rfl) dL_law_221 ⟨hc, hsl⟩ (fun H locs hP hD hS => ?_)
  have hP : va_P G.1 vwCl (lawW G ba bw U (setV V i ((v_tr (V i)), (v_dr (V i)), (v_wt (V i)), (v_rd (V i)), (v_gr (V i)), (v_le (V i)), (v_n (V i)), (v_ki (V i)), (v_kn (V i)), (v_on (V i)), (v_ou (V i)), (v_li (V i)), (v_pn (V i)), (v_pki (V i)), (v_pkn (V i)), (v_pon (V i)))) ma d M qo ox) H := hP
  have hD : va_D A (lawW G ba bw U (setV V i ((v_tr (V i)), (v_dr (V i)), (v_wt (V i)), (v_rd (V i)), (v_gr (V i)), (v_le (V i)), (v_n (V i)), (v_ki (V i)), (v_kn (V i)), (v_on (V i)), (v_ou (V i)), (v_li (V i)), (v_pn (V i)), (v_pki (V i)), (v_pkn (V i)), (v_pon (V i)))) ma d M qo ox) := hD
  refine lv_istore (lv' := [(5, .int (2:Int32)), (0, .ref b), (1, .ref ba), (2, .ref ma), (3, .ref qo), (4, .int (nI a))]) hx hb dL_law_224 hl (by decide) rfl (fun ls hl => ?_)
  refine lv_aload_n hx hb dL_law_226 rfl (lv_at hl 3 rfl) ?_
  refine lv_aload_n hx hb dL_law_227 rfl (lv_at hl 1 rfl) ?_
  refine lv_iload hx hb dL_law_228 (lv_at hl 5 rfl) ?_
  refine lv_iconst (v := (1:Int32)) hx hb dL_law_230 (by decide) ?_
  refine lv_iadd hx hb dL_law_231 ?_
  refine ar_sldv (v := (nI i)) hx hb hX hbl hbA hS (a + 1) (nI_add a 1) hv1 (by omega) (by omega) dL_law_232 ?_
  refine lv_aload_n hx hb dL_law_233 rfl (lv_at hl 1 rfl) ?_
  refine lv_iload hx hb dL_law_234 (lv_at hl 5 rfl) ?_
  refine lv_iconst (v := (2:Int32)) hx hb dL_law_236 (by decide) ?_
  refine lv_iadd hx hb dL_law_237 ?_
  refine ar_sldv (v := kd) hx hb hX hbl hbA hS (a + 2) (nI_add a 2) hv2 (by omega) (by omega) dL_law_238 ?_
  refine lv_aload_n hx hb dL_law_239 rfl (lv_at hl 1 rfl) ?_
  refine lv_iload hx hb dL_law_240 (lv_at hl 5 rfl) ?_
  refine lv_iconst (v := (3:Int32)) hx hb dL_law_242 (by decide) ?_
  refine lv_iadd hx hb dL_law_243 ?_
  refine ar_sldv (v := hh) hx hb hX hbl hbA hS (a + 3) (nI_add a 3) hv3 (by omega) (by omega) dL_law_244 ?_
  refine lv_aload_n hx hb dL_law_245 rfl (lv_at hl 1 rfl) ?_
  refine lv_iload hx hb dL_law_246 (lv_at hl 5 rfl) ?_
  refine lv_iconst (v := (4:Int32)) hx hb dL_law_248 (by decide) ?_
  refine lv_iadd hx hb dL_law_249 ?_
  refine ar_sldv (v := lo) hx hb hX hbl hbA hS (a + 4) (nI_add a 4) hv4 (by omega) (by omega) dL_law_250 ?_
  refine lc_mi (As := [.int (nI i), .int kd, .int hh, .int lo]) (rest := []) (w0' := [(ma, .inr (4, [.ref (d 0), .ref (d 1), .ref (d 2), .ref (d 3), .ref (d 4), .ref (d 5), .ref (d 6), .ref (d 7), .ref (d 8), .ref (d 9), .ref (d 10), .ref (d 11), .ref (d 12), .ref (d 13), .ref (d 14), .ref (d 15), .ref (d 16), .int (m_cd M)])), ((d 5), .inl (G.2.1 0, 4, .inl (m_f5 M)))]) (w1' := [(ma, .inr (4, [.ref (d 0), .ref (d 1), .ref (d 2), .ref (d 3), .ref (d 4), .ref (d 5), .ref (d 6), .ref (d 7), .ref (d 8), .ref (d 9), .ref (d 10), .ref (d 11), .ref (d 12), .ref (d 13), .ref (d 14), .ref (d 15), .ref (d 16), .int (2:Int32)])), ((d 5), .inl (G.2.1 0, 4, .inl (m_f5 M)))]) (M' := ((m_f0 M), (m_f1 M), (m_f2 M), (m_f3 M), (m_f4 M), (m_f5 M), (m_f6 M), (m_f7 M), (m_f8 M), (m_f9 M), (m_f10 M), (m_f11 M), (m_f12 M), (m_f13 M), (m_f14 M), (m_f15 M), (m_f16 M), (2:Int32))) ⟨hx, hb, hml, hown, hts⟩ (kX4_pedalB3 l G ma (d 0) (d 1) (d 2) (d 3) (d 4) (d 5) (d 6) (d 7) (d 8) (d 9) (d 10) (d 11) (d 12) (d 13) (d 14) (d 15) (d 16) (m_cd M) (m_f5 M) i (v_n (V i)) kd hh lo M_hi4 M_hm M_hn M_hkd M_hill) (cwV 4 hts gL_law_X4_pedal rfl rfl rfl (by decide +kernel) ⟨Nat.le_of_ble_eq_true rfl, Nat.le_of_ble_eq_true rfl⟩) hE hK hP hD hS hA hl.1 [0, 6] (by decide) (by decide) rfl rfl rfl rfl rfl (Nat.le_of_ble_eq_true rfl) dL_law_251 ⟨by omega, by omega⟩ (fun H locs hP hD hS => ?_)
  have hP : va_P G.1 vwCl (lawW G ba bw U (setV V i ((v_tr (V i)), (v_dr (V i)), (v_wt (V i)), (v_rd (V i)), (v_gr (V i)), (v_le (V i)), (v_n (V i)), (v_ki (V i)), (v_kn (V i)), (v_on (V i)), (v_ou (V i)), (v_li (V i)), (v_pn (V i)), (v_pki (V i)), (v_pkn (V i)), (v_pon (V i)))) ma d ((m_f0 M), (m_f1 M), (m_f2 M), (m_f3 M), (m_f4 M), (m_f5 M), (m_f6 M), (m_f7 M), (m_f8 M), (m_f9 M), (m_f10 M), (m_f11 M), (m_f12 M), (m_f13 M), (m_f14 M), (m_f15 M), (m_f16 M), (2:Int32)) qo ox) H := hP
  have hD : va_D A (lawW G ba bw U (setV V i ((v_tr (V i)), (v_dr (V i)), (v_wt (V i)), (v_rd (V i)), (v_gr (V i)), (v_le (V i)), (v_n (V i)), (v_ki (V i)), (v_kn (V i)), (v_on (V i)), (v_ou (V i)), (v_li (V i)), (v_pn (V i)), (v_pki (V i)), (v_pkn (V i)), (v_pon (V i)))) ma d ((m_f0 M), (m_f1 M), (m_f2 M), (m_f3 M), (m_f4 M), (m_f5 M), (m_f6 M), (m_f7 M), (m_f8 M), (m_f9 M), (m_f10 M), (m_f11 M), (m_f12 M), (m_f13 M), (m_f14 M), (m_f15 M), (m_f16 M), (2:Int32)) qo ox) := hD
  refine lv_istore (lv' := [(6, .int (0:Int32)), (5, .int (2:Int32)), (0, .ref b), (1, .ref ba), (2, .ref ma), (3, .ref qo), (4, .int (nI a))]) hx hb dL_law_254 hl (by decide) rfl (fun ls hl => ?_)
  refine lv_aload_n hx hb dL_law_256 rfl (lv_at hl 4 rfl) ?_
  refine lc_mi (As := []) (rest := []) (w0' := [(ma, .inr (4, [.ref (d 0), .ref (d 1), .ref (d 2), .ref (d 3), .ref (d 4), .ref (d 5), .ref (d 6), .ref (d 7), .ref (d 8), .ref (d 9), .ref (d 10), .ref (d 11), .ref (d 12), .ref (d 13), .ref (d 14), .ref (d 15), .ref (d 16), .int (m_cd ((m_f0 M), (m_f1 M), (m_f2 M), (m_f3 M), (m_f4 M), (m_f5 M), (m_f6 M), (m_f7 M), (m_f8 M), (m_f9 M), (m_f10 M), (m_f11 M), (m_f12 M), (m_f13 M), (m_f14 M), (m_f15 M), (m_f16 M), (2:Int32)))]))]) (w1' := [(ma, .inr (4, [.ref (d 0), .ref (d 1), .ref (d 2), .ref (d 3), .ref (d 4), .ref (d 5), .ref (d 6), .ref (d 7), .ref (d 8), .ref (d 9), .ref (d 10), .ref (d 11), .ref (d 12), .ref (d 13), .ref (d 14), .ref (d 15), .ref (d 16), .int (m_cd ((m_f0 M), (m_f1 M), (m_f2 M), (m_f3 M), (m_f4 M), (m_f5 M), (m_f6 M), (m_f7 M), (m_f8 M), (m_f9 M), (m_f10 M), (m_f11 M), (m_f12 M), (m_f13 M), (m_f14 M), (m_f15 M), (m_f16 M), (2:Int32)))]))]) (M' := ((m_f0 M), (m_f1 M), (m_f2 M), (m_f3 M), (m_f4 M), (m_f5 M), (m_f6 M), (m_f7 M), (m_f8 M), (m_f9 M), (m_f10 M), (m_f11 M), (m_f12 M), (m_f13 M), (m_f14 M), (m_f15 M), (m_f16 M), (2:Int32))) ⟨hx, hb, hml, hown, hts⟩ (kX4_thrown l G ma (d 0) (d 1) (d 2) (d 3) (d 4) (d 5) (d 6) (d 7) (d 8) (d 9) (d 10) (d 11) (d 12) (d 13) (d 14) (d 15) (d 16) (m_cd ((m_f0 M), (m_f1 M), (m_f2 M), (m_f3 M), (m_f4 M), (m_f5 M), (m_f6 M), (m_f7 M), (m_f8 M), (m_f9 M), (m_f10 M), (m_f11 M), (m_f12 M), (m_f13 M), (m_f14 M), (m_f15 M), (m_f16 M), (2:Int32)))) (cwV 0 hts gL_law_X4_thrown rfl rfl rfl (by decide +kernel) ⟨Nat.le_of_ble_eq_true rfl, Nat.le_of_ble_eq_true rfl⟩) hE hK hP hD hS hA hl.1 [0] (by decide) (by decide) rfl rfl rfl rfl rfl (Nat.le_of_ble_eq_true rfl) dL_law_257 ⟨by omega, by omega⟩ (fun H locs hP hD hS => ?_)
  have hP : va_P G.1 vwCl (lawW G ba bw U (setV V i ((v_tr (V i)), (v_dr (V i)), (v_wt (V i)), (v_rd (V i)), (v_gr (V i)), (v_le (V i)), (v_n (V i)), (v_ki (V i)), (v_kn (V i)), (v_on (V i)), (v_ou (V i)), (v_li (V i)), (v_pn (V i)), (v_pki (V i)), (v_pkn (V i)), (v_pon (V i)))) ma d ((m_f0 M), (m_f1 M), (m_f2 M), (m_f3 M), (m_f4 M), (m_f5 M), (m_f6 M), (m_f7 M), (m_f8 M), (m_f9 M), (m_f10 M), (m_f11 M), (m_f12 M), (m_f13 M), (m_f14 M), (m_f15 M), (m_f16 M), (2:Int32)) qo ox) H := hP
  have hD : va_D A (lawW G ba bw U (setV V i ((v_tr (V i)), (v_dr (V i)), (v_wt (V i)), (v_rd (V i)), (v_gr (V i)), (v_le (V i)), (v_n (V i)), (v_ki (V i)), (v_kn (V i)), (v_on (V i)), (v_ou (V i)), (v_li (V i)), (v_pn (V i)), (v_pki (V i)), (v_pkn (V i)), (v_pon (V i)))) ma d ((m_f0 M), (m_f1 M), (m_f2 M), (m_f3 M), (m_f4 M), (m_f5 M), (m_f6 M), (m_f7 M), (m_f8 M), (m_f9 M), (m_f10 M), (m_f11 M), (m_f12 M), (m_f13 M), (m_f14 M), (m_f15 M), (m_f16 M), (2:Int32)) qo ox) := hD
  refine lv_iload hx hb dL_law_260 (lv_at hl 1 rfl) ?_
  refine bi_eq (tgt := 267) hx hb dL_law_262 (by decide) (fun _ => ?_) (fun h9 => absurd rfl h9)
  refine lv_iload hx hb dL_law_267 (lv_at hl 1 rfl) ?_
  refine bz_ne (tgt := 284) hx hb dL_law_269 (by decide) (fun h9 => absurd h9 (by decide)) (fun _ => ?_)
  refine lv_goto (tgt := 1083) hx hb dL_law_284 (by decide) ?_
  exact kk H locs ls hP hD hS (lv_sub hl [2, 3, 4, 5, 6] rfl)
set_option maxHeartbeats 8000000 in
set_option maxRecDepth 100000 in
theorem cz_turn {p : Program} {e : Env} {s : State} {m : MethodId} {below : List Frame} {meth : Method} {c : Code} {l : Launch} (hl9 : l.stackTraces = false) {b L : Nat} {xs : Nat → Int32} (hL : L ≤ 2560) (C0 : lw_At p s m meth c b L xs) {G : GT} {A : Nat → Prop} (hA : ∀ q : Nat, s.heap.size ≤ q → A q) (hbA : ¬ A b) (hE : Ev G A s s.heap) (hK : va_K G.1 vwCl (gT G) s) {a : Nat} (ha : a + 5 ≤ L) {ba bw ma qo : Nat} {U : Nat → Nat → Nat} {V : Nat → WV} {d : Nat → Nat} {M : MV} {ox : Nat → Int64} {cells slots : Nat} (hc : cells + 1 ≤ room_1.cells) (hsl : slots + 6 ≤ room_1.slots) {H : Heap} {locs : List Loc} {ls : Array Slot} (hP : va_P G.1 vwCl (lawW G ba bw U V ma d M qo ox) H) (hD : va_D A (lawW G ba bw U V ma d M qo ox)) (hS : va_S A s.heap H locs) (hl : lv_has ls 8 [(0, .ref b), (1, .ref ba), (2, .ref ma), (3, .ref qo), (4, .int (nI a))]) (i : Nat) (u : Nat) (hh : Int32) (lo : Int32) (hv1 : xs (a + 1) = (nI i)) (hv2 : xs (a + 2) = (nI u)) (hv3 : xs (a + 3) = hh) (hv4 : xs (a + 4) = lo) (hi4 : i < 4) (L_hwf : (pf4 (U 0 0) (U 1 0) (U 2 0) (U 3 0)) i = some (U i 0)) (L_hu : u < (v_n (V i))) (L_hn : (v_n (V i)) ≤ 12) (L_hill : fX1_isIll i (fX1_codeOf i hh lo) = 0) (M_hm : (m_f5 M) i = nI (v_n (V i))) (M_hn : (v_n (V i)) ≤ 12) (M_hu : u < (v_n (V i))) (M_hill : fX4_isIll (nI i) (fX4_coded (nI i) hh lo) = 0) (hans : ((vp_updL ox 0 (if (fX3_turn i (v_kn (V i)) u hh lo) = 0 then (0:Int64) else (1:Int64))) 0) = (if (fX4_turn (m_f9 M) i u hh lo) = 0 then (0:Int64) else (1:Int64)))
    (kk : ∀ (H : Heap) (locs : List Loc) (ls : Array Slot), va_P G.1 vwCl (lawW G ba bw U (setV V i ((v_tr (V i)), (v_dr (V i)), (v_wt (V i)), (v_rd (V i)), (v_gr (V i)), (v_le (V i)), (v_n (V i)), (v_ki (V i)), (vp_updL (v_kn (V i)) u (fX1_codeOf i hh lo)), (v_on (V i)), (v_ou (V i)), (v_li (V i)), (v_pn (V i)), (v_pki (V i)), (v_pkn (V i)), (v_pon (V i)))) ma d ((m_f0 M), (m_f1 M), (m_f2 M), (m_f3 M), (m_f4 M), (m_f5 M), (m_f6 M), (m_f7 M), (m_f8 M), (vp_updL (m_f9 M) ((12 * i) + u) (fX4_coded (nI i) hh lo)), (m_f10 M), (m_f11 M), (m_f12 M), (m_f13 M), (m_f14 M), (m_f15 M), (m_f16 M), (0:Int32)) qo (vp_updL ox 0 (if (fX3_turn i (v_kn (V i)) u hh lo) = 0 then (0:Int64) else (1:Int64)))) H → va_D A (lawW G ba bw U (setV V i ((v_tr (V i)), (v_dr (V i)), (v_wt (V i)), (v_rd (V i)), (v_gr (V i)), (v_le (V i)), (v_n (V i)), (v_ki (V i)), (vp_updL (v_kn (V i)) u (fX1_codeOf i hh lo)), (v_on (V i)), (v_ou (V i)), (v_li (V i)), (v_pn (V i)), (v_pki (V i)), (v_pkn (V i)), (v_pon (V i)))) ma d ((m_f0 M), (m_f1 M), (m_f2 M), (m_f3 M), (m_f4 M), (m_f5 M), (m_f6 M), (m_f7 M), (m_f8 M), (vp_updL (m_f9 M) ((12 * i) + u) (fX4_coded (nI i) hh lo)), (m_f10 M), (m_f11 M), (m_f12 M), (m_f13 M), (m_f14 M), (m_f15 M), (m_f16 M), (0:Int32)) qo (vp_updL ox 0 (if (fX3_turn i (v_kn (V i)) u hh lo) = 0 then (0:Int64) else (1:Int64)))) → va_S A s.heap H locs → lv_has ls 8 [(0, .ref b), (1, .ref ba), (2, .ref ma), (3, .ref qo), (4, .int (nI a))] → W p l e room_1 s m #[Value.ref b] below meth c H locs (cells + 1) (slots + 6) (lw_Z below #[Value.ref b] s) (F0 m 1083 ls [])) : W p l e room_1 s m #[Value.ref b] below meth c H locs cells slots (lw_Z below #[Value.ref b] s) (F0 m 287 ls []) := by
  obtain ⟨hx, hb, hr, hml, hown, hts, hX, hbl, hlocks, hgv⟩ := id C0
  have hts := fun w h => hts w (wsL_law_in w h)
  have hcR : room_1.cells = 601024 := rfl
  have hsR : room_1.slots = 7293034 := rfl
  have L_hi4 := hi4
  have M_hi4 := hi4
  refine lv_aload_n hx hb dL_law_287 rfl (lv_at hl 1 rfl) ?_
  refine lv_aload_n hx hb dL_law_288 rfl (lv_at hl 0 rfl) ?_
  refine lv_iload hx hb dL_law_289 (lv_at hl 4 rfl) ?_
  refine lv_iconst (v := (1:Int32)) hx hb dL_law_291 (by decide) ?_
  refine lv_iadd hx hb dL_law_292 ?_
  refine ar_sldv (v := (nI i)) hx hb hX hbl hbA hS (a + 1) (nI_add a 1) hv1 (by omega) (by omega) dL_law_293 ?_
  refine lv_aload_n hx hb dL_law_294 rfl (lv_at hl 0 rfl) ?_
  refine lv_iload hx hb dL_law_295 (lv_at hl 4 rfl) ?_
  refine lv_iconst (v := (2:Int32)) hx hb dL_law_297 (by decide) ?_
  refine lv_iadd hx hb dL_law_298 ?_
  refine ar_sldv (v := (nI u)) hx hb hX hbl hbA hS (a + 2) (nI_add a 2) hv2 (by omega) (by omega) dL_law_299 ?_
  refine lv_aload_n hx hb dL_law_300 rfl (lv_at hl 0 rfl) ?_
  refine lv_iload hx hb dL_law_301 (lv_at hl 4 rfl) ?_
  refine lv_iconst (v := (3:Int32)) hx hb dL_law_303 (by decide) ?_
  refine lv_iadd hx hb dL_law_304 ?_
  refine ar_sldv (v := hh) hx hb hX hbl hbA hS (a + 3) (nI_add a 3) hv3 (by omega) (by omega) dL_law_305 ?_
  refine lv_aload_n hx hb dL_law_306 rfl (lv_at hl 0 rfl) ?_
  refine lv_iload hx hb dL_law_307 (lv_at hl 4 rfl) ?_
  refine lv_iconst (v := (4:Int32)) hx hb dL_law_309 (by decide) ?_
  refine lv_iadd hx hb dL_law_310 ?_
  refine ar_sldv (v := lo) hx hb hX hbl hbA hS (a + 4) (nI_add a 4) hv4 (by omega) (by omega) dL_law_311 ?_
  refine lv_aload_n hx hb dL_law_312 rfl (lv_at hl 3 rfl) ?_
  refine lc_b (As := [.ref ba, .int (nI i), .int (nI u), .int hh, .int lo, .ref qo]) (rest := []) (w0' := [((U i 0), .inr (2, [.ref (G.2.2.1 i), .ref (U i 1), .ref (U i 5), .ref (U i 22), .ref (U i 23), .int (v_tr (V i)), .long (v_dr (V i)), .long (v_wt (V i)), .int (nI (v_rd (V i))), .long (v_gr (V i)), .long (v_le (V i))])), ((U i 1), .inr (0, [.ref (U i 2), .ref (U i 3), .ref (U i 4), .int (nI (v_n (V i)))])), ((U i 2), .inl (G.2.1 0, 12, .inl (v_ki (V i)))), ((U i 3), .inl (G.2.1 1, 12, .inr (.inl (v_kn (V i))))), ((U i 4), .inl (G.2.1 2, 12, .inl (v_on (V i))))]) (w1' := [((U i 0), .inr (2, [.ref (G.2.2.1 i), .ref (U i 1), .ref (U i 5), .ref (U i 22), .ref (U i 23), .int (v_tr (V i)), .long (v_dr (V i)), .long (v_wt (V i)), .int (nI (v_rd (V i))), .long (v_gr (V i)), .long (v_le (V i))])), ((U i 1), .inr (0, [.ref (U i 2), .ref (U i 3), .ref (U i 4), .int (nI (v_n (V i)))])), ((U i 2), .inl (G.2.1 0, 12, .inl (v_ki (V i)))), ((U i 3), .inl (G.2.1 1, 12, .inr (.inl (vp_updL (v_kn (V i)) u (fX1_codeOf i hh lo))))), ((U i 4), .inl (G.2.1 2, 12, .inl (v_on (V i))))]) (v' := ((v_tr (V i)), (v_dr (V i)), (v_wt (V i)), (v_rd (V i)), (v_gr (V i)), (v_le (V i)), (v_n (V i)), (v_ki (V i)), (vp_updL (v_kn (V i)) u (fX1_codeOf i hh lo)), (v_on (V i)), (v_ou (V i)), (v_li (V i)), (v_pn (V i)), (v_pki (V i)), (v_pkn (V i)), (v_pon (V i)))) (ox' := (vp_updL ox 0 (if (fX3_turn i (v_kn (V i)) u hh lo) = 0 then (0:Int64) else (1:Int64)))) ⟨hx, hb, hml, hown, hts⟩ (kL_turn l hl9 G ba bw (pf4 (U 0 0) (U 1 0) (U 2 0) (U 3 0)) (U i 0) i (U i 1) (U i 5) (U i 22) (U i 23) (v_tr (V i)) (v_dr (V i)) (v_wt (V i)) (v_rd (V i)) (v_gr (V i)) (v_le (V i)) (U i 2) (U i 3) (U i 4) (v_n (V i)) (v_ki (V i)) (v_kn (V i)) (v_on (V i)) u hh lo qo ox L_hi4 L_hwf L_hu L_hn L_hill) (vx_cwSW 6 hts gL_law_L_turn rfl rfl rfl (by decide +kernel) ⟨Nat.le_of_ble_eq_true rfl, Nat.le_of_ble_eq_true rfl⟩) hE hK hP hD hS hA hl.1 hi4 [0, 1, 2, 3, 4] (nd4 hi4 (by decide)) (by decide) rfl rfl rfl rfl rfl rfl (Nat.le_of_ble_eq_true rfl) dL_law_313 ⟨hc, hsl⟩ (fun H locs hP hD hS => ?_)
  have hP : va_P G.1 vwCl (lawW G ba bw U (setV V i ((v_tr (V i)), (v_dr (V i)), (v_wt (V i)), (v_rd (V i)), (v_gr (V i)), (v_le (V i)), (v_n (V i)), (v_ki (V i)), (vp_updL (v_kn (V i)) u (fX1_codeOf i hh lo)), (v_on (V i)), (v_ou (V i)), (v_li (V i)), (v_pn (V i)), (v_pki (V i)), (v_pkn (V i)), (v_pon (V i)))) ma d M qo (vp_updL ox 0 (if (fX3_turn i (v_kn (V i)) u hh lo) = 0 then (0:Int64) else (1:Int64)))) H := hP
  have hD : va_D A (lawW G ba bw U (setV V i ((v_tr (V i)), (v_dr (V i)), (v_wt (V i)), (v_rd (V i)), (v_gr (V i)), (v_le (V i)), (v_n (V i)), (v_ki (V i)), (vp_updL (v_kn (V i)) u (fX1_codeOf i hh lo)), (v_on (V i)), (v_ou (V i)), (v_li (V i)), (v_pn (V i)), (v_pki (V i)), (v_pkn (V i)), (v_pon (V i)))) ma d M qo (vp_updL ox 0 (if (fX3_turn i (v_kn (V i)) u hh lo) = 0 then (0:Int64) else (1:Int64)))) := hD
  refine lv_istore (lv' := [(5, .int (0:Int32)), (0, .ref b), (1, .ref ba), (2, .ref ma), (3, .ref qo), (4, .int (nI a))]) hx hb dL_law_316 hl (by decide) rfl (fun ls hl => ?_)
  refine lv_aload_n hx hb dL_law_318 rfl (lv_at hl 3 rfl) ?_
  refine lv_aload_n hx hb dL_law_319 rfl (lv_at hl 1 rfl) ?_
  refine lv_iload hx hb dL_law_320 (lv_at hl 5 rfl) ?_
  refine lv_iconst (v := (1:Int32)) hx hb dL_law_322 (by decide) ?_
  refine lv_iadd hx hb dL_law_323 ?_
  refine ar_sldv (v := (nI i)) hx hb hX hbl hbA hS (a + 1) (nI_add a 1) hv1 (by omega) (by omega) dL_law_324 ?_
  refine lv_aload_n hx hb dL_law_325 rfl (lv_at hl 1 rfl) ?_
  refine lv_iload hx hb dL_law_326 (lv_at hl 5 rfl) ?_
  refine lv_iconst (v := (2:Int32)) hx hb dL_law_328 (by decide) ?_
  refine lv_iadd hx hb dL_law_329 ?_
  refine ar_sldv (v := (nI u)) hx hb hX hbl hbA hS (a + 2) (nI_add a 2) hv2 (by omega) (by omega) dL_law_330 ?_
  refine lv_aload_n hx hb dL_law_331 rfl (lv_at hl 1 rfl) ?_
  refine lv_iload hx hb dL_law_332 (lv_at hl 5 rfl) ?_
  refine lv_iconst (v := (3:Int32)) hx hb dL_law_334 (by decide) ?_
  refine lv_iadd hx hb dL_law_335 ?_
  refine ar_sldv (v := hh) hx hb hX hbl hbA hS (a + 3) (nI_add a 3) hv3 (by omega) (by omega) dL_law_336 ?_
  refine lv_aload_n hx hb dL_law_337 rfl (lv_at hl 1 rfl) ?_
  refine lv_iload hx hb dL_law_338 (lv_at hl 5 rfl) ?_
  refine lv_iconst (v := (4:Int32)) hx hb dL_law_340 (by decide) ?_
  refine lv_iadd hx hb dL_law_341 ?_
  refine ar_sldv (v := lo) hx hb hX hbl hbA hS (a + 4) (nI_add a 4) hv4 (by omega) (by omega) dL_law_342 ?_
  refine lc_mi (As := [.int (nI i), .int (nI u), .int hh, .int lo]) (rest := []) (w0' := [(ma, .inr (4, [.ref (d 0), .ref (d 1), .ref (d 2), .ref (d 3), .ref (d 4), .ref (d 5), .ref (d 6), .ref (d 7), .ref (d 8), .ref (d 9), .ref (d 10), .ref (d 11), .ref (d 12), .ref (d 13), .ref (d 14), .ref (d 15), .ref (d 16), .int (m_cd M)])), ((d 5), .inl (G.2.1 0, 4, .inl (m_f5 M))), ((d 9), .inl (G.2.1 1, 48, .inr (.inl (m_f9 M))))]) (w1' := [(ma, .inr (4, [.ref (d 0), .ref (d 1), .ref (d 2), .ref (d 3), .ref (d 4), .ref (d 5), .ref (d 6), .ref (d 7), .ref (d 8), .ref (d 9), .ref (d 10), .ref (d 11), .ref (d 12), .ref (d 13), .ref (d 14), .ref (d 15), .ref (d 16), .int (0:Int32)])), ((d 5), .inl (G.2.1 0, 4, .inl (m_f5 M))), ((d 9), .inl (G.2.1 1, 48, .inr (.inl (vp_updL (m_f9 M) ((12 * i) + u) (fX4_coded (nI i) hh lo)))))]) (M' := ((m_f0 M), (m_f1 M), (m_f2 M), (m_f3 M), (m_f4 M), (m_f5 M), (m_f6 M), (m_f7 M), (m_f8 M), (vp_updL (m_f9 M) ((12 * i) + u) (fX4_coded (nI i) hh lo)), (m_f10 M), (m_f11 M), (m_f12 M), (m_f13 M), (m_f14 M), (m_f15 M), (m_f16 M), (0:Int32))) ⟨hx, hb, hml, hown, hts⟩ (kX4_turn l G ma (d 0) (d 1) (d 2) (d 3) (d 4) (d 5) (d 6) (d 7) (d 8) (d 9) (d 10) (d 11) (d 12) (d 13) (d 14) (d 15) (d 16) (m_cd M) (m_f5 M) (m_f9 M) i (v_n (V i)) u hh lo M_hi4 M_hm M_hn M_hu M_hill) (cwV 4 hts gL_law_X4_turn rfl rfl rfl (by decide +kernel) ⟨Nat.le_of_ble_eq_true rfl, Nat.le_of_ble_eq_true rfl⟩) hE hK hP hD hS hA hl.1 [0, 6, 10] (by decide) (by decide) rfl rfl rfl rfl rfl (Nat.le_of_ble_eq_true rfl) dL_law_343 ⟨by omega, by omega⟩ (fun H locs hP hD hS => ?_)
  have hP : va_P G.1 vwCl (lawW G ba bw U (setV V i ((v_tr (V i)), (v_dr (V i)), (v_wt (V i)), (v_rd (V i)), (v_gr (V i)), (v_le (V i)), (v_n (V i)), (v_ki (V i)), (vp_updL (v_kn (V i)) u (fX1_codeOf i hh lo)), (v_on (V i)), (v_ou (V i)), (v_li (V i)), (v_pn (V i)), (v_pki (V i)), (v_pkn (V i)), (v_pon (V i)))) ma d ((m_f0 M), (m_f1 M), (m_f2 M), (m_f3 M), (m_f4 M), (m_f5 M), (m_f6 M), (m_f7 M), (m_f8 M), (vp_updL (m_f9 M) ((12 * i) + u) (fX4_coded (nI i) hh lo)), (m_f10 M), (m_f11 M), (m_f12 M), (m_f13 M), (m_f14 M), (m_f15 M), (m_f16 M), (0:Int32)) qo (vp_updL ox 0 (if (fX3_turn i (v_kn (V i)) u hh lo) = 0 then (0:Int64) else (1:Int64)))) H := hP
  have hD : va_D A (lawW G ba bw U (setV V i ((v_tr (V i)), (v_dr (V i)), (v_wt (V i)), (v_rd (V i)), (v_gr (V i)), (v_le (V i)), (v_n (V i)), (v_ki (V i)), (vp_updL (v_kn (V i)) u (fX1_codeOf i hh lo)), (v_on (V i)), (v_ou (V i)), (v_li (V i)), (v_pn (V i)), (v_pki (V i)), (v_pkn (V i)), (v_pon (V i)))) ma d ((m_f0 M), (m_f1 M), (m_f2 M), (m_f3 M), (m_f4 M), (m_f5 M), (m_f6 M), (m_f7 M), (m_f8 M), (vp_updL (m_f9 M) ((12 * i) + u) (fX4_coded (nI i) hh lo)), (m_f10 M), (m_f11 M), (m_f12 M), (m_f13 M), (m_f14 M), (m_f15 M), (m_f16 M), (0:Int32)) qo (vp_updL ox 0 (if (fX3_turn i (v_kn (V i)) u hh lo) = 0 then (0:Int64) else (1:Int64)))) := hD
  refine lv_istore (lv' := [(6, .int (fX4_turn (m_f9 M) i u hh lo)), (5, .int (0:Int32)), (0, .ref b), (1, .ref ba), (2, .ref ma), (3, .ref qo), (4, .int (nI a))]) hx hb dL_law_346 hl (by decide) rfl (fun ls hl => ?_)
  refine lv_aload_n hx hb dL_law_348 rfl (lv_at hl 4 rfl) ?_
  refine lc_mi (As := []) (rest := []) (w0' := [(ma, .inr (4, [.ref (d 0), .ref (d 1), .ref (d 2), .ref (d 3), .ref (d 4), .ref (d 5), .ref (d 6), .ref (d 7), .ref (d 8), .ref (d 9), .ref (d 10), .ref (d 11), .ref (d 12), .ref (d 13), .ref (d 14), .ref (d 15), .ref (d 16), .int (m_cd ((m_f0 M), (m_f1 M), (m_f2 M), (m_f3 M), (m_f4 M), (m_f5 M), (m_f6 M), (m_f7 M), (m_f8 M), (vp_updL (m_f9 M) ((12 * i) + u) (fX4_coded (nI i) hh lo)), (m_f10 M), (m_f11 M), (m_f12 M), (m_f13 M), (m_f14 M), (m_f15 M), (m_f16 M), (0:Int32)))]))]) (w1' := [(ma, .inr (4, [.ref (d 0), .ref (d 1), .ref (d 2), .ref (d 3), .ref (d 4), .ref (d 5), .ref (d 6), .ref (d 7), .ref (d 8), .ref (d 9), .ref (d 10), .ref (d 11), .ref (d 12), .ref (d 13), .ref (d 14), .ref (d 15), .ref (d 16), .int (m_cd ((m_f0 M), (m_f1 M), (m_f2 M), (m_f3 M), (m_f4 M), (m_f5 M), (m_f6 M), (m_f7 M), (m_f8 M), (vp_updL (m_f9 M) ((12 * i) + u) (fX4_coded (nI i) hh lo)), (m_f10 M), (m_f11 M), (m_f12 M), (m_f13 M), (m_f14 M), (m_f15 M), (m_f16 M), (0:Int32)))]))]) (M' := ((m_f0 M), (m_f1 M), (m_f2 M), (m_f3 M), (m_f4 M), (m_f5 M), (m_f6 M), (m_f7 M), (m_f8 M), (vp_updL (m_f9 M) ((12 * i) + u) (fX4_coded (nI i) hh lo)), (m_f10 M), (m_f11 M), (m_f12 M), (m_f13 M), (m_f14 M), (m_f15 M), (m_f16 M), (0:Int32))) ⟨hx, hb, hml, hown, hts⟩ (kX4_thrown l G ma (d 0) (d 1) (d 2) (d 3) (d 4) (d 5) (d 6) (d 7) (d 8) (d 9) (d 10) (d 11) (d 12) (d 13) (d 14) (d 15) (d 16) (m_cd ((m_f0 M), (m_f1 M), (m_f2 M), (m_f3 M), (m_f4 M), (m_f5 M), (m_f6 M), (m_f7 M), (m_f8 M), (vp_updL (m_f9 M) ((12 * i) + u) (fX4_coded (nI i) hh lo)), (m_f10 M), (m_f11 M), (m_f12 M), (m_f13 M), (m_f14 M), (m_f15 M), (m_f16 M), (0:Int32)))) (cwV 0 hts gL_law_X4_thrown rfl rfl rfl (by decide +kernel) ⟨Nat.le_of_ble_eq_true rfl, Nat.le_of_ble_eq_true rfl⟩) hE hK hP hD hS hA hl.1 [0] (by decide) (by decide) rfl rfl rfl rfl rfl (Nat.le_of_ble_eq_true rfl) dL_law_349 ⟨by omega, by omega⟩ (fun H locs hP hD hS => ?_)
  have hP : va_P G.1 vwCl (lawW G ba bw U (setV V i ((v_tr (V i)), (v_dr (V i)), (v_wt (V i)), (v_rd (V i)), (v_gr (V i)), (v_le (V i)), (v_n (V i)), (v_ki (V i)), (vp_updL (v_kn (V i)) u (fX1_codeOf i hh lo)), (v_on (V i)), (v_ou (V i)), (v_li (V i)), (v_pn (V i)), (v_pki (V i)), (v_pkn (V i)), (v_pon (V i)))) ma d ((m_f0 M), (m_f1 M), (m_f2 M), (m_f3 M), (m_f4 M), (m_f5 M), (m_f6 M), (m_f7 M), (m_f8 M), (vp_updL (m_f9 M) ((12 * i) + u) (fX4_coded (nI i) hh lo)), (m_f10 M), (m_f11 M), (m_f12 M), (m_f13 M), (m_f14 M), (m_f15 M), (m_f16 M), (0:Int32)) qo (vp_updL ox 0 (if (fX3_turn i (v_kn (V i)) u hh lo) = 0 then (0:Int64) else (1:Int64)))) H := hP
  have hD : va_D A (lawW G ba bw U (setV V i ((v_tr (V i)), (v_dr (V i)), (v_wt (V i)), (v_rd (V i)), (v_gr (V i)), (v_le (V i)), (v_n (V i)), (v_ki (V i)), (vp_updL (v_kn (V i)) u (fX1_codeOf i hh lo)), (v_on (V i)), (v_ou (V i)), (v_li (V i)), (v_pn (V i)), (v_pki (V i)), (v_pkn (V i)), (v_pon (V i)))) ma d ((m_f0 M), (m_f1 M), (m_f2 M), (m_f3 M), (m_f4 M), (m_f5 M), (m_f6 M), (m_f7 M), (m_f8 M), (vp_updL (m_f9 M) ((12 * i) + u) (fX4_coded (nI i) hh lo)), (m_f10 M), (m_f11 M), (m_f12 M), (m_f13 M), (m_f14 M), (m_f15 M), (m_f16 M), (0:Int32)) qo (vp_updL ox 0 (if (fX3_turn i (v_kn (V i)) u hh lo) = 0 then (0:Int64) else (1:Int64)))) := hD
  refine lv_iload hx hb dL_law_352 (lv_at hl 1 rfl) ?_
  refine bi_eq (tgt := 359) hx hb dL_law_354 (by decide) (fun _ => ?_) (fun h9 => absurd rfl h9)
  refine lv_iload hx hb dL_law_359 (lv_at hl 1 rfl) ?_
  refine bz_ne (tgt := 383) hx hb dL_law_361 (by decide) (fun _ => ?_) (fun h9 => absurd rfl h9)
  refine lv_aload_n hx hb dL_law_364 rfl (lv_at hl 5 rfl) ?_
  refine lv_iconst (v := (0:Int32)) hx hb dL_law_365 (by decide) ?_
  refine lw_out hx hb hK hP dL_law_366 ?_
  refine lv_iload hx hb dL_law_367 (lv_at hl 0 rfl) ?_
  refine jn_3 (T := Int64) G A (if (fX4_turn (m_f9 M) i u hh lo) = 0 then (0:Int64) else (1:Int64)) (lawW G ba bw U (setV V i ((v_tr (V i)), (v_dr (V i)), (v_wt (V i)), (v_rd (V i)), (v_gr (V i)), (v_le (V i)), (v_n (V i)), (v_ki (V i)), (vp_updL (v_kn (V i)) u (fX1_codeOf i hh lo)), (v_on (V i)), (v_ou (V i)), (v_li (V i)), (v_pn (V i)), (v_pki (V i)), (v_pkn (V i)), (v_pon (V i)))) ma d ((m_f0 M), (m_f1 M), (m_f2 M), (m_f3 M), (m_f4 M), (m_f5 M), (m_f6 M), (m_f7 M), (m_f8 M), (vp_updL (m_f9 M) ((12 * i) + u) (fX4_coded (nI i) hh lo)), (m_f10 M), (m_f11 M), (m_f12 M), (m_f13 M), (m_f14 M), (m_f15 M), (m_f16 M), (0:Int32)) qo (vp_updL ox 0 (if (fX3_turn i (v_kn (V i)) u hh lo) = 0 then (0:Int64) else (1:Int64)))) 8 ([(6, .int (fX4_turn (m_f9 M) i u hh lo)), (5, .int (0:Int32)), (0, .ref b), (1, .ref ba), (2, .ref ma), (3, .ref qo), (4, .int (nI a))]) (fun y => .long y :: [.long ((vp_updL ox 0 (if (fX3_turn i (v_kn (V i)) u hh lo) = 0 then (0:Int64) else (1:Int64))) 0)]) 377 ?_ ?_
  · intro kj_2
    refine bz_eq (tgt := 376) hx hb dL_law_369 (by decide) (fun c_1 => ?_) (fun c_1 => ?_)
    · refine lv_lconst (v := (0:Int64)) hx hb dL_law_376 (by decide) ?_
      exact kj_2 _ (by rw [if_pos c_1]) _ _ _ hP hD hS hl
    · refine lv_lconst (v := (1:Int64)) hx hb dL_law_372 (by decide) ?_
      refine lv_goto (tgt := 377) hx hb dL_law_373 (by decide) ?_
      exact kj_2 _ (by rw [if_neg c_1]) _ _ _ hP hD hS hl
  · intro y_2 ey_2 H locs ls hP hD hS hl
    refine bl_eq (tgt := 383) hx hb dL_law_377 dL_law_378 (by decide) (fun _ => ?_) (fun h9 => absurd (by rw [ey_2]; exact hans) h9)
    refine lv_goto (tgt := 1083) hx hb dL_law_383 (by decide) ?_
    exact kk H locs ls hP hD hS (lv_sub hl [2, 3, 4, 5, 6] rfl)
set_option maxHeartbeats 8000000 in
set_option maxRecDepth 100000 in
theorem cz_turnX0 {p : Program} {e : Env} {s : State} {m : MethodId} {below : List Frame} {meth : Method} {c : Code} {l : Launch} (hl9 : l.stackTraces = false) {b L : Nat} {xs : Nat → Int32} (hL : L ≤ 2560) (C0 : lw_At p s m meth c b L xs) {G : GT} {A : Nat → Prop} (hA : ∀ q : Nat, s.heap.size ≤ q → A q) (hbA : ¬ A b) (hE : Ev G A s s.heap) (hK : va_K G.1 vwCl (gT G) s) {a : Nat} (ha : a + 5 ≤ L) {ba bw ma qo : Nat} {U : Nat → Nat → Nat} {V : Nat → WV} {d : Nat → Nat} {M : MV} {ox : Nat → Int64} {cells slots : Nat} (hc : cells + 1 ≤ room_1.cells) (hsl : slots + 6 ≤ room_1.slots) {H : Heap} {locs : List Loc} {ls : Array Slot} (hP : va_P G.1 vwCl (lawW G ba bw U V ma d M qo ox) H) (hD : va_D A (lawW G ba bw U V ma d M qo ox)) (hS : va_S A s.heap H locs) (hl : lv_has ls 8 [(0, .ref b), (1, .ref ba), (2, .ref ma), (3, .ref qo), (4, .int (nI a))]) (wi : Int32) (pl : Int32) (hh : Int32) (lo : Int32) (hv1 : xs (a + 1) = wi) (hv2 : xs (a + 2) = pl) (hv3 : xs (a + 3) = hh) (hv4 : xs (a + 4) = lo) (L_hwi : fX3_isWire wi = 0) (M_hwi : fX4_isWire wi = 0)
    (kk : ∀ (H : Heap) (locs : List Loc) (ls : Array Slot), va_P G.1 vwCl (lawW G ba bw U V ma d ((m_f0 M), (m_f1 M), (m_f2 M), (m_f3 M), (m_f4 M), (m_f5 M), (m_f6 M), (m_f7 M), (m_f8 M), (m_f9 M), (m_f10 M), (m_f11 M), (m_f12 M), (m_f13 M), (m_f14 M), (m_f15 M), (m_f16 M), (1:Int32)) qo ox) H → va_D A (lawW G ba bw U V ma d ((m_f0 M), (m_f1 M), (m_f2 M), (m_f3 M), (m_f4 M), (m_f5 M), (m_f6 M), (m_f7 M), (m_f8 M), (m_f9 M), (m_f10 M), (m_f11 M), (m_f12 M), (m_f13 M), (m_f14 M), (m_f15 M), (m_f16 M), (1:Int32)) qo ox) → va_S A s.heap H locs → lv_has ls 8 [(0, .ref b), (1, .ref ba), (2, .ref ma), (3, .ref qo), (4, .int (nI a))] → W p l e room_1 s m #[Value.ref b] below meth c H locs (cells + 1) (slots + 6) (lw_Z below #[Value.ref b] s) (F0 m 1083 ls [])) : W p l e room_1 s m #[Value.ref b] below meth c H locs cells slots (lw_Z below #[Value.ref b] s) (F0 m 287 ls []) := by
  obtain ⟨hx, hb, hr, hml, hown, hts, hX, hbl, hlocks, hgv⟩ := id C0
  have hts := fun w h => hts w (wsL_law_in w h)
  have hcR : room_1.cells = 601024 := rfl
  have hsR : room_1.slots = 7293034 := rfl
  refine lv_aload_n hx hb dL_law_287 rfl (lv_at hl 1 rfl) ?_
  refine lv_aload_n hx hb dL_law_288 rfl (lv_at hl 0 rfl) ?_
  refine lv_iload hx hb dL_law_289 (lv_at hl 4 rfl) ?_
  refine lv_iconst (v := (1:Int32)) hx hb dL_law_291 (by decide) ?_
  refine lv_iadd hx hb dL_law_292 ?_
  refine ar_sldv (v := wi) hx hb hX hbl hbA hS (a + 1) (nI_add a 1) hv1 (by omega) (by omega) dL_law_293 ?_
  refine lv_aload_n hx hb dL_law_294 rfl (lv_at hl 0 rfl) ?_
  refine lv_iload hx hb dL_law_295 (lv_at hl 4 rfl) ?_
  refine lv_iconst (v := (2:Int32)) hx hb dL_law_297 (by decide) ?_
  refine lv_iadd hx hb dL_law_298 ?_
  refine ar_sldv (v := pl) hx hb hX hbl hbA hS (a + 2) (nI_add a 2) hv2 (by omega) (by omega) dL_law_299 ?_
  refine lv_aload_n hx hb dL_law_300 rfl (lv_at hl 0 rfl) ?_
  refine lv_iload hx hb dL_law_301 (lv_at hl 4 rfl) ?_
  refine lv_iconst (v := (3:Int32)) hx hb dL_law_303 (by decide) ?_
  refine lv_iadd hx hb dL_law_304 ?_
  refine ar_sldv (v := hh) hx hb hX hbl hbA hS (a + 3) (nI_add a 3) hv3 (by omega) (by omega) dL_law_305 ?_
  refine lv_aload_n hx hb dL_law_306 rfl (lv_at hl 0 rfl) ?_
  refine lv_iload hx hb dL_law_307 (lv_at hl 4 rfl) ?_
  refine lv_iconst (v := (4:Int32)) hx hb dL_law_309 (by decide) ?_
  refine lv_iadd hx hb dL_law_310 ?_
  refine ar_sldv (v := lo) hx hb hX hbl hbA hS (a + 4) (nI_add a 4) hv4 (by omega) (by omega) dL_law_311 ?_
  refine lv_aload_n hx hb dL_law_312 rfl (lv_at hl 3 rfl) ?_
  refine lc_0 (As := [.ref ba, .int wi, .int pl, .int hh, .int lo, .ref qo]) (rest := []) ⟨hx, hb, hml, hown, hts⟩ (kL_turnX0 l hl9 G ba bw (pf4 (U 0 0) (U 1 0) (U 2 0) (U 3 0)) wi pl hh lo qo ox L_hwi) (vx_cwSW 6 hts gL_law_L_turn rfl rfl rfl (by decide +kernel) ⟨Nat.le_of_ble_eq_true rfl, Nat.le_of_ble_eq_true rfl⟩) hE hK hP hD hS hA hl.1 rfl rfl (Nat.le_of_ble_eq_true rfl) dL_law_313 ⟨hc, hsl⟩ (fun H locs hP hD hS => ?_)
  have hP : va_P G.1 vwCl (lawW G ba bw U V ma d M qo ox) H := hP
  have hD : va_D A (lawW G ba bw U V ma d M qo ox) := hD
  refine lv_istore (lv' := [(5, .int (1:Int32)), (0, .ref b), (1, .ref ba), (2, .ref ma), (3, .ref qo), (4, .int (nI a))]) hx hb dL_law_316 hl (by decide) rfl (fun ls hl => ?_)
  refine lv_aload_n hx hb dL_law_318 rfl (lv_at hl 3 rfl) ?_
  refine lv_aload_n hx hb dL_law_319 rfl (lv_at hl 1 rfl) ?_
  refine lv_iload hx hb dL_law_320 (lv_at hl 5 rfl) ?_
  refine lv_iconst (v := (1:Int32)) hx hb dL_law_322 (by decide) ?_
  refine lv_iadd hx hb dL_law_323 ?_
  refine ar_sldv (v := wi) hx hb hX hbl hbA hS (a + 1) (nI_add a 1) hv1 (by omega) (by omega) dL_law_324 ?_
  refine lv_aload_n hx hb dL_law_325 rfl (lv_at hl 1 rfl) ?_
  refine lv_iload hx hb dL_law_326 (lv_at hl 5 rfl) ?_
  refine lv_iconst (v := (2:Int32)) hx hb dL_law_328 (by decide) ?_
  refine lv_iadd hx hb dL_law_329 ?_
  refine ar_sldv (v := pl) hx hb hX hbl hbA hS (a + 2) (nI_add a 2) hv2 (by omega) (by omega) dL_law_330 ?_
  refine lv_aload_n hx hb dL_law_331 rfl (lv_at hl 1 rfl) ?_
  refine lv_iload hx hb dL_law_332 (lv_at hl 5 rfl) ?_
  refine lv_iconst (v := (3:Int32)) hx hb dL_law_334 (by decide) ?_
  refine lv_iadd hx hb dL_law_335 ?_
  refine ar_sldv (v := hh) hx hb hX hbl hbA hS (a + 3) (nI_add a 3) hv3 (by omega) (by omega) dL_law_336 ?_
  refine lv_aload_n hx hb dL_law_337 rfl (lv_at hl 1 rfl) ?_
  refine lv_iload hx hb dL_law_338 (lv_at hl 5 rfl) ?_
  refine lv_iconst (v := (4:Int32)) hx hb dL_law_340 (by decide) ?_
  refine lv_iadd hx hb dL_law_341 ?_
  refine ar_sldv (v := lo) hx hb hX hbl hbA hS (a + 4) (nI_add a 4) hv4 (by omega) (by omega) dL_law_342 ?_
  refine lc_mi (As := [.int wi, .int pl, .int hh, .int lo]) (rest := []) (w0' := [(ma, .inr (4, [.ref (d 0), .ref (d 1), .ref (d 2), .ref (d 3), .ref (d 4), .ref (d 5), .ref (d 6), .ref (d 7), .ref (d 8), .ref (d 9), .ref (d 10), .ref (d 11), .ref (d 12), .ref (d 13), .ref (d 14), .ref (d 15), .ref (d 16), .int (m_cd M)]))]) (w1' := [(ma, .inr (4, [.ref (d 0), .ref (d 1), .ref (d 2), .ref (d 3), .ref (d 4), .ref (d 5), .ref (d 6), .ref (d 7), .ref (d 8), .ref (d 9), .ref (d 10), .ref (d 11), .ref (d 12), .ref (d 13), .ref (d 14), .ref (d 15), .ref (d 16), .int (1:Int32)]))]) (M' := ((m_f0 M), (m_f1 M), (m_f2 M), (m_f3 M), (m_f4 M), (m_f5 M), (m_f6 M), (m_f7 M), (m_f8 M), (m_f9 M), (m_f10 M), (m_f11 M), (m_f12 M), (m_f13 M), (m_f14 M), (m_f15 M), (m_f16 M), (1:Int32))) ⟨hx, hb, hml, hown, hts⟩ (kX4_turnB0 l G ma (d 0) (d 1) (d 2) (d 3) (d 4) (d 5) (d 6) (d 7) (d 8) (d 9) (d 10) (d 11) (d 12) (d 13) (d 14) (d 15) (d 16) (m_cd M) wi pl hh lo M_hwi) (cwV 4 hts gL_law_X4_turn rfl rfl rfl (by decide +kernel) ⟨Nat.le_of_ble_eq_true rfl, Nat.le_of_ble_eq_true rfl⟩) hE hK hP hD hS hA hl.1 [0] (by decide) (by decide) rfl rfl rfl rfl rfl (Nat.le_of_ble_eq_true rfl) dL_law_343 ⟨by omega, by omega⟩ (fun H locs hP hD hS => ?_)
  have hP : va_P G.1 vwCl (lawW G ba bw U V ma d ((m_f0 M), (m_f1 M), (m_f2 M), (m_f3 M), (m_f4 M), (m_f5 M), (m_f6 M), (m_f7 M), (m_f8 M), (m_f9 M), (m_f10 M), (m_f11 M), (m_f12 M), (m_f13 M), (m_f14 M), (m_f15 M), (m_f16 M), (1:Int32)) qo ox) H := hP
  have hD : va_D A (lawW G ba bw U V ma d ((m_f0 M), (m_f1 M), (m_f2 M), (m_f3 M), (m_f4 M), (m_f5 M), (m_f6 M), (m_f7 M), (m_f8 M), (m_f9 M), (m_f10 M), (m_f11 M), (m_f12 M), (m_f13 M), (m_f14 M), (m_f15 M), (m_f16 M), (1:Int32)) qo ox) := hD
  refine lv_istore (lv' := [(6, .int (0:Int32)), (5, .int (1:Int32)), (0, .ref b), (1, .ref ba), (2, .ref ma), (3, .ref qo), (4, .int (nI a))]) hx hb dL_law_346 hl (by decide) rfl (fun ls hl => ?_)
  refine lv_aload_n hx hb dL_law_348 rfl (lv_at hl 4 rfl) ?_
  refine lc_mi (As := []) (rest := []) (w0' := [(ma, .inr (4, [.ref (d 0), .ref (d 1), .ref (d 2), .ref (d 3), .ref (d 4), .ref (d 5), .ref (d 6), .ref (d 7), .ref (d 8), .ref (d 9), .ref (d 10), .ref (d 11), .ref (d 12), .ref (d 13), .ref (d 14), .ref (d 15), .ref (d 16), .int (m_cd ((m_f0 M), (m_f1 M), (m_f2 M), (m_f3 M), (m_f4 M), (m_f5 M), (m_f6 M), (m_f7 M), (m_f8 M), (m_f9 M), (m_f10 M), (m_f11 M), (m_f12 M), (m_f13 M), (m_f14 M), (m_f15 M), (m_f16 M), (1:Int32)))]))]) (w1' := [(ma, .inr (4, [.ref (d 0), .ref (d 1), .ref (d 2), .ref (d 3), .ref (d 4), .ref (d 5), .ref (d 6), .ref (d 7), .ref (d 8), .ref (d 9), .ref (d 10), .ref (d 11), .ref (d 12), .ref (d 13), .ref (d 14), .ref (d 15), .ref (d 16), .int (m_cd ((m_f0 M), (m_f1 M), (m_f2 M), (m_f3 M), (m_f4 M), (m_f5 M), (m_f6 M), (m_f7 M), (m_f8 M), (m_f9 M), (m_f10 M), (m_f11 M), (m_f12 M), (m_f13 M), (m_f14 M), (m_f15 M), (m_f16 M), (1:Int32)))]))]) (M' := ((m_f0 M), (m_f1 M), (m_f2 M), (m_f3 M), (m_f4 M), (m_f5 M), (m_f6 M), (m_f7 M), (m_f8 M), (m_f9 M), (m_f10 M), (m_f11 M), (m_f12 M), (m_f13 M), (m_f14 M), (m_f15 M), (m_f16 M), (1:Int32))) ⟨hx, hb, hml, hown, hts⟩ (kX4_thrown l G ma (d 0) (d 1) (d 2) (d 3) (d 4) (d 5) (d 6) (d 7) (d 8) (d 9) (d 10) (d 11) (d 12) (d 13) (d 14) (d 15) (d 16) (m_cd ((m_f0 M), (m_f1 M), (m_f2 M), (m_f3 M), (m_f4 M), (m_f5 M), (m_f6 M), (m_f7 M), (m_f8 M), (m_f9 M), (m_f10 M), (m_f11 M), (m_f12 M), (m_f13 M), (m_f14 M), (m_f15 M), (m_f16 M), (1:Int32)))) (cwV 0 hts gL_law_X4_thrown rfl rfl rfl (by decide +kernel) ⟨Nat.le_of_ble_eq_true rfl, Nat.le_of_ble_eq_true rfl⟩) hE hK hP hD hS hA hl.1 [0] (by decide) (by decide) rfl rfl rfl rfl rfl (Nat.le_of_ble_eq_true rfl) dL_law_349 ⟨by omega, by omega⟩ (fun H locs hP hD hS => ?_)
  have hP : va_P G.1 vwCl (lawW G ba bw U V ma d ((m_f0 M), (m_f1 M), (m_f2 M), (m_f3 M), (m_f4 M), (m_f5 M), (m_f6 M), (m_f7 M), (m_f8 M), (m_f9 M), (m_f10 M), (m_f11 M), (m_f12 M), (m_f13 M), (m_f14 M), (m_f15 M), (m_f16 M), (1:Int32)) qo ox) H := hP
  have hD : va_D A (lawW G ba bw U V ma d ((m_f0 M), (m_f1 M), (m_f2 M), (m_f3 M), (m_f4 M), (m_f5 M), (m_f6 M), (m_f7 M), (m_f8 M), (m_f9 M), (m_f10 M), (m_f11 M), (m_f12 M), (m_f13 M), (m_f14 M), (m_f15 M), (m_f16 M), (1:Int32)) qo ox) := hD
  refine lv_iload hx hb dL_law_352 (lv_at hl 1 rfl) ?_
  refine bi_eq (tgt := 359) hx hb dL_law_354 (by decide) (fun _ => ?_) (fun h9 => absurd rfl h9)
  refine lv_iload hx hb dL_law_359 (lv_at hl 1 rfl) ?_
  refine bz_ne (tgt := 383) hx hb dL_law_361 (by decide) (fun h9 => absurd h9 (by decide)) (fun _ => ?_)
  refine lv_goto (tgt := 1083) hx hb dL_law_383 (by decide) ?_
  exact kk H locs ls hP hD hS (lv_sub hl [2, 3, 4, 5, 6] rfl)
set_option maxHeartbeats 8000000 in
set_option maxRecDepth 100000 in
theorem cz_turnX1 {p : Program} {e : Env} {s : State} {m : MethodId} {below : List Frame} {meth : Method} {c : Code} {l : Launch} (hl9 : l.stackTraces = false) {b L : Nat} {xs : Nat → Int32} (hL : L ≤ 2560) (C0 : lw_At p s m meth c b L xs) {G : GT} {A : Nat → Prop} (hA : ∀ q : Nat, s.heap.size ≤ q → A q) (hbA : ¬ A b) (hE : Ev G A s s.heap) (hK : va_K G.1 vwCl (gT G) s) {a : Nat} (ha : a + 5 ≤ L) {ba bw ma qo : Nat} {U : Nat → Nat → Nat} {V : Nat → WV} {d : Nat → Nat} {M : MV} {ox : Nat → Int64} {cells slots : Nat} (hc : cells + 1 ≤ room_1.cells) (hsl : slots + 6 ≤ room_1.slots) {H : Heap} {locs : List Loc} {ls : Array Slot} (hP : va_P G.1 vwCl (lawW G ba bw U V ma d M qo ox) H) (hD : va_D A (lawW G ba bw U V ma d M qo ox)) (hS : va_S A s.heap H locs) (hl : lv_has ls 8 [(0, .ref b), (1, .ref ba), (2, .ref ma), (3, .ref qo), (4, .int (nI a))]) (i : Nat) (pl : Int32) (hh : Int32) (lo : Int32) (hv1 : xs (a + 1) = (nI i)) (hv2 : xs (a + 2) = pl) (hv3 : xs (a + 3) = hh) (hv4 : xs (a + 4) = lo) (hi4 : i < 4) (L_hwf : (pf4 (U 0 0) (U 1 0) (U 2 0) (U 3 0)) i = some (U i 0)) (L_hhas : fX0_has (v_n (V i)) pl = 0) (M_hm : (m_f5 M) i = nI (v_n (V i))) (M_hpl : fX4_isPedal (v_n (V i)) pl = 0)
    (kk : ∀ (H : Heap) (locs : List Loc) (ls : Array Slot), va_P G.1 vwCl (lawW G ba bw U (setV V i ((v_tr (V i)), (v_dr (V i)), (v_wt (V i)), (v_rd (V i)), (v_gr (V i)), (v_le (V i)), (v_n (V i)), (v_ki (V i)), (v_kn (V i)), (v_on (V i)), (v_ou (V i)), (v_li (V i)), (v_pn (V i)), (v_pki (V i)), (v_pkn (V i)), (v_pon (V i)))) ma d ((m_f0 M), (m_f1 M), (m_f2 M), (m_f3 M), (m_f4 M), (m_f5 M), (m_f6 M), (m_f7 M), (m_f8 M), (m_f9 M), (m_f10 M), (m_f11 M), (m_f12 M), (m_f13 M), (m_f14 M), (m_f15 M), (m_f16 M), (1:Int32)) qo ox) H → va_D A (lawW G ba bw U (setV V i ((v_tr (V i)), (v_dr (V i)), (v_wt (V i)), (v_rd (V i)), (v_gr (V i)), (v_le (V i)), (v_n (V i)), (v_ki (V i)), (v_kn (V i)), (v_on (V i)), (v_ou (V i)), (v_li (V i)), (v_pn (V i)), (v_pki (V i)), (v_pkn (V i)), (v_pon (V i)))) ma d ((m_f0 M), (m_f1 M), (m_f2 M), (m_f3 M), (m_f4 M), (m_f5 M), (m_f6 M), (m_f7 M), (m_f8 M), (m_f9 M), (m_f10 M), (m_f11 M), (m_f12 M), (m_f13 M), (m_f14 M), (m_f15 M), (m_f16 M), (1:Int32)) qo ox) → va_S A s.heap H locs → lv_has ls 8 [(0, .ref b), (1, .ref ba), (2, .ref ma), (3, .ref qo), (4, .int (nI a))] → W p l e room_1 s m #[Value.ref b] below meth c H locs (cells + 1) (slots + 6) (lw_Z below #[Value.ref b] s) (F0 m 1083 ls [])) : W p l e room_1 s m #[Value.ref b] below meth c H locs cells slots (lw_Z below #[Value.ref b] s) (F0 m 287 ls []) := by
  obtain ⟨hx, hb, hr, hml, hown, hts, hX, hbl, hlocks, hgv⟩ := id C0
  have hts := fun w h => hts w (wsL_law_in w h)
  have hcR : room_1.cells = 601024 := rfl
  have hsR : room_1.slots = 7293034 := rfl
  have L_hi4 := hi4
  have M_hi4 := hi4
  refine lv_aload_n hx hb dL_law_287 rfl (lv_at hl 1 rfl) ?_
  refine lv_aload_n hx hb dL_law_288 rfl (lv_at hl 0 rfl) ?_
  refine lv_iload hx hb dL_law_289 (lv_at hl 4 rfl) ?_
  refine lv_iconst (v := (1:Int32)) hx hb dL_law_291 (by decide) ?_
  refine lv_iadd hx hb dL_law_292 ?_
  refine ar_sldv (v := (nI i)) hx hb hX hbl hbA hS (a + 1) (nI_add a 1) hv1 (by omega) (by omega) dL_law_293 ?_
  refine lv_aload_n hx hb dL_law_294 rfl (lv_at hl 0 rfl) ?_
  refine lv_iload hx hb dL_law_295 (lv_at hl 4 rfl) ?_
  refine lv_iconst (v := (2:Int32)) hx hb dL_law_297 (by decide) ?_
  refine lv_iadd hx hb dL_law_298 ?_
  refine ar_sldv (v := pl) hx hb hX hbl hbA hS (a + 2) (nI_add a 2) hv2 (by omega) (by omega) dL_law_299 ?_
  refine lv_aload_n hx hb dL_law_300 rfl (lv_at hl 0 rfl) ?_
  refine lv_iload hx hb dL_law_301 (lv_at hl 4 rfl) ?_
  refine lv_iconst (v := (3:Int32)) hx hb dL_law_303 (by decide) ?_
  refine lv_iadd hx hb dL_law_304 ?_
  refine ar_sldv (v := hh) hx hb hX hbl hbA hS (a + 3) (nI_add a 3) hv3 (by omega) (by omega) dL_law_305 ?_
  refine lv_aload_n hx hb dL_law_306 rfl (lv_at hl 0 rfl) ?_
  refine lv_iload hx hb dL_law_307 (lv_at hl 4 rfl) ?_
  refine lv_iconst (v := (4:Int32)) hx hb dL_law_309 (by decide) ?_
  refine lv_iadd hx hb dL_law_310 ?_
  refine ar_sldv (v := lo) hx hb hX hbl hbA hS (a + 4) (nI_add a 4) hv4 (by omega) (by omega) dL_law_311 ?_
  refine lv_aload_n hx hb dL_law_312 rfl (lv_at hl 3 rfl) ?_
  refine lc_b (As := [.ref ba, .int (nI i), .int pl, .int hh, .int lo, .ref qo]) (rest := []) (w0' := [((U i 0), .inr (2, [.ref (G.2.2.1 i), .ref (U i 1), .ref (U i 5), .ref (U i 22), .ref (U i 23), .int (v_tr (V i)), .long (v_dr (V i)), .long (v_wt (V i)), .int (nI (v_rd (V i))), .long (v_gr (V i)), .long (v_le (V i))])), ((U i 1), .inr (0, [.ref (U i 2), .ref (U i 3), .ref (U i 4), .int (nI (v_n (V i)))]))]) (w1' := [((U i 0), .inr (2, [.ref (G.2.2.1 i), .ref (U i 1), .ref (U i 5), .ref (U i 22), .ref (U i 23), .int (v_tr (V i)), .long (v_dr (V i)), .long (v_wt (V i)), .int (nI (v_rd (V i))), .long (v_gr (V i)), .long (v_le (V i))])), ((U i 1), .inr (0, [.ref (U i 2), .ref (U i 3), .ref (U i 4), .int (nI (v_n (V i)))]))]) (v' := ((v_tr (V i)), (v_dr (V i)), (v_wt (V i)), (v_rd (V i)), (v_gr (V i)), (v_le (V i)), (v_n (V i)), (v_ki (V i)), (v_kn (V i)), (v_on (V i)), (v_ou (V i)), (v_li (V i)), (v_pn (V i)), (v_pki (V i)), (v_pkn (V i)), (v_pon (V i)))) (ox' := ox) ⟨hx, hb, hml, hown, hts⟩ (kL_turnX1 l hl9 G ba bw (pf4 (U 0 0) (U 1 0) (U 2 0) (U 3 0)) (U i 0) i (U i 1) (U i 5) (U i 22) (U i 23) (v_tr (V i)) (v_dr (V i)) (v_wt (V i)) (v_rd (V i)) (v_gr (V i)) (v_le (V i)) (U i 2) (U i 3) (U i 4) (v_n (V i)) pl hh lo qo ox L_hi4 L_hwf L_hhas) (vx_cwSW 6 hts gL_law_L_turn rfl rfl rfl (by decide +kernel) ⟨Nat.le_of_ble_eq_true rfl, Nat.le_of_ble_eq_true rfl⟩) hE hK hP hD hS hA hl.1 hi4 [0, 1] (nd4 hi4 (by decide)) (by decide) rfl rfl rfl rfl rfl rfl (Nat.le_of_ble_eq_true rfl) dL_law_313 ⟨hc, hsl⟩ (fun H locs hP hD hS => ?_)
  have hP : va_P G.1 vwCl (lawW G ba bw U (setV V i ((v_tr (V i)), (v_dr (V i)), (v_wt (V i)), (v_rd (V i)), (v_gr (V i)), (v_le (V i)), (v_n (V i)), (v_ki (V i)), (v_kn (V i)), (v_on (V i)), (v_ou (V i)), (v_li (V i)), (v_pn (V i)), (v_pki (V i)), (v_pkn (V i)), (v_pon (V i)))) ma d M qo ox) H := hP
  have hD : va_D A (lawW G ba bw U (setV V i ((v_tr (V i)), (v_dr (V i)), (v_wt (V i)), (v_rd (V i)), (v_gr (V i)), (v_le (V i)), (v_n (V i)), (v_ki (V i)), (v_kn (V i)), (v_on (V i)), (v_ou (V i)), (v_li (V i)), (v_pn (V i)), (v_pki (V i)), (v_pkn (V i)), (v_pon (V i)))) ma d M qo ox) := hD
  refine lv_istore (lv' := [(5, .int (1:Int32)), (0, .ref b), (1, .ref ba), (2, .ref ma), (3, .ref qo), (4, .int (nI a))]) hx hb dL_law_316 hl (by decide) rfl (fun ls hl => ?_)
  refine lv_aload_n hx hb dL_law_318 rfl (lv_at hl 3 rfl) ?_
  refine lv_aload_n hx hb dL_law_319 rfl (lv_at hl 1 rfl) ?_
  refine lv_iload hx hb dL_law_320 (lv_at hl 5 rfl) ?_
  refine lv_iconst (v := (1:Int32)) hx hb dL_law_322 (by decide) ?_
  refine lv_iadd hx hb dL_law_323 ?_
  refine ar_sldv (v := (nI i)) hx hb hX hbl hbA hS (a + 1) (nI_add a 1) hv1 (by omega) (by omega) dL_law_324 ?_
  refine lv_aload_n hx hb dL_law_325 rfl (lv_at hl 1 rfl) ?_
  refine lv_iload hx hb dL_law_326 (lv_at hl 5 rfl) ?_
  refine lv_iconst (v := (2:Int32)) hx hb dL_law_328 (by decide) ?_
  refine lv_iadd hx hb dL_law_329 ?_
  refine ar_sldv (v := pl) hx hb hX hbl hbA hS (a + 2) (nI_add a 2) hv2 (by omega) (by omega) dL_law_330 ?_
  refine lv_aload_n hx hb dL_law_331 rfl (lv_at hl 1 rfl) ?_
  refine lv_iload hx hb dL_law_332 (lv_at hl 5 rfl) ?_
  refine lv_iconst (v := (3:Int32)) hx hb dL_law_334 (by decide) ?_
  refine lv_iadd hx hb dL_law_335 ?_
  refine ar_sldv (v := hh) hx hb hX hbl hbA hS (a + 3) (nI_add a 3) hv3 (by omega) (by omega) dL_law_336 ?_
  refine lv_aload_n hx hb dL_law_337 rfl (lv_at hl 1 rfl) ?_
  refine lv_iload hx hb dL_law_338 (lv_at hl 5 rfl) ?_
  refine lv_iconst (v := (4:Int32)) hx hb dL_law_340 (by decide) ?_
  refine lv_iadd hx hb dL_law_341 ?_
  refine ar_sldv (v := lo) hx hb hX hbl hbA hS (a + 4) (nI_add a 4) hv4 (by omega) (by omega) dL_law_342 ?_
  refine lc_mi (As := [.int (nI i), .int pl, .int hh, .int lo]) (rest := []) (w0' := [(ma, .inr (4, [.ref (d 0), .ref (d 1), .ref (d 2), .ref (d 3), .ref (d 4), .ref (d 5), .ref (d 6), .ref (d 7), .ref (d 8), .ref (d 9), .ref (d 10), .ref (d 11), .ref (d 12), .ref (d 13), .ref (d 14), .ref (d 15), .ref (d 16), .int (m_cd M)])), ((d 5), .inl (G.2.1 0, 4, .inl (m_f5 M)))]) (w1' := [(ma, .inr (4, [.ref (d 0), .ref (d 1), .ref (d 2), .ref (d 3), .ref (d 4), .ref (d 5), .ref (d 6), .ref (d 7), .ref (d 8), .ref (d 9), .ref (d 10), .ref (d 11), .ref (d 12), .ref (d 13), .ref (d 14), .ref (d 15), .ref (d 16), .int (1:Int32)])), ((d 5), .inl (G.2.1 0, 4, .inl (m_f5 M)))]) (M' := ((m_f0 M), (m_f1 M), (m_f2 M), (m_f3 M), (m_f4 M), (m_f5 M), (m_f6 M), (m_f7 M), (m_f8 M), (m_f9 M), (m_f10 M), (m_f11 M), (m_f12 M), (m_f13 M), (m_f14 M), (m_f15 M), (m_f16 M), (1:Int32))) ⟨hx, hb, hml, hown, hts⟩ (kX4_turnB1 l G ma (d 0) (d 1) (d 2) (d 3) (d 4) (d 5) (d 6) (d 7) (d 8) (d 9) (d 10) (d 11) (d 12) (d 13) (d 14) (d 15) (d 16) (m_cd M) (m_f5 M) i (v_n (V i)) pl hh lo M_hi4 M_hm M_hpl) (cwV 4 hts gL_law_X4_turn rfl rfl rfl (by decide +kernel) ⟨Nat.le_of_ble_eq_true rfl, Nat.le_of_ble_eq_true rfl⟩) hE hK hP hD hS hA hl.1 [0, 6] (by decide) (by decide) rfl rfl rfl rfl rfl (Nat.le_of_ble_eq_true rfl) dL_law_343 ⟨by omega, by omega⟩ (fun H locs hP hD hS => ?_)
  have hP : va_P G.1 vwCl (lawW G ba bw U (setV V i ((v_tr (V i)), (v_dr (V i)), (v_wt (V i)), (v_rd (V i)), (v_gr (V i)), (v_le (V i)), (v_n (V i)), (v_ki (V i)), (v_kn (V i)), (v_on (V i)), (v_ou (V i)), (v_li (V i)), (v_pn (V i)), (v_pki (V i)), (v_pkn (V i)), (v_pon (V i)))) ma d ((m_f0 M), (m_f1 M), (m_f2 M), (m_f3 M), (m_f4 M), (m_f5 M), (m_f6 M), (m_f7 M), (m_f8 M), (m_f9 M), (m_f10 M), (m_f11 M), (m_f12 M), (m_f13 M), (m_f14 M), (m_f15 M), (m_f16 M), (1:Int32)) qo ox) H := hP
  have hD : va_D A (lawW G ba bw U (setV V i ((v_tr (V i)), (v_dr (V i)), (v_wt (V i)), (v_rd (V i)), (v_gr (V i)), (v_le (V i)), (v_n (V i)), (v_ki (V i)), (v_kn (V i)), (v_on (V i)), (v_ou (V i)), (v_li (V i)), (v_pn (V i)), (v_pki (V i)), (v_pkn (V i)), (v_pon (V i)))) ma d ((m_f0 M), (m_f1 M), (m_f2 M), (m_f3 M), (m_f4 M), (m_f5 M), (m_f6 M), (m_f7 M), (m_f8 M), (m_f9 M), (m_f10 M), (m_f11 M), (m_f12 M), (m_f13 M), (m_f14 M), (m_f15 M), (m_f16 M), (1:Int32)) qo ox) := hD
  refine lv_istore (lv' := [(6, .int (0:Int32)), (5, .int (1:Int32)), (0, .ref b), (1, .ref ba), (2, .ref ma), (3, .ref qo), (4, .int (nI a))]) hx hb dL_law_346 hl (by decide) rfl (fun ls hl => ?_)
  refine lv_aload_n hx hb dL_law_348 rfl (lv_at hl 4 rfl) ?_
  refine lc_mi (As := []) (rest := []) (w0' := [(ma, .inr (4, [.ref (d 0), .ref (d 1), .ref (d 2), .ref (d 3), .ref (d 4), .ref (d 5), .ref (d 6), .ref (d 7), .ref (d 8), .ref (d 9), .ref (d 10), .ref (d 11), .ref (d 12), .ref (d 13), .ref (d 14), .ref (d 15), .ref (d 16), .int (m_cd ((m_f0 M), (m_f1 M), (m_f2 M), (m_f3 M), (m_f4 M), (m_f5 M), (m_f6 M), (m_f7 M), (m_f8 M), (m_f9 M), (m_f10 M), (m_f11 M), (m_f12 M), (m_f13 M), (m_f14 M), (m_f15 M), (m_f16 M), (1:Int32)))]))]) (w1' := [(ma, .inr (4, [.ref (d 0), .ref (d 1), .ref (d 2), .ref (d 3), .ref (d 4), .ref (d 5), .ref (d 6), .ref (d 7), .ref (d 8), .ref (d 9), .ref (d 10), .ref (d 11), .ref (d 12), .ref (d 13), .ref (d 14), .ref (d 15), .ref (d 16), .int (m_cd ((m_f0 M), (m_f1 M), (m_f2 M), (m_f3 M), (m_f4 M), (m_f5 M), (m_f6 M), (m_f7 M), (m_f8 M), (m_f9 M), (m_f10 M), (m_f11 M), (m_f12 M), (m_f13 M), (m_f14 M), (m_f15 M), (m_f16 M), (1:Int32)))]))]) (M' := ((m_f0 M), (m_f1 M), (m_f2 M), (m_f3 M), (m_f4 M), (m_f5 M), (m_f6 M), (m_f7 M), (m_f8 M), (m_f9 M), (m_f10 M), (m_f11 M), (m_f12 M), (m_f13 M), (m_f14 M), (m_f15 M), (m_f16 M), (1:Int32))) ⟨hx, hb, hml, hown, hts⟩ (kX4_thrown l G ma (d 0) (d 1) (d 2) (d 3) (d 4) (d 5) (d 6) (d 7) (d 8) (d 9) (d 10) (d 11) (d 12) (d 13) (d 14) (d 15) (d 16) (m_cd ((m_f0 M), (m_f1 M), (m_f2 M), (m_f3 M), (m_f4 M), (m_f5 M), (m_f6 M), (m_f7 M), (m_f8 M), (m_f9 M), (m_f10 M), (m_f11 M), (m_f12 M), (m_f13 M), (m_f14 M), (m_f15 M), (m_f16 M), (1:Int32)))) (cwV 0 hts gL_law_X4_thrown rfl rfl rfl (by decide +kernel) ⟨Nat.le_of_ble_eq_true rfl, Nat.le_of_ble_eq_true rfl⟩) hE hK hP hD hS hA hl.1 [0] (by decide) (by decide) rfl rfl rfl rfl rfl (Nat.le_of_ble_eq_true rfl) dL_law_349 ⟨by omega, by omega⟩ (fun H locs hP hD hS => ?_)
  have hP : va_P G.1 vwCl (lawW G ba bw U (setV V i ((v_tr (V i)), (v_dr (V i)), (v_wt (V i)), (v_rd (V i)), (v_gr (V i)), (v_le (V i)), (v_n (V i)), (v_ki (V i)), (v_kn (V i)), (v_on (V i)), (v_ou (V i)), (v_li (V i)), (v_pn (V i)), (v_pki (V i)), (v_pkn (V i)), (v_pon (V i)))) ma d ((m_f0 M), (m_f1 M), (m_f2 M), (m_f3 M), (m_f4 M), (m_f5 M), (m_f6 M), (m_f7 M), (m_f8 M), (m_f9 M), (m_f10 M), (m_f11 M), (m_f12 M), (m_f13 M), (m_f14 M), (m_f15 M), (m_f16 M), (1:Int32)) qo ox) H := hP
  have hD : va_D A (lawW G ba bw U (setV V i ((v_tr (V i)), (v_dr (V i)), (v_wt (V i)), (v_rd (V i)), (v_gr (V i)), (v_le (V i)), (v_n (V i)), (v_ki (V i)), (v_kn (V i)), (v_on (V i)), (v_ou (V i)), (v_li (V i)), (v_pn (V i)), (v_pki (V i)), (v_pkn (V i)), (v_pon (V i)))) ma d ((m_f0 M), (m_f1 M), (m_f2 M), (m_f3 M), (m_f4 M), (m_f5 M), (m_f6 M), (m_f7 M), (m_f8 M), (m_f9 M), (m_f10 M), (m_f11 M), (m_f12 M), (m_f13 M), (m_f14 M), (m_f15 M), (m_f16 M), (1:Int32)) qo ox) := hD
  refine lv_iload hx hb dL_law_352 (lv_at hl 1 rfl) ?_
  refine bi_eq (tgt := 359) hx hb dL_law_354 (by decide) (fun _ => ?_) (fun h9 => absurd rfl h9)
  refine lv_iload hx hb dL_law_359 (lv_at hl 1 rfl) ?_
  refine bz_ne (tgt := 383) hx hb dL_law_361 (by decide) (fun h9 => absurd h9 (by decide)) (fun _ => ?_)
  refine lv_goto (tgt := 1083) hx hb dL_law_383 (by decide) ?_
  exact kk H locs ls hP hD hS (lv_sub hl [2, 3, 4, 5, 6] rfl)
