/-! ===== the law's calls: of its helpers on the board, of the board, of the reference ===== -/
section LC
variable {p : Program} {l : Launch} {e : Env} {R : Room} {s : State} {m : MethodId} {args : Array Value} {below : List Frame} {meth : Method} {c : Code} {H : Heap} {locs : List Loc} {cells slots : Nat} {Q : State → Prop} {G : GT} {A : Nat → Prop} {cc : ByteArray} {pc nL n index maxL : Nat} {ls : Array Slot} {st0 rest As : List Value} {ws ws' w0 w1 : va_W} {y : MethodName} {wsY Ts : List Cond} {rm : Room} {bytes : ByteArray} {ret : Option FieldType} {own C : String} {hh : List (Nat × Nat × Nat × Nat)}
theorem cs_h {r : Int32} (S : CallFix p m c cc nL s args Ts own) (hM : CI1 l y wsY rm G As w0 r w1) (cw : vx_CSW R s args own index y bytes maxL ret hh wsY rm 1 6 n) (hE : Ev G A s s.heap) (hK : va_K G.1 vwCl (gT G) s) (hP : va_P G.1 vwCl ws H) (hD : va_D A ws) (hS : va_S A s.heap H locs) (hA : ∀ q : Nat, s.heap.size ≤ q → A q) (hl : ls.size = nL)
    (isC : List Nat) (hnd : va_nd isC = true) (hC : isC.map (fun i => ws[i]?) = w0.map some) (hadr : w1.map (·.1) = w0.map (·.1)) (hput : sb_puts ws isC w1 = ws') (hn : As.length = n) (hstack : st0 = As.reverse ++ rest) (hW : (rest.map fun v => v.category).sum ≤ 8) (hdg : decode cc pc = .ok (.invokestatic index, 3)) (hf : cells + 1 ≤ R.cells ∧ slots + 6 ≤ R.slots)
    (kk : CKl p l e R s m args below meth c (cells + 1) (slots + 6) Q G A ws' (F0 m (pc + 3) ls (.int r :: rest))) : W p l e R s m args below meth c H locs cells slots Q (F0 m pc ls st0) := by
  obtain ⟨hp, hF⟩ := sb_pre (w0 := w0) hE hK hP hD hS hA isC hnd hC
  refine va_calli (vx_runSW (As := As) (rest := rest) S (hM H.size) cw ⟨Pre0.blind G w0 H.size As, fun U hU hW => ⟨rfl, hp U hU hW⟩⟩ rfl hn hl hstack (lv_room hW) hdg hf) hS (fun q _ h => hF q h) hF (fun r' u t H1 locs1 ht hvm hw hB hz hk hS1 => ?_)
  obtain ⟨hP2, hD2⟩ := sb_join hP hD isC hC hadr hput hk (by rw [← ht]; exact hB.1)
  rw [hw]
  exact kk H1 locs1 hP2 hD2 hS1
variable {ba bw ma qo : Nat} {U : Nat → Nat → Nat} {V : Nat → WV} {d : Nat → Nat} {M : MV} {ox ox' : Nat → Int64} {i : Nat}
abbrev oC (G : GT) (qo : Nat) (ox : Nat → Int64) : va_W := [(qo, .inl (G.2.1 1, 1, .inr (.inl ox)))]
abbrev bC (G : GT) (ba bw : Nat) (U : Nat → Nat → Nat) : va_W := brd G ba bw (pf4 (U 0 0) (U 1 0) (U 2 0) (U 3 0))
theorem lw_pB {js : List Nat} {w : va_W} (h : js.map (fun k => (boardW G ba bw U V)[k]?) = w.map some) : js.map (fun k => (lawW G ba bw U V ma d M qo ox)[k]?) = w.map some := pl_L h
theorem lw_pM {js : List Nat} {w : va_W} (h : js.map (fun k => (modW G ma d M)[k]?) = w.map some) : (js.map (· + 98)).map (fun k => (lawW G ba bw U V ma d M qo ox)[k]?) = w.map some := pl_R rfl (pl_L h)
theorem lw_pO : [116].map (fun k => (lawW G ba bw U V ma d M qo ox)[k]?) = (oC G qo ox).map some := by
  have h : [18].map (fun k => (modW G ma d M ++ oC G qo ox)[k]?) = (oC G qo ox).map some := rfl
  exact pl_R (L := boardW G ba bw U V) (n := 98) rfl h
theorem lw_uB {js : List Nat} {w : va_W} {V' : Nat → WV} (hj : ∀ j ∈ js, j < 98) (h : sb_puts (boardW G ba bw U V) js w = boardW G ba bw U V') : sb_puts (lawW G ba bw U V ma d M qo ox) js w = lawW G ba bw U V' ma d M qo ox := by
  unfold lawW; rw [put_L js w (boardW G ba bw U V) _ hj, h]
theorem lw_uM {js : List Nat} {w : va_W} {M' : MV} (hj : ∀ j ∈ js, j < 18) (h : sb_puts (modW G ma d M) js w = modW G ma d M') : sb_puts (lawW G ba bw U V ma d M qo ox) (js.map (· + 98)) w = lawW G ba bw U V ma d M' qo ox := by
  unfold lawW; rw [put_R js w (boardW G ba bw U V) _ 98 rfl, put_L js w (modW G ma d M) _ hj, h]
theorem lw_uO : sb_puts (lawW G ba bw U V ma d M qo ox) [116] (oC G qo ox') = lawW G ba bw U V ma d M qo ox' := by
  have h := put_R [18] (oC G qo ox') (boardW G ba bw U V) (modW G ma d M ++ oC G qo ox) 98 rfl
  exact h
theorem bd_0 : [0, 1].map (fun k => (boardW G ba bw U V)[k]?) = (bC G ba bw U).map some := rfl
theorem bd_0u : sb_puts (boardW G ba bw U V) [0, 1] (bC G ba bw U) = boardW G ba bw U V := rfl
/-- places of a wire's cells on the board are below 98 -/
theorem wi_lt {js : List Nat} (hi : i < 4) (hj : ∀ j ∈ js, j < 24) : ∀ k ∈ js.map (· + (2 + 24 * i)), k < 98 := by
  intro k hk
  obtain ⟨j, hj1, rfl⟩ := List.mem_map.mp hk
  have := hj j hj1
  show j + (2 + 24 * i) < 98
  omega
/-- a helper's call that works on wire i -/
theorem lc_b {r : Int32} {w0' w1' : va_W} {v' : WV} (S : CallFix p m c cc nL s args Ts own) (hM : CI1 l y wsY rm G As (bC G ba bw U ++ (w0' ++ oC G qo ox)) r (bC G ba bw U ++ (w1' ++ oC G qo ox'))) (cw : vx_CSW R s args own index y bytes maxL ret hh wsY rm 1 6 n) (hE : Ev G A s s.heap) (hK : va_K G.1 vwCl (gT G) s) (hP : va_P G.1 vwCl (lawW G ba bw U V ma d M qo ox) H) (hD : va_D A (lawW G ba bw U V ma d M qo ox)) (hS : va_S A s.heap H locs) (hA : ∀ q : Nat, s.heap.size ≤ q → A q) (hl : ls.size = nL)
    (hi : i < 4) (js : List Nat) (hnd : va_nd ([0, 1] ++ (js.map (· + (2 + 24 * i)) ++ [116])) = true) (hj : ∀ j ∈ js, j < 24) (hC : js.map (fun j => (wireW G i (U i) (V i))[j]?) = w0'.map some) (hadr : w1'.map (·.1) = w0'.map (·.1)) (hput : sb_puts (wireW G i (U i) (V i)) js w1' = wireW G i (U i) v') (hlen : js.length = w1'.length) (hn : As.length = n) (hstack : st0 = As.reverse ++ rest) (hW : (rest.map fun v => v.category).sum ≤ 8) (hdg : decode cc pc = .ok (.invokestatic index, 3)) (hf : cells + 1 ≤ R.cells ∧ slots + 6 ≤ R.slots)
    (kk : CKl p l e R s m args below meth c (cells + 1) (slots + 6) Q G A (lawW G ba bw U (setV V i v') ma d M qo ox') (F0 m (pc + 3) ls (.int r :: rest))) : W p l e R s m args below meth c H locs cells slots Q (F0 m pc ls st0) := by
  refine cs_h S hM cw hE hK hP hD hS hA hl ([0, 1] ++ (js.map (· + (2 + 24 * i)) ++ [116])) hnd (pl_A (lw_pB bd_0) (pl_A (lw_pB (bd_pl hi hC)) lw_pO)) ?_ ?_ hn hstack hW hdg hf kk
  · rw [List.map_append, List.map_append, List.map_append, List.map_append, hadr]; rfl
  · rw [put_A _ _ _ _ _ rfl, put_A _ _ _ _ _ (by rw [List.length_map]; exact hlen), lw_uB (by decide) bd_0u, lw_uB (wi_lt hi hj) (bd_put hi hj hput), lw_uO]
/-- a helper's call that sees no wire -/
theorem lc_0 {r : Int32} (S : CallFix p m c cc nL s args Ts own) (hM : CI1 l y wsY rm G As (bC G ba bw U ++ oC G qo ox) r (bC G ba bw U ++ oC G qo ox)) (cw : vx_CSW R s args own index y bytes maxL ret hh wsY rm 1 6 n) (hE : Ev G A s s.heap) (hK : va_K G.1 vwCl (gT G) s) (hP : va_P G.1 vwCl (lawW G ba bw U V ma d M qo ox) H) (hD : va_D A (lawW G ba bw U V ma d M qo ox)) (hS : va_S A s.heap H locs) (hA : ∀ q : Nat, s.heap.size ≤ q → A q) (hl : ls.size = nL)
    (hn : As.length = n) (hstack : st0 = As.reverse ++ rest) (hW : (rest.map fun v => v.category).sum ≤ 8) (hdg : decode cc pc = .ok (.invokestatic index, 3)) (hf : cells + 1 ≤ R.cells ∧ slots + 6 ≤ R.slots)
    (kk : CKl p l e R s m args below meth c (cells + 1) (slots + 6) Q G A (lawW G ba bw U V ma d M qo ox) (F0 m (pc + 3) ls (.int r :: rest))) : W p l e R s m args below meth c H locs cells slots Q (F0 m pc ls st0) := by
  refine cs_h S hM cw hE hK hP hD hS hA hl ([0, 1] ++ [116]) rfl (pl_A (lw_pB bd_0) lw_pO) rfl ?_ hn hstack hW hdg hf kk
  rw [put_A _ _ _ _ _ rfl, lw_uB (by decide) bd_0u, lw_uO]
/-- a helper's call that works on two wires, the second one changes -/
theorem lc_2 {r : Int32} {k : Nat} {a0 b0 a1 b1 : Nat × va_E} {v1 v' : WV} (S : CallFix p m c cc nL s args Ts own) (hM : CI1 l y wsY rm G As (bC G ba bw U ++ ([a0, b0] ++ oC G qo ox)) r (bC G ba bw U ++ ([a1, b1] ++ oC G qo ox'))) (cw : vx_CSW R s args own index y bytes maxL ret hh wsY rm 1 6 n) (hE : Ev G A s s.heap) (hK : va_K G.1 vwCl (gT G) s) (hP : va_P G.1 vwCl (lawW G ba bw U V ma d M qo ox) H) (hD : va_D A (lawW G ba bw U V ma d M qo ox)) (hS : va_S A s.heap H locs) (hA : ∀ q : Nat, s.heap.size ≤ q → A q) (hl : ls.size = nL)
    (hi : i < 4) (hk : k < 4) (hik : i ≠ k) (hCa : (wireW G i (U i) (V i))[0]? = some a0) (hCb : (wireW G k (U k) (V k))[0]? = some b0) (hadr : [a1, b1].map (·.1) = [a0, b0].map (·.1)) (hput1 : sb_puts (wireW G i (U i) (V i)) [0] [a1] = wireW G i (U i) (V i)) (hput : sb_puts (wireW G k (U k) (V k)) [0] [b1] = wireW G k (U k) v') (hn : As.length = n) (hstack : st0 = As.reverse ++ rest) (hW : (rest.map fun v => v.category).sum ≤ 8) (hdg : decode cc pc = .ok (.invokestatic index, 3)) (hf : cells + 1 ≤ R.cells ∧ slots + 6 ≤ R.slots)
    (kk : CKl p l e R s m args below meth c (cells + 1) (slots + 6) Q G A (lawW G ba bw U (setV V k v') ma d M qo ox') (F0 m (pc + 3) ls (.int r :: rest))) : W p l e R s m args below meth c H locs cells slots Q (F0 m pc ls st0) := by
  have hself : setV V i (V i) = V := by funext j; unfold setV; split <;> simp_all
  refine cs_h S hM cw hE hK hP hD hS hA hl ([0, 1] ++ (([0].map (· + (2 + 24 * i)) ++ [0].map (· + (2 + 24 * k))) ++ [116])) ?_ (pl_A (lw_pB bd_0) (pl_A (pl_A (w1 := [a0]) (w2 := [b0]) (lw_pB (bd_pl hi (by simp [hCa]))) (lw_pB (bd_pl hk (by simp [hCb])))) lw_pO)) ?_ ?_ hn hstack hW hdg hf kk
  · rcases (show i = 0 ∨ i = 1 ∨ i = 2 ∨ i = 3 by omega) with rfl | rfl | rfl | rfl <;> rcases (show k = 0 ∨ k = 1 ∨ k = 2 ∨ k = 3 by omega) with rfl | rfl | rfl | rfl <;> first | exact absurd rfl hik | rfl
  · rw [List.map_append, List.map_append, List.map_append, List.map_append, hadr]; rfl
  · rw [put_A _ _ _ _ _ rfl, put_A _ _ _ _ _ rfl, show ([a1, b1] : va_W) = [a1] ++ [b1] from rfl, put_A _ _ _ _ _ rfl, lw_uB (by decide) bd_0u, lw_uB (wi_lt hi (by decide)) (bd_put hi (by decide) hput1), hself, lw_uB (wi_lt hk (by decide)) (bd_put hk (by decide) hput), lw_uO]
/-- the board's own call (no helper), on wire i: nothing changes -/
theorem lc_v {r : Int32} {w0' : va_W} (S : CallFix p m c cc nL s args Ts own) (hM : CI l y wsY rm G (.ref ba :: As) (bC G ba bw U ++ w0') r (bC G ba bw U ++ w0')) (cw : CallW R s args own RX3 index y bytes maxL ret wsY rm 0 0 n) (hE : Ev G A s s.heap) (hK : va_K G.1 vwCl (gT G) s) (hP : va_P G.1 vwCl (lawW G ba bw U V ma d M qo ox) H) (hD : va_D A (lawW G ba bw U V ma d M qo ox)) (hS : va_S A s.heap H locs) (hA : ∀ q : Nat, s.heap.size ≤ q → A q) (hl : ls.size = nL)
    (hi : i < 4) (js : List Nat) (hnd : va_nd ([0, 1] ++ js.map (· + (2 + 24 * i))) = true) (hj : ∀ j ∈ js, j < 24) (hC : js.map (fun j => (wireW G i (U i) (V i))[j]?) = w0'.map some) (hput : sb_puts (wireW G i (U i) (V i)) js w0' = wireW G i (U i) (V i)) (hn : As.length = n) (hstack : st0 = As.reverse ++ .ref ba :: rest) (hW : (rest.map fun v => v.category).sum ≤ 8) (hdg : decode cc pc = .ok (.invokevirtual index, 3)) (hf : cells ≤ R.cells ∧ slots ≤ R.slots)
    (kk : CKl p l e R s m args below meth c cells slots Q G A (lawW G ba bw U V ma d M qo ox) (F0 m (pc + 3) ls (.int r :: rest))) : W p l e R s m args below meth c H locs cells slots Q (F0 m pc ls st0) := by
  have hself : setV V i (V i) = V := by funext j; unfold setV; split <;> simp_all
  refine cv_i S hM cw (va_recv hK hP (ci := 3) (q0 := 0) rfl rfl) hE hK hP hD hS hA hl ([0, 1] ++ js.map (· + (2 + 24 * i))) hnd (pl_A (lw_pB bd_0) (lw_pB (bd_pl hi hC))) rfl ?_ hn hstack hW hdg hf kk
  rw [put_A _ _ _ _ _ rfl, lw_uB (by decide) bd_0u, lw_uB (wi_lt hi hj) (bd_put hi hj hput), hself]
theorem lc_v0 {r : Int32} (S : CallFix p m c cc nL s args Ts own) (hM : CI l y wsY rm G (.ref ba :: As) (bC G ba bw U) r (bC G ba bw U)) (cw : CallW R s args own RX3 index y bytes maxL ret wsY rm 0 0 n) (hE : Ev G A s s.heap) (hK : va_K G.1 vwCl (gT G) s) (hP : va_P G.1 vwCl (lawW G ba bw U V ma d M qo ox) H) (hD : va_D A (lawW G ba bw U V ma d M qo ox)) (hS : va_S A s.heap H locs) (hA : ∀ q : Nat, s.heap.size ≤ q → A q) (hl : ls.size = nL)
    (hn : As.length = n) (hstack : st0 = As.reverse ++ .ref ba :: rest) (hW : (rest.map fun v => v.category).sum ≤ 8) (hdg : decode cc pc = .ok (.invokevirtual index, 3)) (hf : cells ≤ R.cells ∧ slots ≤ R.slots)
    (kk : CKl p l e R s m args below meth c cells slots Q G A (lawW G ba bw U V ma d M qo ox) (F0 m (pc + 3) ls (.int r :: rest))) : W p l e R s m args below meth c H locs cells slots Q (F0 m pc ls st0) := by
  refine cv_i S hM cw (va_recv hK hP (ci := 3) (q0 := 0) rfl rfl) hE hK hP hD hS hA hl [0, 1] rfl (lw_pB bd_0) rfl ?_ hn hstack hW hdg hf kk
  rw [lw_uB (by decide) bd_0u]
theorem lw_rM (hK : va_K G.1 vwCl (gT G) s) (hP : va_P G.1 vwCl (lawW G ba bw U V ma d M qo ox) H) : ∃ cell : Cell, H[ma]? = some cell ∧ cell.vm.isStatics = false ∧ s.vm.findClass RX4 = some cell.cls := by
  exact va_recv hK hP (ci := 4) (q0 := 98) rfl rfl
/-- the reference's calls -/
theorem lc_mi {r : Int32} {w0' w1' : va_W} {M' : MV} (S : CallFix p m c cc nL s args Ts own) (hM : CI l y wsY rm G (.ref ma :: As) w0' r w1') (cw : CallW R s args own RX4 index y bytes maxL ret wsY rm 0 0 n) (hE : Ev G A s s.heap) (hK : va_K G.1 vwCl (gT G) s) (hP : va_P G.1 vwCl (lawW G ba bw U V ma d M qo ox) H) (hD : va_D A (lawW G ba bw U V ma d M qo ox)) (hS : va_S A s.heap H locs) (hA : ∀ q : Nat, s.heap.size ≤ q → A q) (hl : ls.size = nL)
    (js : List Nat) (hnd : va_nd (js.map (· + 98)) = true) (hj : ∀ j ∈ js, j < 18) (hC : js.map (fun j => (modW G ma d M)[j]?) = w0'.map some) (hadr : w1'.map (·.1) = w0'.map (·.1)) (hput : sb_puts (modW G ma d M) js w1' = modW G ma d M') (hn : As.length = n) (hstack : st0 = As.reverse ++ .ref ma :: rest) (hW : (rest.map fun v => v.category).sum ≤ 8) (hdg : decode cc pc = .ok (.invokevirtual index, 3)) (hf : cells ≤ R.cells ∧ slots ≤ R.slots)
    (kk : CKl p l e R s m args below meth c cells slots Q G A (lawW G ba bw U V ma d M' qo ox) (F0 m (pc + 3) ls (.int r :: rest))) : W p l e R s m args below meth c H locs cells slots Q (F0 m pc ls st0) :=
  cv_i S hM cw (lw_rM hK hP) hE hK hP hD hS hA hl (js.map (· + 98)) hnd (lw_pM hC) hadr (lw_uM hj hput) hn hstack hW hdg hf kk
theorem lc_ml {r : Int64} {w0' w1' : va_W} {M' : MV} (S : CallFix p m c cc nL s args Ts own) (hM : CL l y wsY rm G (.ref ma :: As) w0' r w1') (cw : CallW R s args own RX4 index y bytes maxL ret wsY rm 0 0 n) (hE : Ev G A s s.heap) (hK : va_K G.1 vwCl (gT G) s) (hP : va_P G.1 vwCl (lawW G ba bw U V ma d M qo ox) H) (hD : va_D A (lawW G ba bw U V ma d M qo ox)) (hS : va_S A s.heap H locs) (hA : ∀ q : Nat, s.heap.size ≤ q → A q) (hl : ls.size = nL)
    (js : List Nat) (hnd : va_nd (js.map (· + 98)) = true) (hj : ∀ j ∈ js, j < 18) (hC : js.map (fun j => (modW G ma d M)[j]?) = w0'.map some) (hadr : w1'.map (·.1) = w0'.map (·.1)) (hput : sb_puts (modW G ma d M) js w1' = modW G ma d M') (hn : As.length = n) (hstack : st0 = As.reverse ++ .ref ma :: rest) (hW : (rest.map fun v => v.category).sum ≤ 8) (hdg : decode cc pc = .ok (.invokevirtual index, 3)) (hf : cells ≤ R.cells ∧ slots ≤ R.slots)
    (kk : CKl p l e R s m args below meth c cells slots Q G A (lawW G ba bw U V ma d M' qo ox) (F0 m (pc + 3) ls (.long r :: rest))) : W p l e R s m args below meth c H locs cells slots Q (F0 m pc ls st0) :=
  cv_l S hM cw (lw_rM hK hP) hE hK hP hD hS hA hl (js.map (· + 98)) hnd (lw_pM hC) hadr (lw_uM hj hput) hn hstack hW hdg hf kk
/-- the answer in the row -/
theorem lw_out (hx : p.tables.exec = Jvm.exec) (hb : c.code = cc) (hK : va_K G.1 vwCl (gT G) s) (hP : va_P G.1 vwCl (lawW G ba bw U V ma d M qo ox) H) (hdg : decode cc pc = .ok (.laload, 1)) (kk : W p l e R s m args below meth c H locs cells slots Q (F0 m (pc + 1) ls (.long (ox 0) :: rest))) : W p l e R s m args below meth c H locs cells slots Q (F0 m pc ls (.int (0:Int32) :: .ref qo :: rest)) := by
  exact ar_lld hx hb hK hP 116 rfl 0 rfl (by decide) (by decide) hdg kk
/-- the script's ints by a Nat place -/
theorem ar_sld {H0 : Heap} {b L : Nat} {xs : Nat → Int32} {i : Int32} (hx : p.tables.exec = Jvm.exec) (hb : c.code = cc) (hX : va_X b L xs s H0) (hbl : b < H0.size) (hbA : ¬ A b) (hS : va_S A H0 H locs) (n : Nat) (hi : i = nI n) (hn : n < L) (hL : L < 2 ^ 31) (hdg : decode cc pc = .ok (.iaload, 1)) (kk : W p l e R s m args below meth c H locs cells slots Q (F0 m (pc + 1) ls (.int (xs n) :: rest))) : W p l e R s m args below meth c H locs cells slots Q (F0 m pc ls (.int i :: .ref b :: rest)) := by
  have hc : (nI n).toNatClampNeg = n := nI_clamp (Nat.lt_trans hn hL)
  subst hi
  refine va_sld hx hb hX hbl hbA hS (vp_in_nI hn hL) hdg ?_
  rw [hc]
  exact kk
end LC
