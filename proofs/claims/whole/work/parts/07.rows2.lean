/-! ===== more rows of ours: joins that write, throws ===== -/
section SJ
variable {p : Program} {l : Launch} {e : Env} {R : Room} {s : State} {m : MethodId} {args : Array Value} {below : List Frame} {meth : Method} {c : Code} {H : Heap} {locs : List Loc} {cells slots : Nat} {Q : State → Prop}
theorem jn_2 {T : Type} {g : JFrame} (G : GT) (A : Nat → Prop) (E : T) (ws' : T → va_W) (nL : Nat) (lv : T → List (Nat × Value)) (st : T → List Value) (tgt : Nat) (k : ∀ (y : T), y = E → ∀ (H : Heap) (locs : List Loc) (ls : Array Slot), va_P G.1 vwCl (ws' y) H → va_D A (ws' y) → va_S A s.heap H locs → lv_has ls nL (lv y) → W p l e R s m args below meth c H locs cells slots Q (F0 m tgt ls (st y))) (b : (∀ (y : T), y = E → ∀ (H : Heap) (locs : List Loc) (ls : Array Slot), va_P G.1 vwCl (ws' y) H → va_D A (ws' y) → va_S A s.heap H locs → lv_has ls nL (lv y) → W p l e R s m args below meth c H locs cells slots Q (F0 m tgt ls (st y))) → W p l e R s m args below meth c H locs cells slots Q g) : W p l e R s m args below meth c H locs cells slots Q g := b k
end SJ
section SX
abbrev xA : List Cond := vx_atS RX3 48 "java/lang/IllegalArgumentException" ["java/lang/RuntimeException", "java/lang/Exception"]
abbrev xS : List Cond := vx_atS RX3 65 "java/lang/IllegalStateException" ["java/lang/RuntimeException", "java/lang/Exception"]
theorem xA_no : ∀ w ∈ xA.filter (fun w => !goodWord w), w ∈ [Cond.castable nIAE nIAE, .declares (Bundle.initS "java/lang/RuntimeException"), .declares (Bundle.initS "java/lang/Exception"), .declares (Bundle.initS Bundle.tN)] := by decide +kernel
theorem xS_no : ∀ w ∈ xS.filter (fun w => !goodWord w), w ∈ [Cond.castable nISE nISE, .declares (Bundle.initS "java/lang/RuntimeException"), .declares (Bundle.initS "java/lang/Exception"), .declares (Bundle.initS Bundle.tN)] := by decide +kernel
theorem xA_ot : ∀ w ∈ Cond.classLink RX3 44 nIAE :: Cond.initialized nIAE :: xA, vx_ot w = true := by decide +kernel
theorem xS_ot : ∀ w ∈ Cond.classLink RX3 61 nISE :: Cond.initialized nISE :: xS, vx_ot w = true := by decide +kernel
variable {p : Program} {l : Launch} {e : Env} {R : Room} {s : State} {m : MethodId} {args : Array Value} {below : List Frame} {meth : Method} {c : Code} {H : Heap} {locs : List Loc} {G : GT} {A : Nat → Prop} {cc : ByteArray} {pc is : Nat} {ls : Array Slot} {st0 rest As : List Value} {Ts : List Cond} {text : String} {w0 : va_W}
/-- 'throw new IllegalArgumentException("text")' -/
theorem tx_A (hx : p.tables.exec = Jvm.exec) (hb : c.code = cc) (hl9 : l.stackTraces = false) (htab : ∀ x ∈ c.exceptionTable.toList, False) (hts : ∀ w ∈ Ts, w.before args s = true) (hin : ∀ w ∈ xA.filter goodWord, w ∈ Ts) (hin2 : Cond.classLink RX3 44 nIAE ∈ Ts) (hin3 : Cond.initialized nIAE ∈ Ts) (hown : s.vm.findClass RX3 = some m.cls) (hml : ls.size = c.maxLocals) (hlocks : meth.locks = false) (hE : Ev G A s s.heap) (hS : va_S A s.heap H locs) (htx : (is, text) ∈ sb_txs) (hP : va_P G.1 vwCl w0 H)
    (hR : 6 ≤ R.frames ∧ (rest.map fun v => v.category).sum + 82 ≤ R.locals ∧ 1 ≤ R.cells ∧ 6 ≤ R.slots) (d0 : decode cc pc = .ok (.new 44, 3)) (d3 : decode cc (pc + 3) = .ok (.dup, 1)) (d4 : decode cc (pc + 4) = .ok (.ldc is, 2)) (d6 : decode cc (pc + 6) = .ok (.invokespecial 48, 3)) (d9 : decode cc (pc + 9) = .ok (.athrow, 1)) :
    W p l e R s m args below meth c H locs 0 0 (QX G below args s A w0 nIAE) (F0 m pc ls rest) := by
  obtain ⟨e1, e2, e3, e4, e5, e6, e7, e8, e9, e10, e11⟩ := hE
  refine vx_throwS (A := A) (own := RX3) (cls := nIAE) (names := ["java/lang/RuntimeException", "java/lang/Exception"]) (text := text) (sa := G.2.2.2.1 is) hx hb hl9 hown (by decide +kernel) (by decide +kernel) (hts _ hin2) (hts _ hin3) (e10 _ htx) ?_ xA_ot e8 e9 hS hml d0 d3 d4 d6 d9 (fun x hx => (htab x hx).elim) hR.1 hR.2.1 (by omega) (by omega) hlocks ?_ hS.2.2 (by omega) (by omega)
  · exact vx_hat (fun w hw => hts w (hin w hw)) xA_no (vx_c e11.1.word (vx_c e11.2.2.1.word (vx_c e11.2.2.2.1.word (vx_c e11.2.2.2.2.1.word vx_n))))
  · intro t _ h2 h3
    exact ⟨(), trivial, ⟨rfl, hP.kept (fun k q hk => h3 q.1 (hP k q hk).lt)⟩, Nat.le_trans hS.1 h2, fun q hq hn => (h3 q (Nat.lt_of_lt_of_le hq hS.1)).trans (hS.2.1 q hq hn)⟩
/-- 'throw new IllegalStateException("text")' -/
theorem tx_S (hx : p.tables.exec = Jvm.exec) (hb : c.code = cc) (hl9 : l.stackTraces = false) (htab : ∀ x ∈ c.exceptionTable.toList, False) (hts : ∀ w ∈ Ts, w.before args s = true) (hin : ∀ w ∈ xS.filter goodWord, w ∈ Ts) (hin2 : Cond.classLink RX3 61 nISE ∈ Ts) (hin3 : Cond.initialized nISE ∈ Ts) (hown : s.vm.findClass RX3 = some m.cls) (hml : ls.size = c.maxLocals) (hlocks : meth.locks = false) (hE : Ev G A s s.heap) (hS : va_S A s.heap H locs) (htx : (is, text) ∈ sb_txs) (hP : va_P G.1 vwCl w0 H)
    (hR : 6 ≤ R.frames ∧ (rest.map fun v => v.category).sum + 82 ≤ R.locals ∧ 1 ≤ R.cells ∧ 6 ≤ R.slots) (d0 : decode cc pc = .ok (.new 61, 3)) (d3 : decode cc (pc + 3) = .ok (.dup, 1)) (d4 : decode cc (pc + 4) = .ok (.ldc is, 2)) (d6 : decode cc (pc + 6) = .ok (.invokespecial 65, 3)) (d9 : decode cc (pc + 9) = .ok (.athrow, 1)) :
    W p l e R s m args below meth c H locs 0 0 (QX G below args s A w0 nISE) (F0 m pc ls rest) := by
  obtain ⟨e1, e2, e3, e4, e5, e6, e7, e8, e9, e10, e11⟩ := hE
  refine vx_throwS (A := A) (own := RX3) (cls := nISE) (names := ["java/lang/RuntimeException", "java/lang/Exception"]) (text := text) (sa := G.2.2.2.1 is) hx hb hl9 hown (by decide +kernel) (by decide +kernel) (hts _ hin2) (hts _ hin3) (e10 _ htx) ?_ xS_ot e8 e9 hS hml d0 d3 d4 d6 d9 (fun x hx => (htab x hx).elim) hR.1 hR.2.1 (by omega) (by omega) hlocks ?_ hS.2.2 (by omega) (by omega)
  · exact vx_hat (fun w hw => hts w (hin w hw)) xS_no (vx_c e11.2.1.word (vx_c e11.2.2.1.word (vx_c e11.2.2.2.1.word (vx_c e11.2.2.2.2.1.word vx_n))))
  · intro t _ h2 h3
    exact ⟨(), trivial, ⟨rfl, hP.kept (fun k q hk => h3 q.1 (hP k q hk).lt)⟩, Nat.le_trans hS.1 h2, fun q hq hn => (h3 q (Nat.lt_of_lt_of_le hq hS.1)).trans (hS.2.1 q hq hn)⟩
/-- a call that throws, in a body without a table: it goes on to the caller -/
theorem cs_x {E own : String} {y : MethodName} {wsY : List Cond} {rm : Room} {w1 ws : va_W} {bytes : ByteArray} {maxL n index nL : Nat} {ret : Option FieldType} (S : CallFix p m c cc nL s args Ts own) (hM : CX l y wsY rm G As w1 E) (cw : CallB R s args own index y bytes maxL ret wsY rm 1 6 n ∧ (Cond.static y).before args s = true) (hE : Ev G A s s.heap) (hK : va_K G.1 vwCl (gT G) s) (hP : va_P G.1 vwCl ws H) (hD : va_D A ws) (hS : va_S A s.heap H locs) (hA : ∀ q : Nat, s.heap.size ≤ q → A q) (hl : ls.size = nL)
    (isC : List Nat) (hnd : va_nd isC = true) (hC : isC.map (fun i => ws[i]?) = w1.map some) (hput : sb_puts ws isC w1 = ws) (hn : As.length = n) (hstack : st0 = As.reverse ++ rest) (hW : (rest.map fun v => v.category).sum ≤ 8) (hdg : decode cc pc = .ok (.invokestatic index, 3)) (hf1 : 1 ≤ R.cells) (hf2 : 6 ≤ R.slots) (htab : ∀ x ∈ c.exceptionTable.toList, False) (hlocks : meth.locks = false) :
    W p l e R s m args below meth c H locs 0 0 (QX G below args s A ws E) (F0 m pc ls st0) := by
  obtain ⟨hp, hF⟩ := sb_pre (w0 := w1) hE hK hP hD hS hA isC hnd hC
  intro T hT X
  rcases (vx_runS (As := As) (rest := rest) (g := F0 m pc ls st0) S (hM H.size) cw ⟨Pre0.blind G w1 H.size As, fun U hU hW => ⟨rfl, hp U hU hW⟩⟩ rfl hn hl hstack (lv_room hW) hdg ⟨by omega, by omega⟩) T hT X with ⟨v, st₀, t, T', L, h0, X', hL, e1, e2, hq, st⟩ | ⟨q, st₀, t, T', L, E', ce, h0, X', hL, e1, e2, ⟨u, hp2, hb2, hF2⟩, hce, hcv, hcl, st⟩
  · exact hq.elim
  · obtain ⟨k1, k2, k3⟩ := vx_keep h0 e1 hS (fun q _ h => hF q h) hF hL hF2
    obtain ⟨hP2, hD2⟩ := sb_join hP hD isC hC rfl hput k2 (by rw [e1]; exact hb2.2)
    obtain ⟨t2, a1, b1⟩ := vx_out (pc := pc) (ls := ls) (rest := rest) (l := l) (p := p) (e := e) (R := R) (args := args) (below := below) (E := E') (ce := ce) (q := q) (mc := 1) (ms := 6) (cells := 0 + 1) (slots := 0 + 6) (Qc := fun _ _ _ _ => False) (XC := vx_X (fun (_ : Unit) => True) (fun (E' : String) (_ : Unit) (t : State) => E' = E ∧ va_P G.1 vwCl ws t.heap) A) (free := A) (fun x hx => (htab x hx).elim) hlocks (H := T'.heap) (by rw [e1]; exact hce) hcv hcl (fun t ht _ => ⟨(), trivial, ⟨hb2.1, by rw [ht]; exact hP2⟩, k3.F ht⟩) k3.2.2 (by omega) (by omega) T' rfl X'
    exact ⟨t2, st.trans a1, b1⟩
theorem cv_x {E own C : String} {b : Nat} {y : MethodName} {wsY : List Cond} {rm : Room} {w1 ws : va_W} {bytes : ByteArray} {maxL n index nL : Nat} {ret : Option FieldType} (S : CallFix p m c cc nL s args Ts own) (hM : CX l y wsY rm G (.ref b :: As) w1 E) (cw : CallW R s args own C index y bytes maxL ret wsY rm 1 6 n) (hrec : ∃ cellB : Cell, H[b]? = some cellB ∧ cellB.vm.isStatics = false ∧ s.vm.findClass C = some cellB.cls) (hE : Ev G A s s.heap) (hK : va_K G.1 vwCl (gT G) s) (hP : va_P G.1 vwCl ws H) (hD : va_D A ws) (hS : va_S A s.heap H locs) (hA : ∀ q : Nat, s.heap.size ≤ q → A q) (hl : ls.size = nL)
    (isC : List Nat) (hnd : va_nd isC = true) (hC : isC.map (fun i => ws[i]?) = w1.map some) (hput : sb_puts ws isC w1 = ws) (hn : As.length = n) (hstack : st0 = As.reverse ++ .ref b :: rest) (hW : (rest.map fun v => v.category).sum ≤ 8) (hdg : decode cc pc = .ok (.invokevirtual index, 3)) (hf1 : 1 ≤ R.cells) (hf2 : 6 ≤ R.slots) (htab : ∀ x ∈ c.exceptionTable.toList, False) (hlocks : meth.locks = false) :
    W p l e R s m args below meth c H locs 0 0 (QX G below args s A ws E) (F0 m pc ls st0) := by
  obtain ⟨hp, hF⟩ := sb_pre (w0 := w1) hE hK hP hD hS hA isC hnd hC
  intro T hT X
  rcases (vx_runV (As := As) (rest := rest) (g := F0 m pc ls st0) S (hM H.size) cw ⟨Pre0.blind G w1 H.size _, hrec, fun U hU hW => ⟨rfl, hp U hU hW⟩⟩ rfl hn hl hstack (lv_room hW) hdg ⟨by omega, by omega⟩) T hT X with ⟨v, st₀, t, T', L, h0, X', hL, e1, e2, hq, st⟩ | ⟨q, st₀, t, T', L, E', ce, h0, X', hL, e1, e2, ⟨u, hp2, hb2, hF2⟩, hce, hcv, hcl, st⟩
  · exact hq.elim
  · obtain ⟨k1, k2, k3⟩ := vx_keep h0 e1 hS (fun q _ h => hF q h) hF hL hF2
    obtain ⟨hP2, hD2⟩ := sb_join hP hD isC hC rfl hput k2 (by rw [e1]; exact hb2.2)
    obtain ⟨t2, a1, b1⟩ := vx_out (pc := pc) (ls := ls) (rest := rest) (l := l) (p := p) (e := e) (R := R) (args := args) (below := below) (E := E') (ce := ce) (q := q) (mc := 1) (ms := 6) (cells := 0 + 1) (slots := 0 + 6) (Qc := fun _ _ _ _ => False) (XC := vx_X (fun (_ : Unit) => True) (fun (E' : String) (_ : Unit) (t : State) => E' = E ∧ va_P G.1 vwCl ws t.heap) A) (free := A) (fun x hx => (htab x hx).elim) hlocks (H := T'.heap) (by rw [e1]; exact hce) hcv hcl (fun t ht _ => ⟨(), trivial, ⟨hb2.1, by rw [ht]; exact hP2⟩, k3.F ht⟩) k3.2.2 (by omega) (by omega) T' rfl X'
    exact ⟨t2, st.trans a1, b1⟩
end SX
