/-! ===== the law's helpers: methods with a table of their own; a call that throws, caught here ===== -/
section SH
def CI1 (l : Launch) (y : MethodName) (wsY : List Cond) (rm : Room) (G : GT) (As : List Value) (w0 : va_W) (r : Int32) (w1 : va_W) : Prop := ∀ sz, Met l y wsY rm (va_Pc As (Pre0 G w0 sz)) (Qi0 G w0 sz r w1) 1 6 (va_A w0 sz)
def QI1 (G : GT) (below : List Frame) (args : Array Value) (s : State) (A : Nat → Prop) (r : Int32) (w1 : va_W) : State → Prop := MQ below (va_Qi (fun (r' : Int32) (_ : Unit) => r' = r) (fun (_ : Unit) (t : State) => va_P G.1 vwCl w1 t.heap ∧ va_D A w1) A) args s 1 6 A
theorem en_h {l : Launch} {G : GT} {y : MethodName} {wsY ws' : List Cond} {rm : Room} {As : List Value} {w0 w1 : va_W} {cc : ByteArray} {maxL : Nat} {ret : Option FieldType} {own : String} {hh : List (Nat × Nat × Nat × Nat)} {r : Int32} (hy : plainName y.cls = true) (hw : wsY = Cond.codeWith y cc maxL ret hh :: ws') (ho : y.cls = own) (hn : (lg_sl As).length ≤ maxL)
    (body : ∀ (p : Program) (e : Env) (s : State) (m : MethodId) (below : List Frame) (meth : Method) (c : Code) (A : Nat → Prop) (ls : Array Slot), c.exceptionTable.toList = tableOf hh → p.tables.exec = Jvm.exec → c.code = cc → meth.sig.returnType = ret → (∀ w ∈ wsY, w.before As.toArray s = true) → s.vm.findClass own = some m.cls → c.maxLocals = maxL → meth.locks = false → (∀ q : Nat, s.heap.size ≤ q → A q) → va_K G.1 vwCl (gT G) s → Ev G A s s.heap → va_P G.1 vwCl w0 s.heap → va_D A w0 → va_S A s.heap s.heap [] → lv_has ls maxL (lv_args 0 As) →
      W p l e rm s m As.toArray below meth c s.heap [] 0 0 (QI1 G below As.toArray s A r w1) (F0 m 0 ls [])) : CI1 l y wsY rm G As w0 r w1 := by
  intro sz
  refine va_MetW (cc := cc) (maxL := maxL) (ret := ret) (hh := hh) hy hw ?_
  intro p e s m args below meth c s₁ B hml hv
  obtain ⟨rfl, rfl, hP, hK, hD0, hE⟩ := hv
  have hl := lv_entry As (n := maxL) hn
  have ht := vx_table (x := y) B (atoms_spec (ws := wsY) B.pre _ (by rw [hw]; exact List.mem_cons_self))
  rw [lg_entry_eq]
  exact body p e s m below meth c (va_A w0 s.heap.size) _ ht B.exec B.bytes B.returns (atoms_spec (ws := wsY) B.pre) (by rw [← ho]; exact findClass_of_methodNamed B.named) hml B.notSynchronized (fun q h => Or.inr h) hK hE hP (hD0.self (sz := s.heap.size)) va_S.rf hl
variable {p : Program} {l : Launch} {e : Env} {R : Room} {s : State} {m : MethodId} {args : Array Value} {below : List Frame} {meth : Method} {c : Code} {H : Heap} {locs : List Loc} {cells slots : Nat} {Q : State → Prop} {G : GT} {A : Nat → Prop} {cc : ByteArray} {pc : Nat} {ls : Array Slot} {st0 rest As : List Value} {Ts : List Cond} {w1 : va_W}
theorem rt_h {v r : Int32} (hx : p.tables.exec = Jvm.exec) (hb : c.code = cc) (hr : meth.sig.returnType = some .int) (hlocks : meth.locks = false) (hP : va_P G.1 vwCl w1 H) (hD : va_D A w1) (hS : va_S A s.heap H locs) (hdg : decode cc pc = .ok (.ireturn, 1)) (hv : v = r) (hc : cells ≤ 1) (hs : slots ≤ 6) :
    W p l e R s m args below meth c H locs cells slots (QI1 G below args s A r w1) (F0 m pc ls [.int v]) :=
  W.widen (k := 1) (n := 6) hc hs (W.iret hx hb hr (fun t ht hW => ⟨⟨v, (), rfl, hv, by rw [ht]; exact hP, hD⟩, hS.F ht⟩) hS.2.2 hdg)
theorem cv_c {E own C name : String} {b : Nat} {y : MethodName} {wsY : List Cond} {rm : Room} {ws : va_W} {bytes : ByteArray} {maxL n index nL : Nat} {ret : Option FieldType} (S : CallFix p m c cc nL s args Ts own) (hM : CX l y wsY rm G (.ref b :: As) w1 E) (cw : CallW R s args own C index y bytes maxL ret wsY rm 1 6 n) (hrec : ∃ cellB : Cell, H[b]? = some cellB ∧ cellB.vm.isStatics = false ∧ s.vm.findClass C = some cellB.cls) (hE : Ev G A s s.heap) (hK : va_K G.1 vwCl (gT G) s) (hP : va_P G.1 vwCl ws H) (hD : va_D A ws) (hS : va_S A s.heap H locs) (hA : ∀ q : Nat, s.heap.size ≤ q → A q) (hl : ls.size = nL)
    (isC : List Nat) (hnd : va_nd isC = true) (hC : isC.map (fun i => ws[i]?) = w1.map some) (hput : sb_puts ws isC w1 = ws) (hn : As.length = n) (hstack : st0 = As.reverse ++ .ref b :: rest) (hW : (rest.map fun v => v.category).sum ≤ 8) (hdg : decode cc pc = .ok (.invokevirtual index, 3)) (hf1 : 1 ≤ R.cells) (hf2 : 6 ≤ R.slots)
    (pre : List ExceptionTableEntry) (x : ExceptionTableEntry) (suf : List ExceptionTableEntry) (hsplit : c.exceptionTable.toList = pre ++ x :: suf) (hpass : ∀ z ∈ pre, covers z pc = false ∨ (z.catchType ≠ 0 ∧ ∃ nm : String, (Cond.classLink own z.catchType nm).before args s = true ∧ va_Nc E nm s)) (hcov : covers x pc = true) (h0 : x.catchType ≠ 0)
    (hlink : (Cond.classLink own x.catchType name).before args s = true) (hcast : (Cond.castable E name).before args s = true)
    (kk : ∀ (q9 : Nat) (H : Heap) (locs : List Loc), va_P G.1 vwCl ws H → va_D A ws → va_S A s.heap H locs → W p l e R s m args below meth c H locs 1 6 Q (F0 m x.handlerPc ls [.ref q9])) :
    W p l e R s m args below meth c H locs 0 0 Q (F0 m pc ls st0) := by
  obtain ⟨hp, hF⟩ := sb_pre (w0 := w1) hE hK hP hD hS hA isC hnd hC
  intro T hT X
  rcases (vx_runV (As := As) (rest := rest) (g := F0 m pc ls st0) S (hM H.size) cw ⟨Pre0.blind G w1 H.size _, hrec, fun U hU hW => ⟨rfl, hp U hU hW⟩⟩ rfl hn hl hstack (lv_room hW) hdg ⟨by omega, by omega⟩) T hT X with ⟨v, st₀, t, T', L, h0, X', hL, e1, e2, hq, st⟩ | ⟨q, st₀, t, T', L, E', ce, h0', X', hL, e1, e2, ⟨u, hp2, hb2, hF2⟩, hce, hcv, hcl, st⟩
  · exact hq.elim
  · obtain ⟨k1, k2, k3⟩ := vx_keep h0' e1 hS (fun q _ h => hF q h) hF hL hF2
    obtain ⟨hP2, hD2⟩ := sb_join hP hD isC hC rfl hput k2 (by rw [e1]; exact hb2.2)
    have hEE : E' = E := hb2.1
    subst hEE
    obtain ⟨t2, a1, b1⟩ := cz_catch (pc := pc) (ls := ls) (st := rest) (ce := ce) (q := q) S.2.2.2.1 pre x suf hsplit hpass hcov h0 hlink hcast (H := T'.heap) (by rw [e1]; exact hce) hcv hcl (kk q T'.heap (locs ++ L) hP2 hD2 k3) T' rfl X'
    exact ⟨t2, st.trans a1, b1⟩
end SH
