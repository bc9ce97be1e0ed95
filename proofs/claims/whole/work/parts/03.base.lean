/-! ===== our own base: the context, what stays as it was (enum constants, statics, texts), contracts of one form, their entry, end and call ===== -/
section SB
/-- the context: classes and slots; array classes (0 int, 1 long, 2 boolean, 3 Pedals, 4 Wire); the sorts' addresses; the texts' addresses; the array of the sorts -/
abbrev GT : Type := va_G × (Nat → ClassId) × (Nat → Nat) × (Nat → Nat) × Nat
abbrev gT (G : GT) : List (ClassId × FieldType) := [(G.2.1 0, .int), (G.2.1 1, .long), (G.2.1 2, .boolean), (G.2.1 3, .object RX0), (G.2.1 4, .object RX2)]
def so_bits : Nat → Int32 := fun i => match i with | 0 => 32 | 1 => 64 | 2 => 32 | _ => 64
def so_frac : Nat → Int32 := fun i => match i with | 0 => 0 | 1 => 0 | 2 => 23 | _ => 52
def so_bias : Nat → Int32 := fun i => match i with | 0 => 0 | 1 => 0 | 2 => 127 | _ => 1023
def so_mask : Nat → Int64 := fun i => match i with | 0 => 2147483647 | 1 => 9223372036854775807 | 2 => 2147483647 | _ => 9223372036854775807
def sb_txs : List (Nat × String) := [(46, "no such kind on this wire"), (63, "the wire has all its pedals"), (94, "rounds must be 1 to 50"), (100, "which must be 0 to 3"), (112, "there are no peaks"), (120, "there is no trace"), (163, "no such wire"), (168, "no such pedal"), (170, "no such preset"), (183, "not a number")]
/-- words of a throw that warm tables keep, though they are none of the good ones -/
def ca_at (E : String) (U : State) : Prop := ∃ c : ClassId, U.vm.findClass E = some c ∧ U.vm.assignable c c = true
theorem ca_at.moved {E : String} {u U : State} (hvm : u.vm.Alike U.vm) (h : ca_at E u) : ca_at E U := by
  obtain ⟨c, h1, h2⟩ := h
  exact ⟨c, by rw [hvm.findClass]; exact h1, by rw [hvm.assignable]; exact h2⟩
theorem ca_at.of {E : String} {args : Array Value} {U : State} (h : (Cond.castable E E).before args U = true) : ca_at E U := by
  obtain ⟨c3, c4, h3, h4, h5⟩ := Cond.castable_spec h
  cases Option.some.inj (h3.symm.trans h4)
  exact ⟨c3, h3, h5⟩
theorem ca_at.word {E : String} {args : Array Value} {U : State} (h : ca_at E U) : (Cond.castable E E).before args U = true := by
  obtain ⟨c, h1, h2⟩ := h
  simp [Cond.before, Cond.holds, Cond.value, h1, h2]
def dc_at (y : MethodName) (U : State) : Prop := (Cond.declares y).before #[] U = true
theorem dc_at.of {y : MethodName} {args : Array Value} {U : State} (h : (Cond.declares y).before args U = true) : dc_at y U := va_any rfl h
theorem dc_at.word {y : MethodName} {args : Array Value} {U : State} (h : dc_at y U) : (Cond.declares y).before args U = true := va_any rfl h
theorem dc_at.moved {y : MethodName} {u U : State} (hvm : u.vm.Alike U.vm) (h : dc_at y u) : dc_at y U := by
  have h1 : (Cond.declares y).before #[] (u.setVm U.vm) = true := by
    rw [Cond.declares_setVm hvm]
    exact h
  have e := Cond.onTables_vm (A := #[]) (A' := #[]) (U := u) (U' := U) U.vm (Cond.declares y) rfl
  have hU : U.setVm U.vm = U := rfl
  rw [hU] at e
  unfold dc_at
  rw [← e]
  exact h1
def nIAE : String := "java/lang/IllegalArgumentException"
def nISE : String := "java/lang/IllegalStateException"
/-- what the tables say of a throw beside the good words -/
def Exw (U : State) : Prop := ca_at nIAE U ∧ ca_at nISE U ∧ dc_at (Bundle.initS "java/lang/RuntimeException") U ∧ dc_at (Bundle.initS "java/lang/Exception") U ∧ dc_at (Bundle.initS Bundle.tN) U ∧ va_Nc nISE nIAE U
theorem Exw.moved {u U : State} (hvm : u.vm.Alike U.vm) (h : Exw u) : Exw U := ⟨h.1.moved hvm, h.2.1.moved hvm, h.2.2.1.moved hvm, h.2.2.2.1.moved hvm, h.2.2.2.2.1.moved hvm, va_Nc.moved hvm h.2.2.2.2.2⟩
/-- what lies outside A and stays: the four sorts with their numbers, their array, two statics of the JDK, the texts -/
def Ev (G : GT) (A : Nat → Prop) (U : State) (H : Heap) : Prop :=
  (∀ i : Nat, i < 4 → va_O RX1 (G.2.2.1 i) A U H) ∧ va_Ef 4 RX1 "bits" "I" (fun i => .int (so_bits i)) G.2.2.1 A U H ∧ va_Ef 4 RX1 "fraction" "I" (fun i => .int (so_frac i)) G.2.2.1 A U H ∧ va_Ef 4 RX1 "bias" "I" (fun i => .int (so_bias i)) G.2.2.1 A U H ∧ va_Ef 4 RX1 "sizeMask" "J" (fun i => .long (so_mask i)) G.2.2.1 A U H ∧
  va_Z RX3 "SORTS" "[LPedalBoard$Sort;" (.ref G.2.2.2.2) A U H ∧ va_T (.object RX1) G.2.2.2.2 4 (fun i => .ref (G.2.2.1 i)) A U H ∧
  vx_Zq Bundle.tN "UNASSIGNED_STACK" Bundle.steD A U H ∧ vx_Zq Bundle.tN "SUPPRESSED_SENTINEL" Bundle.listD A U H ∧ (∀ q ∈ sb_txs, vk_R RX3 q.1 q.2 (G.2.2.2.1 q.1) U) ∧ Exw U
theorem Ev.warm {G : GT} {A : Nat → Prop} {s U : State} {H : Heap} (hW : s.WarmedH U.vm) (h : Ev G A s H) : Ev G A U H := by
  obtain ⟨h1, h2, h3, h4, h5, h6, h7, h8, h9, h10, h11⟩ := h
  exact ⟨fun i hi => va_O.moved hW.alike (h1 i hi), va_Ef.moved hW.alike h2, va_Ef.moved hW.alike h3, va_Ef.moved hW.alike h4, va_Ef.moved hW.alike h5, va_Z.moved hW.alike h6, va_T.moved hW.alike h7, vx_Zq.moved hW.alike h8, vx_Zq.moved hW.alike h9, fun q hq => vk_R.warm hW (h10 q hq), h11.moved hW.alike⟩
theorem Ev.same {G : GT} {A : Nat → Prop} {s U : State} {H : Heap} (hv : U.vm = s.vm) (h : Ev G A s H) : Ev G A U H := by
  have ha : s.vm.Alike U.vm := by rw [hv]; exact Vm.Alike.refl _
  obtain ⟨h1, h2, h3, h4, h5, h6, h7, h8, h9, h10, h11⟩ := h
  exact ⟨fun i hi => va_O.moved ha (h1 i hi), va_Ef.moved ha h2, va_Ef.moved ha h3, va_Ef.moved ha h4, va_Ef.moved ha h5, va_Z.moved ha h6, va_T.moved ha h7, vx_Zq.moved ha h8, vx_Zq.moved ha h9, fun q hq => vk_R.same hv (h10 q hq), h11.moved ha⟩
theorem Ev.kept {G : GT} {A : Nat → Prop} {U : State} {H H1 : Heap} (h : Ev G A U H) (hq : ∀ a : Nat, a < H.size → ¬ A a → H1[a]? = H[a]?) : Ev G A U H1 := by
  obtain ⟨h1, h2, h3, h4, h5, h6, h7, h8, h9, h10, h11⟩ := h
  exact ⟨fun i hi => (h1 i hi).kept hq, h2.kept hq, h3.kept hq, h4.kept hq, h5.kept hq, h6.kept hq, h7.kept hq, h8.kept hq, h9.kept hq, h10, h11⟩
theorem Ev.narrow {G : GT} {A B : Nat → Prop} {U : State} {H : Heap} (h : Ev G A U H) (hAB : ∀ q, B q → A q) : Ev G B U H := by
  obtain ⟨h1, h2, h3, h4, h5, h6, h7, h8, h9, h10, h11⟩ := h
  exact ⟨fun i hi => (h1 i hi).narrow hAB, h2.narrow hAB, h3.narrow hAB, h4.narrow hAB, h5.narrow hAB, h6.narrow hAB, h7.narrow hAB, h8.narrow hAB, h9.narrow hAB, h10, h11⟩
/-- a method's start: the cells w0, apart; the tables; what stays -/
def Pre0 (G : GT) (w0 : va_W) (sz : Nat) (U : State) : Prop := U.heap.size = sz ∧ va_P G.1 vwCl w0 U.heap ∧ va_K G.1 vwCl (gT G) U ∧ va_D (fun _ => True) w0 ∧ Ev G (va_A w0 sz) U U.heap
theorem Pre0.blind (G : GT) (w0 : va_W) (sz : Nat) (As : List Value) : FrameBlind (va_Pc As (Pre0 G w0 sz)) := by
  intro a U g mk h
  obtain ⟨h0, h1, h2, h3, h4, h5⟩ := h
  exact ⟨h0, h1, h2, va_K.moved (u := U) (U := U.calling g mk a) (Vm.Alike.refl U.vm) h3, h4, Ev.same (s := U) (U := U.calling g mk a) rfl h5⟩
/-- ends: a long, an int, nothing, a cell; the world w1 -/
abbrev Ql0 (G : GT) (w0 : va_W) (sz : Nat) (r : Int64) (w1 : va_W) := va_Ql (fun (r' : Int64) (_ : Unit) => r' = r) (fun (_ : Unit) (t : State) => va_P G.1 vwCl w1 t.heap ∧ va_D (va_A w0 sz) w1) (va_A w0 sz)
abbrev Qi0 (G : GT) (w0 : va_W) (sz : Nat) (r : Int32) (w1 : va_W) := va_Qi (fun (r' : Int32) (_ : Unit) => r' = r) (fun (_ : Unit) (t : State) => va_P G.1 vwCl w1 t.heap ∧ va_D (va_A w0 sz) w1) (va_A w0 sz)
abbrev Qv0 (G : GT) (w0 : va_W) (sz : Nat) (w1 : va_W) := va_Qv (fun (_ : Unit) => True) (fun (_ : Unit) (t : State) => va_P G.1 vwCl w1 t.heap ∧ va_D (va_A w0 sz) w1) (va_A w0 sz)
abbrev Qr0 (G : GT) (w0 : va_W) (sz : Nat) (r : Nat) (w1 : va_W) := va_Qr (fun (_ : Unit) => True) (fun (_ : Unit) (a : Nat) (t : State) => a = r ∧ va_P G.1 vwCl w1 t.heap ∧ va_D (va_A w0 sz) w1) (va_A w0 sz)
/-- CONTRACTS: from w0 the method returns r, the world is w1 then -/
def CL (l : Launch) (y : MethodName) (wsY : List Cond) (rm : Room) (G : GT) (As : List Value) (w0 : va_W) (r : Int64) (w1 : va_W) : Prop := ∀ sz, Met l y wsY rm (va_Pc As (Pre0 G w0 sz)) (Ql0 G w0 sz r w1) 0 0 (va_A w0 sz)
def CI (l : Launch) (y : MethodName) (wsY : List Cond) (rm : Room) (G : GT) (As : List Value) (w0 : va_W) (r : Int32) (w1 : va_W) : Prop := ∀ sz, Met l y wsY rm (va_Pc As (Pre0 G w0 sz)) (Qi0 G w0 sz r w1) 0 0 (va_A w0 sz)
def CV (l : Launch) (y : MethodName) (wsY : List Cond) (rm : Room) (G : GT) (As : List Value) (w0 : va_W) (w1 : va_W) : Prop := ∀ sz, Met l y wsY rm (va_Pc As (Pre0 G w0 sz)) (Qv0 G w0 sz w1) 0 0 (va_A w0 sz)
def CR (l : Launch) (y : MethodName) (wsY : List Cond) (rm : Room) (G : GT) (As : List Value) (w0 : va_W) (r : Nat) (w1 : va_W) : Prop := ∀ sz, Met l y wsY rm (va_Pc As (Pre0 G w0 sz)) (Qr0 G w0 sz r w1) 0 0 (va_A w0 sz)
/-- .. it throws an E, and the world is what it was -/
def CX (l : Launch) (y : MethodName) (wsY : List Cond) (rm : Room) (G : GT) (As : List Value) (w0 : va_W) (E : String) : Prop := ∀ sz, vx_Met l y wsY rm (va_Pc As (Pre0 G w0 sz)) (fun _ _ _ _ => False) (vx_X (fun (_ : Unit) => True) (fun (E' : String) (_ : Unit) (t : State) => E' = E ∧ va_P G.1 vwCl w0 t.heap) (va_A w0 sz)) 1 6 (va_A w0 sz)
/-- what a body owes at its end -/
def QL (G : GT) (below : List Frame) (args : Array Value) (s : State) (A : Nat → Prop) (r : Int64) (w1 : va_W) : State → Prop := MQ below (va_Ql (fun (r' : Int64) (_ : Unit) => r' = r) (fun (_ : Unit) (t : State) => va_P G.1 vwCl w1 t.heap ∧ va_D A w1) A) args s 0 0 A
def QI (G : GT) (below : List Frame) (args : Array Value) (s : State) (A : Nat → Prop) (r : Int32) (w1 : va_W) : State → Prop := MQ below (va_Qi (fun (r' : Int32) (_ : Unit) => r' = r) (fun (_ : Unit) (t : State) => va_P G.1 vwCl w1 t.heap ∧ va_D A w1) A) args s 0 0 A
def QV (G : GT) (below : List Frame) (args : Array Value) (s : State) (A : Nat → Prop) (w1 : va_W) : State → Prop := MQ below (va_Qv (fun (_ : Unit) => True) (fun (_ : Unit) (t : State) => va_P G.1 vwCl w1 t.heap ∧ va_D A w1) A) args s 0 0 A
def QR (G : GT) (below : List Frame) (args : Array Value) (s : State) (A : Nat → Prop) (r : Nat) (w1 : va_W) : State → Prop := MQ below (va_Qr (fun (_ : Unit) => True) (fun (_ : Unit) (a : Nat) (t : State) => a = r ∧ va_P G.1 vwCl w1 t.heap ∧ va_D A w1) A) args s 0 0 A
def QX (G : GT) (below : List Frame) (args : Array Value) (s : State) (A : Nat → Prop) (w0 : va_W) (E : String) : State → Prop := vx_MQ below (fun _ _ _ _ => False) (vx_X (fun (_ : Unit) => True) (fun (E' : String) (_ : Unit) (t : State) => E' = E ∧ va_P G.1 vwCl w0 t.heap) A) args s 1 6 A
/-- what a body has at its start -/
abbrev Body0 (l : Launch) (G : GT) (own : String) (cc : ByteArray) (maxL : Nat) (ret : Option FieldType) (wsY : List Cond) (rm : Room) (As : List Value) (w0 : va_W) (Qx : (below : List Frame) → (s : State) → (A : Nat → Prop) → State → Prop) : Prop :=
  ∀ (p : Program) (e : Env) (s : State) (m : MethodId) (below : List Frame) (meth : Method) (c : Code) (A : Nat → Prop) (ls : Array Slot), p.tables.exec = Jvm.exec → c.code = cc → meth.sig.returnType = ret → (∀ w ∈ wsY, w.before As.toArray s = true) → s.vm.findClass own = some m.cls → c.maxLocals = maxL → meth.locks = false → (∀ q : Nat, s.heap.size ≤ q → A q) → va_K G.1 vwCl (gT G) s → Ev G A s s.heap → va_P G.1 vwCl w0 s.heap → va_D A w0 → va_S A s.heap s.heap [] → lv_has ls maxL (lv_args 0 As) →
    W p l e rm s m As.toArray below meth c s.heap [] 0 0 (Qx below s A) (F0 m 0 ls [])
section
variable {l : Launch} {G : GT} {y : MethodName} {wsY ws' : List Cond} {rm : Room} {As : List Value} {w0 w1 : va_W} {cc : ByteArray} {maxL : Nat} {ret : Option FieldType} {own : String}
theorem en_l {r : Int64} (hy : plainName y.cls = true) (hw : wsY = Cond.code y cc maxL ret :: ws') (ho : y.cls = own) (hn : (lg_sl As).length ≤ maxL)
    (body : Body0 l G own cc maxL ret wsY rm As w0 (fun below s A => QL G below As.toArray s A r w1)) : CL l y wsY rm G As w0 r w1 := by
  intro sz
  refine Met.ofW (cc := cc) (maxL := maxL) (ret := ret) hy hw ?_
  intro p e s m args below meth c s₁ B hml hv
  obtain ⟨rfl, rfl, hP, hK, hD0, hE⟩ := hv
  have hl := lv_entry As (n := maxL) hn
  rw [lg_entry_eq]
  exact body p e s m below meth c (va_A w0 s.heap.size) _ B.exec B.bytes B.returns (atoms_spec (ws := wsY) B.pre) (by rw [← ho]; exact findClass_of_methodNamed B.named) hml B.notSynchronized (fun q h => Or.inr h) hK hE hP (hD0.self (sz := s.heap.size)) va_S.rf hl
theorem en_i {r : Int32} (hy : plainName y.cls = true) (hw : wsY = Cond.code y cc maxL ret :: ws') (ho : y.cls = own) (hn : (lg_sl As).length ≤ maxL)
    (body : Body0 l G own cc maxL ret wsY rm As w0 (fun below s A => QI G below As.toArray s A r w1)) : CI l y wsY rm G As w0 r w1 := by
  intro sz
  refine Met.ofW (cc := cc) (maxL := maxL) (ret := ret) hy hw ?_
  intro p e s m args below meth c s₁ B hml hv
  obtain ⟨rfl, rfl, hP, hK, hD0, hE⟩ := hv
  have hl := lv_entry As (n := maxL) hn
  rw [lg_entry_eq]
  exact body p e s m below meth c (va_A w0 s.heap.size) _ B.exec B.bytes B.returns (atoms_spec (ws := wsY) B.pre) (by rw [← ho]; exact findClass_of_methodNamed B.named) hml B.notSynchronized (fun q h => Or.inr h) hK hE hP (hD0.self (sz := s.heap.size)) va_S.rf hl
theorem en_v (hy : plainName y.cls = true) (hw : wsY = Cond.code y cc maxL ret :: ws') (ho : y.cls = own) (hn : (lg_sl As).length ≤ maxL)
    (body : Body0 l G own cc maxL ret wsY rm As w0 (fun below s A => QV G below As.toArray s A w1)) : CV l y wsY rm G As w0 w1 := by
  intro sz
  refine Met.ofW (cc := cc) (maxL := maxL) (ret := ret) hy hw ?_
  intro p e s m args below meth c s₁ B hml hv
  obtain ⟨rfl, rfl, hP, hK, hD0, hE⟩ := hv
  have hl := lv_entry As (n := maxL) hn
  rw [lg_entry_eq]
  exact body p e s m below meth c (va_A w0 s.heap.size) _ B.exec B.bytes B.returns (atoms_spec (ws := wsY) B.pre) (by rw [← ho]; exact findClass_of_methodNamed B.named) hml B.notSynchronized (fun q h => Or.inr h) hK hE hP (hD0.self (sz := s.heap.size)) va_S.rf hl
theorem en_r {r : Nat} (hy : plainName y.cls = true) (hw : wsY = Cond.code y cc maxL ret :: ws') (ho : y.cls = own) (hn : (lg_sl As).length ≤ maxL)
    (body : Body0 l G own cc maxL ret wsY rm As w0 (fun below s A => QR G below As.toArray s A r w1)) : CR l y wsY rm G As w0 r w1 := by
  intro sz
  refine Met.ofW (cc := cc) (maxL := maxL) (ret := ret) hy hw ?_
  intro p e s m args below meth c s₁ B hml hv
  obtain ⟨rfl, rfl, hP, hK, hD0, hE⟩ := hv
  have hl := lv_entry As (n := maxL) hn
  rw [lg_entry_eq]
  exact body p e s m below meth c (va_A w0 s.heap.size) _ B.exec B.bytes B.returns (atoms_spec (ws := wsY) B.pre) (by rw [← ho]; exact findClass_of_methodNamed B.named) hml B.notSynchronized (fun q h => Or.inr h) hK hE hP (hD0.self (sz := s.heap.size)) va_S.rf hl
/-- a body that throws: no table of its own -/
theorem en_x {E : String} (hy : plainName y.cls = true) (hw : wsY = Cond.code y cc maxL ret :: ws') (ho : y.cls = own) (hn : (lg_sl As).length ≤ maxL)
    (body : ∀ (p : Program) (e : Env) (s : State) (m : MethodId) (below : List Frame) (meth : Method) (c : Code) (A : Nat → Prop) (ls : Array Slot), (∀ x ∈ c.exceptionTable.toList, False) → p.tables.exec = Jvm.exec → c.code = cc → meth.sig.returnType = ret → (∀ w ∈ wsY, w.before As.toArray s = true) → s.vm.findClass own = some m.cls → c.maxLocals = maxL → meth.locks = false → (∀ q : Nat, s.heap.size ≤ q → A q) → va_K G.1 vwCl (gT G) s → Ev G A s s.heap → va_P G.1 vwCl w0 s.heap → va_D A w0 → va_S A s.heap s.heap [] → lv_has ls maxL (lv_args 0 As) →
      W p l e rm s m As.toArray below meth c s.heap [] 0 0 (QX G below As.toArray s A w0 E) (F0 m 0 ls [])) : CX l y wsY rm G As w0 E := by
  intro sz
  refine vx_ofW (cc := cc) (maxL := maxL) (ret := ret) hy hw ?_
  intro p e s m args below meth c s₁ B hml ht hv
  obtain ⟨rfl, rfl, hP, hK, hD0, hE⟩ := hv
  have hl := lv_entry As (n := maxL) hn
  rw [lg_entry_eq]
  exact body p e s m below meth c (va_A w0 s.heap.size) _ ht B.exec B.bytes B.returns (atoms_spec (ws := wsY) B.pre) (by rw [← ho]; exact findClass_of_methodNamed B.named) hml B.notSynchronized (fun q h => Or.inr h) hK hE hP (hD0.self (sz := s.heap.size)) va_S.rf hl
end
section
variable {p : Program} {l : Launch} {e : Env} {R : Room} {s : State} {m : MethodId} {args : Array Value} {below : List Frame} {meth : Method} {c : Code} {H : Heap} {locs : List Loc} {G : GT} {A : Nat → Prop} {w1 : va_W} {cc : ByteArray} {pc : Nat} {ls : Array Slot}
theorem rt_l {v r : Int64} (hx : p.tables.exec = Jvm.exec) (hb : c.code = cc) (hr : meth.sig.returnType = some .long) (hlocks : meth.locks = false) (hP : va_P G.1 vwCl w1 H) (hD : va_D A w1) (hS : va_S A s.heap H locs) (hdg : decode cc pc = .ok (.lreturn, 1)) (hv : v = r) :
    W p l e R s m args below meth c H locs 0 0 (QL G below args s A r w1) (F0 m pc ls [.long v]) :=
  W.lret hx hb hr (fun t ht hW => ⟨⟨v, (), rfl, hv, by rw [ht]; exact hP, hD⟩, hS.F ht⟩) hS.2.2 hdg
theorem rt_i {v r : Int32} (hx : p.tables.exec = Jvm.exec) (hb : c.code = cc) (hr : meth.sig.returnType = some .int) (hlocks : meth.locks = false) (hP : va_P G.1 vwCl w1 H) (hD : va_D A w1) (hS : va_S A s.heap H locs) (hdg : decode cc pc = .ok (.ireturn, 1)) (hv : v = r) :
    W p l e R s m args below meth c H locs 0 0 (QI G below args s A r w1) (F0 m pc ls [.int v]) :=
  W.iret hx hb hr (fun t ht hW => ⟨⟨v, (), rfl, hv, by rw [ht]; exact hP, hD⟩, hS.F ht⟩) hS.2.2 hdg
theorem rt_z {v r : Int32} (hx : p.tables.exec = Jvm.exec) (hb : c.code = cc) (hr : meth.sig.returnType = some .boolean) (hlocks : meth.locks = false) (hP : va_P G.1 vwCl w1 H) (hD : va_D A w1) (hS : va_S A s.heap H locs) (hdg : decode cc pc = .ok (.ireturn, 1)) (hv : v = r) (hn : narrow .boolean (.int v) = .int v) :
    W p l e R s m args below meth c H locs 0 0 (QI G below args s A r w1) (F0 m pc ls [.int v]) :=
  W.zret hx hb hr hn (fun t ht hW => ⟨⟨v, (), rfl, hv, by rw [ht]; exact hP, hD⟩, hS.F ht⟩) hS.2.2 hdg
theorem rt_v (hx : p.tables.exec = Jvm.exec) (hb : c.code = cc) (hr : meth.sig.returnType = none) (hlocks : meth.locks = false) (hP : va_P G.1 vwCl w1 H) (hD : va_D A w1) (hS : va_S A s.heap H locs) (hdg : decode cc pc = .ok (.return_, 1)) :
    W p l e R s m args below meth c H locs 0 0 (QV G below args s A w1) (F0 m pc ls []) :=
  W.vret hx hb hr (fun t ht hW => ⟨⟨(), rfl, trivial, by rw [ht]; exact hP, hD⟩, hS.F ht⟩) hS.2.2 hdg
theorem rt_r {v r : Nat} {C : String} (hx : p.tables.exec = Jvm.exec) (hb : c.code = cc) (hr : meth.sig.returnType = some (.object C)) (hlocks : meth.locks = false) (hP : va_P G.1 vwCl w1 H) (hD : va_D A w1) (hS : va_S A s.heap H locs) (hdg : decode cc pc = .ok (.areturn, 1)) (hv : v = r) :
    W p l e R s m args below meth c H locs 0 0 (QR G below args s A r w1) (F0 m pc ls [.ref v]) :=
  W.aret hx hb hr (Or.inl ⟨_, rfl⟩) (Or.inr ⟨_, rfl⟩) (fun t ht hW => ⟨⟨(), v, rfl, trivial, hv, by rw [ht]; exact hP, hD⟩, hS.F ht⟩) hS.2.2 hdg
end
/-- the cells of w1 at the places isC of ws -/
def sb_puts : va_W → List Nat → va_W → va_W
  | ws, [], _ => ws
  | ws, _ :: _, [] => ws
  | ws, i :: is, x :: xs => sb_puts (ws.set i x) is xs
theorem sb_puts_nil (ws w : va_W) : sb_puts ws [] w = ws := by cases w <;> rfl
theorem sb_puts_fst : ∀ (isC : List Nat) (w0 w1 ws : va_W), isC.map (fun i => (ws[i]?).map (·.1)) = w1.map (fun q => some q.1) → (sb_puts ws isC w1).map (·.1) = ws.map (·.1)
  | [], _, _, _, _ => by rw [sb_puts_nil]
  | _ :: _, _, [], _, _ => rfl
  | i :: is, w0, x :: xs, ws, h => by
    simp only [List.map_cons, List.cons.injEq] at h
    obtain ⟨h1, h2⟩ := h
    have hset : (ws.set i x).map (·.1) = ws.map (·.1) := by
      apply List.ext_getElem?
      intro k
      simp only [List.getElem?_map, List.getElem?_set]
      split
      · rename_i hik
        subst hik
        split
        · exact h1.symm
        · rename_i hlt
          rw [List.getElem?_eq_none (by omega)] at h1
          cases h1
      · rfl
    have e : ∀ j : Nat, ((ws.set i x)[j]?).map (·.1) = (ws[j]?).map (·.1) := fun j => by
      rw [← List.getElem?_map, ← List.getElem?_map, hset]
    show (sb_puts (ws.set i x) is xs).map (·.1) = ws.map (·.1)
    rw [sb_puts_fst is w0 xs (ws.set i x) (by simp only [e]; exact h2), hset]
theorem sb_puts_get : ∀ (isC : List Nat) (w1 ws : va_W) (k : Nat) (q : Nat × va_E), (sb_puts ws isC w1)[k]? = some q → q ∈ w1 ∨ (ws[k]? = some q ∧ k ∉ isC.take w1.length)
  | [], _, ws, k, q, h => by
    rw [sb_puts_nil] at h
    exact Or.inr ⟨h, by simp⟩
  | i :: is, [], ws, k, q, h => by
    have h : ws[k]? = some q := h
    exact Or.inr ⟨h, by simp⟩
  | i :: is, x :: xs, ws, k, q, h => by
    rcases sb_puts_get is xs (ws.set i x) k q h with h1 | ⟨h1, h2⟩
    · exact Or.inl (List.mem_cons_of_mem _ h1)
    · rw [List.getElem?_set] at h1
      split at h1
      · split at h1
        · cases h1
          exact Or.inl List.mem_cons_self
        · cases h1
      · rename_i hne
        refine Or.inr ⟨h1, ?_⟩
        simp only [List.length_cons, List.take_succ_cons, List.mem_cons, not_or]
        exact ⟨fun h => hne h.symm, h2⟩
/-- a world's addresses decide that it is apart -/
theorem sb_D {A : Nat → Prop} {ws ws' : va_W} (hD : va_D A ws) (h : ws'.map (·.1) = ws.map (·.1)) : va_D A ws' := by
  have e : ∀ (k : Nat) (q : Nat × va_E), ws'[k]? = some q → ∃ q', ws[k]? = some q' ∧ q'.1 = q.1 := fun k q hq => by
    have h1 : (ws'.map (·.1))[k]? = some q.1 := by rw [List.getElem?_map, hq]; rfl
    rw [h, List.getElem?_map] at h1
    cases h2 : ws[k]? with
    | none => rw [h2] at h1; cases h1
    | some q' => rw [h2] at h1; exact ⟨q', rfl, Option.some.inj h1⟩
  constructor
  · intro i j p q hp hq hpq
    obtain ⟨p', hp', e1⟩ := e i p hp
    obtain ⟨q', hq', e2⟩ := e j q hq
    exact hD.1 i j p' q' hp' hq' (by rw [e1, e2]; exact hpq)
  · intro k q hq
    obtain ⟨q', hq', e1⟩ := e k q hq
    rw [← e1]
    exact hD.2 k q' hq'
/-- THE FRAME: the callee had the cells w0 at the places isC, and gave w1 for them -/
theorem sb_join {A : Nat → Prop} {D : va_G} {cl : List vw_C} {ws ws' w0 w1 : va_W} {H H1 : Heap} (hP : va_P D cl ws H) (hD : va_D A ws) (isC : List Nat) (hC : isC.map (fun i => ws[i]?) = w0.map some) (hadr : w1.map (·.1) = w0.map (·.1)) (hput : sb_puts ws isC w1 = ws')
    (hk : ∀ q : Nat, q < H.size → ¬ va_A w0 H.size q → H1[q]? = H[q]?) (hP1 : va_P D cl w1 H1) : va_P D cl ws' H1 ∧ va_D A ws' := by
  have hlen : w1.length = w0.length := by have := congrArg List.length hadr; simpa using this
  have hlenC : isC.length = w0.length := by have := congrArg List.length hC; simpa using this
  have hfst : isC.map (fun i => (ws[i]?).map (·.1)) = w1.map (fun q => some q.1) := by
    have h1 : (isC.map (fun i => ws[i]?)).map (Option.map (·.1)) = (w0.map some).map (Option.map (·.1)) := by rw [hC]
    simp only [List.map_map] at h1
    have h2 : w1.map (fun q => some q.1) = (w1.map (·.1)).map some := by simp [List.map_map]
    have h3 : (w0.map (·.1)).map some = w0.map (fun q => some q.1) := by simp [List.map_map]
    rw [h2, hadr, h3]
    exact h1
  have hD' : va_D A ws' := by rw [← hput]; exact sb_D hD (sb_puts_fst isC w0 w1 ws hfst)
  refine ⟨fun k q hq => ?_, hD'⟩
  rw [← hput] at hq
  rcases sb_puts_get isC w1 ws k q hq with h | ⟨h, hn⟩
  · obtain ⟨j, hj⟩ := List.getElem?_of_mem h
    exact hP1 j q hj
  · refine (hP k q h).kept (hk q.1 (hP k q h).lt ?_)
    rintro (⟨j, e, hj⟩ | hge)
    · have hjl : j < w0.length := by
        rcases Nat.lt_or_ge j w0.length with h9 | h9
        · exact h9
        · rw [List.getElem?_eq_none h9] at hj; cases hj
      have h1 : (isC.map (fun i => ws[i]?))[j]? = some (some (q.1, e)) := by rw [hC, List.getElem?_map, hj]; rfl
      rw [List.getElem?_map] at h1
      cases h2 : isC[j]? with
      | none => rw [h2] at h1; cases h1
      | some i =>
        rw [h2] at h1
        have h3 : ws[i]? = some (q.1, e) := Option.some.inj h1
        have h4 := hD.1 k i q (q.1, e) h h3 rfl
        subst h4
        apply hn
        rw [hlen, ← hlenC, List.take_length]
        exact List.mem_of_getElem? h2
    · exact absurd (hP k q h).lt (Nat.not_lt.mpr hge)
section
variable {p : Program} {l : Launch} {e : Env} {R : Room} {s : State} {m : MethodId} {args : Array Value} {below : List Frame} {meth : Method} {c : Code} {H : Heap} {locs : List Loc} {cells slots : Nat} {Q : State → Prop} {G : GT} {A : Nat → Prop} {cc : ByteArray} {pc nL n index maxL : Nat} {ls : Array Slot} {st0 rest As : List Value} {ws ws' w0 w1 : va_W} {y : MethodName} {wsY Ts : List Cond} {rm : Room} {bytes : ByteArray} {ret : Option FieldType} {own C : String} {b : Nat}
/-- the callee's start out of the caller's world -/
theorem sb_pre (hE : Ev G A s s.heap) (hK : va_K G.1 vwCl (gT G) s) (hP : va_P G.1 vwCl ws H) (hD : va_D A ws) (hS : va_S A s.heap H locs) (hA : ∀ q : Nat, s.heap.size ≤ q → A q) (isC : List Nat) (hnd : va_nd isC = true) (hC : isC.map (fun i => ws[i]?) = w0.map some) :
    (∀ U : State, U.heap = H → s.WarmedH U.vm → Pre0 G w0 H.size U) ∧ ∀ q, va_A w0 H.size q → A q := by
  have hF := va_free (wc := w0) hD hS hA isC hC
  have hP0 : va_P G.1 vwCl w0 H := hP.sub isC (by
    have : (isC.map (fun i => ws[i]?)).filterMap id = (w0.map some).filterMap id := by rw [hC]
    simpa [List.filterMap_map, Function.comp_def] using this)
  have hD0 : va_D A w0 := hD.sub isC hnd hC
  exact ⟨fun U hU hW => ⟨by rw [hU], by rw [hU]; exact hP0, va_K.moved hW.alike hK, hD0.weaken (fun _ _ _ _ => trivial), by rw [hU]; exact Ev.warm hW ((hE.kept hS.2.1).narrow hF)⟩, hF⟩
abbrev CKl (p : Program) (l : Launch) (e : Env) (R : Room) (s : State) (m : MethodId) (args : Array Value) (below : List Frame) (meth : Method) (c : Code) (cells slots : Nat) (Q : State → Prop) (G : GT) (A : Nat → Prop) (ws' : va_W) (g : JFrame) : Prop := ∀ (H : Heap) (locs : List Loc), va_P G.1 vwCl ws' H → va_D A ws' → va_S A s.heap H locs → W p l e R s m args below meth c H locs cells slots Q g
theorem cs_l {r : Int64} (S : CallFix p m c cc nL s args Ts own) (hM : CL l y wsY rm G As w0 r w1) (cw : CallB R s args own index y bytes maxL ret wsY rm 0 0 n ∧ (Cond.static y).before args s = true) (hE : Ev G A s s.heap) (hK : va_K G.1 vwCl (gT G) s) (hP : va_P G.1 vwCl ws H) (hD : va_D A ws) (hS : va_S A s.heap H locs) (hA : ∀ q : Nat, s.heap.size ≤ q → A q) (hl : ls.size = nL)
    (isC : List Nat) (hnd : va_nd isC = true) (hC : isC.map (fun i => ws[i]?) = w0.map some) (hadr : w1.map (·.1) = w0.map (·.1)) (hput : sb_puts ws isC w1 = ws') (hn : As.length = n) (hstack : st0 = As.reverse ++ rest) (hW : (rest.map fun v => v.category).sum ≤ 8) (hdg : decode cc pc = .ok (.invokestatic index, 3)) (hf : cells ≤ R.cells ∧ slots ≤ R.slots)
    (kk : CKl p l e R s m args below meth c cells slots Q G A ws' (F0 m (pc + 3) ls (.long r :: rest))) : W p l e R s m args below meth c H locs cells slots Q (F0 m pc ls st0) := by
  obtain ⟨hp, hF⟩ := sb_pre (w0 := w0) hE hK hP hD hS hA isC hnd hC
  refine va_calll (va_runS (As := As) (rest := rest) S (hM H.size) cw ⟨Pre0.blind G w0 H.size As, fun U hU hW => ⟨rfl, hp U hU hW⟩⟩ rfl hn hl hstack (lv_room hW) hdg ⟨hf.1, hf.2⟩) hS (fun q _ h => hF q h) hF (fun r' u t H1 locs1 ht hvm hw hB hz hk hS1 => ?_)
  obtain ⟨hP2, hD2⟩ := sb_join hP hD isC hC hadr hput hk (by rw [← ht]; exact hB.1)
  rw [hw]
  exact kk H1 locs1 hP2 hD2 hS1
theorem cs_i {r : Int32} (S : CallFix p m c cc nL s args Ts own) (hM : CI l y wsY rm G As w0 r w1) (cw : CallB R s args own index y bytes maxL ret wsY rm 0 0 n ∧ (Cond.static y).before args s = true) (hE : Ev G A s s.heap) (hK : va_K G.1 vwCl (gT G) s) (hP : va_P G.1 vwCl ws H) (hD : va_D A ws) (hS : va_S A s.heap H locs) (hA : ∀ q : Nat, s.heap.size ≤ q → A q) (hl : ls.size = nL)
    (isC : List Nat) (hnd : va_nd isC = true) (hC : isC.map (fun i => ws[i]?) = w0.map some) (hadr : w1.map (·.1) = w0.map (·.1)) (hput : sb_puts ws isC w1 = ws') (hn : As.length = n) (hstack : st0 = As.reverse ++ rest) (hW : (rest.map fun v => v.category).sum ≤ 8) (hdg : decode cc pc = .ok (.invokestatic index, 3)) (hf : cells ≤ R.cells ∧ slots ≤ R.slots)
    (kk : CKl p l e R s m args below meth c cells slots Q G A ws' (F0 m (pc + 3) ls (.int r :: rest))) : W p l e R s m args below meth c H locs cells slots Q (F0 m pc ls st0) := by
  obtain ⟨hp, hF⟩ := sb_pre (w0 := w0) hE hK hP hD hS hA isC hnd hC
  refine va_calli (va_runS (As := As) (rest := rest) S (hM H.size) cw ⟨Pre0.blind G w0 H.size As, fun U hU hW => ⟨rfl, hp U hU hW⟩⟩ rfl hn hl hstack (lv_room hW) hdg ⟨hf.1, hf.2⟩) hS (fun q _ h => hF q h) hF (fun r' u t H1 locs1 ht hvm hw hB hz hk hS1 => ?_)
  obtain ⟨hP2, hD2⟩ := sb_join hP hD isC hC hadr hput hk (by rw [← ht]; exact hB.1)
  rw [hw]
  exact kk H1 locs1 hP2 hD2 hS1
theorem cs_v (S : CallFix p m c cc nL s args Ts own) (hM : CV l y wsY rm G As w0 w1) (cw : CallB R s args own index y bytes maxL ret wsY rm 0 0 n ∧ (Cond.static y).before args s = true) (hE : Ev G A s s.heap) (hK : va_K G.1 vwCl (gT G) s) (hP : va_P G.1 vwCl ws H) (hD : va_D A ws) (hS : va_S A s.heap H locs) (hA : ∀ q : Nat, s.heap.size ≤ q → A q) (hl : ls.size = nL)
    (isC : List Nat) (hnd : va_nd isC = true) (hC : isC.map (fun i => ws[i]?) = w0.map some) (hadr : w1.map (·.1) = w0.map (·.1)) (hput : sb_puts ws isC w1 = ws') (hn : As.length = n) (hstack : st0 = As.reverse ++ rest) (hW : (rest.map fun v => v.category).sum ≤ 8) (hdg : decode cc pc = .ok (.invokestatic index, 3)) (hf : cells ≤ R.cells ∧ slots ≤ R.slots)
    (kk : CKl p l e R s m args below meth c cells slots Q G A ws' (F0 m (pc + 3) ls rest)) : W p l e R s m args below meth c H locs cells slots Q (F0 m pc ls st0) := by
  obtain ⟨hp, hF⟩ := sb_pre (w0 := w0) hE hK hP hD hS hA isC hnd hC
  refine va_callv (va_runS (As := As) (rest := rest) S (hM H.size) cw ⟨Pre0.blind G w0 H.size As, fun U hU hW => ⟨rfl, hp U hU hW⟩⟩ rfl hn hl hstack (lv_room hW) hdg ⟨hf.1, hf.2⟩) hS (fun q _ h => hF q h) hF (fun u t H1 locs1 ht hvm hw hB hz hk hS1 => ?_)
  obtain ⟨hP2, hD2⟩ := sb_join hP hD isC hC hadr hput hk (by rw [← ht]; exact hB.1)
  exact kk H1 locs1 hP2 hD2 hS1
theorem cs_r {r : Nat} (S : CallFix p m c cc nL s args Ts own) (hM : CR l y wsY rm G As w0 r w1) (cw : CallB R s args own index y bytes maxL ret wsY rm 0 0 n ∧ (Cond.static y).before args s = true) (hE : Ev G A s s.heap) (hK : va_K G.1 vwCl (gT G) s) (hP : va_P G.1 vwCl ws H) (hD : va_D A ws) (hS : va_S A s.heap H locs) (hA : ∀ q : Nat, s.heap.size ≤ q → A q) (hl : ls.size = nL)
    (isC : List Nat) (hnd : va_nd isC = true) (hC : isC.map (fun i => ws[i]?) = w0.map some) (hadr : w1.map (·.1) = w0.map (·.1)) (hput : sb_puts ws isC w1 = ws') (hn : As.length = n) (hstack : st0 = As.reverse ++ rest) (hW : (rest.map fun v => v.category).sum ≤ 8) (hdg : decode cc pc = .ok (.invokestatic index, 3)) (hf : cells ≤ R.cells ∧ slots ≤ R.slots)
    (kk : CKl p l e R s m args below meth c cells slots Q G A ws' (F0 m (pc + 3) ls (.ref r :: rest))) : W p l e R s m args below meth c H locs cells slots Q (F0 m pc ls st0) := by
  obtain ⟨hp, hF⟩ := sb_pre (w0 := w0) hE hK hP hD hS hA isC hnd hC
  refine va_callr (va_runS (As := As) (rest := rest) S (hM H.size) cw ⟨Pre0.blind G w0 H.size As, fun U hU hW => ⟨rfl, hp U hU hW⟩⟩ rfl hn hl hstack (lv_room hW) hdg ⟨hf.1, hf.2⟩) hS (fun q _ h => hF q h) hF (fun u ra t H1 locs1 ht hvm hw hB hz hk hS1 => ?_)
  obtain ⟨hP2, hD2⟩ := sb_join hP hD isC hC hadr hput hk (by rw [← ht]; exact hB.2.1)
  rw [hB.1]
  exact kk H1 locs1 hP2 hD2 hS1
theorem cv_l {r : Int64} (S : CallFix p m c cc nL s args Ts own) (hM : CL l y wsY rm G (.ref b :: As) w0 r w1) (cw : CallW R s args own C index y bytes maxL ret wsY rm 0 0 n) (hrec : ∃ cellB : Cell, H[b]? = some cellB ∧ cellB.vm.isStatics = false ∧ s.vm.findClass C = some cellB.cls) (hE : Ev G A s s.heap) (hK : va_K G.1 vwCl (gT G) s) (hP : va_P G.1 vwCl ws H) (hD : va_D A ws) (hS : va_S A s.heap H locs) (hA : ∀ q : Nat, s.heap.size ≤ q → A q) (hl : ls.size = nL)
    (isC : List Nat) (hnd : va_nd isC = true) (hC : isC.map (fun i => ws[i]?) = w0.map some) (hadr : w1.map (·.1) = w0.map (·.1)) (hput : sb_puts ws isC w1 = ws') (hn : As.length = n) (hstack : st0 = As.reverse ++ .ref b :: rest) (hW : (rest.map fun v => v.category).sum ≤ 8) (hdg : decode cc pc = .ok (.invokevirtual index, 3)) (hf : cells ≤ R.cells ∧ slots ≤ R.slots)
    (kk : CKl p l e R s m args below meth c cells slots Q G A ws' (F0 m (pc + 3) ls (.long r :: rest))) : W p l e R s m args below meth c H locs cells slots Q (F0 m pc ls st0) := by
  obtain ⟨hp, hF⟩ := sb_pre (w0 := w0) hE hK hP hD hS hA isC hnd hC
  refine va_calll (va_runV (As := As) (rest := rest) S (hM H.size) cw ⟨Pre0.blind G w0 H.size _, hrec, fun U hU hW => ⟨rfl, hp U hU hW⟩⟩ rfl hn hl hstack (lv_room hW) hdg ⟨hf.1, hf.2⟩) hS (fun q _ h => hF q h) hF (fun r' u t H1 locs1 ht hvm hw hB hz hk hS1 => ?_)
  obtain ⟨hP2, hD2⟩ := sb_join hP hD isC hC hadr hput hk (by rw [← ht]; exact hB.1)
  rw [hw]
  exact kk H1 locs1 hP2 hD2 hS1
theorem cv_i {r : Int32} (S : CallFix p m c cc nL s args Ts own) (hM : CI l y wsY rm G (.ref b :: As) w0 r w1) (cw : CallW R s args own C index y bytes maxL ret wsY rm 0 0 n) (hrec : ∃ cellB : Cell, H[b]? = some cellB ∧ cellB.vm.isStatics = false ∧ s.vm.findClass C = some cellB.cls) (hE : Ev G A s s.heap) (hK : va_K G.1 vwCl (gT G) s) (hP : va_P G.1 vwCl ws H) (hD : va_D A ws) (hS : va_S A s.heap H locs) (hA : ∀ q : Nat, s.heap.size ≤ q → A q) (hl : ls.size = nL)
    (isC : List Nat) (hnd : va_nd isC = true) (hC : isC.map (fun i => ws[i]?) = w0.map some) (hadr : w1.map (·.1) = w0.map (·.1)) (hput : sb_puts ws isC w1 = ws') (hn : As.length = n) (hstack : st0 = As.reverse ++ .ref b :: rest) (hW : (rest.map fun v => v.category).sum ≤ 8) (hdg : decode cc pc = .ok (.invokevirtual index, 3)) (hf : cells ≤ R.cells ∧ slots ≤ R.slots)
    (kk : CKl p l e R s m args below meth c cells slots Q G A ws' (F0 m (pc + 3) ls (.int r :: rest))) : W p l e R s m args below meth c H locs cells slots Q (F0 m pc ls st0) := by
  obtain ⟨hp, hF⟩ := sb_pre (w0 := w0) hE hK hP hD hS hA isC hnd hC
  refine va_calli (va_runV (As := As) (rest := rest) S (hM H.size) cw ⟨Pre0.blind G w0 H.size _, hrec, fun U hU hW => ⟨rfl, hp U hU hW⟩⟩ rfl hn hl hstack (lv_room hW) hdg ⟨hf.1, hf.2⟩) hS (fun q _ h => hF q h) hF (fun r' u t H1 locs1 ht hvm hw hB hz hk hS1 => ?_)
  obtain ⟨hP2, hD2⟩ := sb_join hP hD isC hC hadr hput hk (by rw [← ht]; exact hB.1)
  rw [hw]
  exact kk H1 locs1 hP2 hD2 hS1
theorem cv_v (S : CallFix p m c cc nL s args Ts own) (hM : CV l y wsY rm G (.ref b :: As) w0 w1) (cw : CallW R s args own C index y bytes maxL ret wsY rm 0 0 n) (hrec : ∃ cellB : Cell, H[b]? = some cellB ∧ cellB.vm.isStatics = false ∧ s.vm.findClass C = some cellB.cls) (hE : Ev G A s s.heap) (hK : va_K G.1 vwCl (gT G) s) (hP : va_P G.1 vwCl ws H) (hD : va_D A ws) (hS : va_S A s.heap H locs) (hA : ∀ q : Nat, s.heap.size ≤ q → A q) (hl : ls.size = nL)
    (isC : List Nat) (hnd : va_nd isC = true) (hC : isC.map (fun i => ws[i]?) = w0.map some) (hadr : w1.map (·.1) = w0.map (·.1)) (hput : sb_puts ws isC w1 = ws') (hn : As.length = n) (hstack : st0 = As.reverse ++ .ref b :: rest) (hW : (rest.map fun v => v.category).sum ≤ 8) (hdg : decode cc pc = .ok (.invokevirtual index, 3)) (hf : cells ≤ R.cells ∧ slots ≤ R.slots)
    (kk : CKl p l e R s m args below meth c cells slots Q G A ws' (F0 m (pc + 3) ls rest)) : W p l e R s m args below meth c H locs cells slots Q (F0 m pc ls st0) := by
  obtain ⟨hp, hF⟩ := sb_pre (w0 := w0) hE hK hP hD hS hA isC hnd hC
  refine va_callv (va_runV (As := As) (rest := rest) S (hM H.size) cw ⟨Pre0.blind G w0 H.size _, hrec, fun U hU hW => ⟨rfl, hp U hU hW⟩⟩ rfl hn hl hstack (lv_room hW) hdg ⟨hf.1, hf.2⟩) hS (fun q _ h => hF q h) hF (fun u t H1 locs1 ht hvm hw hB hz hk hS1 => ?_)
  obtain ⟨hP2, hD2⟩ := sb_join hP hD isC hC hadr hput hk (by rw [← ht]; exact hB.1)
  exact kk H1 locs1 hP2 hD2 hS1
theorem cv_r {r : Nat} (S : CallFix p m c cc nL s args Ts own) (hM : CR l y wsY rm G (.ref b :: As) w0 r w1) (cw : CallW R s args own C index y bytes maxL ret wsY rm 0 0 n) (hrec : ∃ cellB : Cell, H[b]? = some cellB ∧ cellB.vm.isStatics = false ∧ s.vm.findClass C = some cellB.cls) (hE : Ev G A s s.heap) (hK : va_K G.1 vwCl (gT G) s) (hP : va_P G.1 vwCl ws H) (hD : va_D A ws) (hS : va_S A s.heap H locs) (hA : ∀ q : Nat, s.heap.size ≤ q → A q) (hl : ls.size = nL)
    (isC : List Nat) (hnd : va_nd isC = true) (hC : isC.map (fun i => ws[i]?) = w0.map some) (hadr : w1.map (·.1) = w0.map (·.1)) (hput : sb_puts ws isC w1 = ws') (hn : As.length = n) (hstack : st0 = As.reverse ++ .ref b :: rest) (hW : (rest.map fun v => v.category).sum ≤ 8) (hdg : decode cc pc = .ok (.invokevirtual index, 3)) (hf : cells ≤ R.cells ∧ slots ≤ R.slots)
    (kk : CKl p l e R s m args below meth c cells slots Q G A ws' (F0 m (pc + 3) ls (.ref r :: rest))) : W p l e R s m args below meth c H locs cells slots Q (F0 m pc ls st0) := by
  obtain ⟨hp, hF⟩ := sb_pre (w0 := w0) hE hK hP hD hS hA isC hnd hC
  refine va_callr (va_runV (As := As) (rest := rest) S (hM H.size) cw ⟨Pre0.blind G w0 H.size _, hrec, fun U hU hW => ⟨rfl, hp U hU hW⟩⟩ rfl hn hl hstack (lv_room hW) hdg ⟨hf.1, hf.2⟩) hS (fun q _ h => hF q h) hF (fun u ra t H1 locs1 ht hvm hw hB hz hk hS1 => ?_)
  obtain ⟨hP2, hD2⟩ := sb_join hP hD isC hC hadr hput hk (by rw [← ht]; exact hB.2.1)
  rw [hB.1]
  exact kk H1 locs1 hP2 hD2 hS1
end
end SB
