section
/-- a private method of a class that the tables say can be made, by its rows of tables_1 -/
def lw_okq (q : MethodName × Nat) : Prop := (q.1.cls ≠ "java/lang/invoke/MethodHandle" ∧ q.1.cls ≠ "java/lang/invoke/VarHandle") ∧ Cond.instantiable q.1.cls q.2 ∈ tables_1 ∧ Cond.privateMethod q.1 ∈ tables_1 ∧ Cond.instanceMethod q.1 ∈ tables_1
theorem lw_p0 : lw_okq (⟨"PedalBoard", "wireAt", "(I)LPedalBoard$Wire;"⟩, 1) := ⟨⟨by decide +kernel, by decide +kernel⟩, List.mem_of_getElem? (i := 14) (by decide +kernel), List.mem_of_getElem? (i := 145) (by decide +kernel), List.mem_of_getElem? (i := 146) (by decide +kernel)⟩
theorem lw_p1 : lw_okq (⟨"java/lang/Throwable", "fillInStackTrace", "(I)Ljava/lang/Throwable;"⟩, 6) := ⟨⟨by decide +kernel, by decide +kernel⟩, List.mem_of_getElem? (i := 186) (by decide +kernel), List.mem_of_getElem? (i := 184) (by decide +kernel), List.mem_of_getElem? (i := 185) (by decide +kernel)⟩
theorem lw_p2 : lw_okq (⟨"PedalBoard$Sort", "isWhole", "()Z"⟩, 7) := ⟨⟨by decide +kernel, by decide +kernel⟩, List.mem_of_getElem? (i := 230) (by decide +kernel), List.mem_of_getElem? (i := 228) (by decide +kernel), List.mem_of_getElem? (i := 229) (by decide +kernel)⟩
theorem lw_p3 : lw_okq (⟨"PedalBoard$Sort", "infinite", "()J"⟩, 7) := ⟨⟨by decide +kernel, by decide +kernel⟩, List.mem_of_getElem? (i := 230) (by decide +kernel), List.mem_of_getElem? (i := 233) (by decide +kernel), List.mem_of_getElem? (i := 234) (by decide +kernel)⟩
theorem lw_p4 : lw_okq (⟨"PedalBoard$Sort", "withOtherSign", "(J)J"⟩, 7) := ⟨⟨by decide +kernel, by decide +kernel⟩, List.mem_of_getElem? (i := 230) (by decide +kernel), List.mem_of_getElem? (i := 331) (by decide +kernel), List.mem_of_getElem? (i := 332) (by decide +kernel)⟩
theorem lw_p5 : lw_okq (⟨"PedalBoard$Sort", "fitted", "(J)J"⟩, 7) := ⟨⟨by decide +kernel, by decide +kernel⟩, List.mem_of_getElem? (i := 230) (by decide +kernel), List.mem_of_getElem? (i := 335) (by decide +kernel), List.mem_of_getElem? (i := 336) (by decide +kernel)⟩
theorem lw_p6 : lw_okq (⟨"PedalBoard$Sort", "rank", "(J)J"⟩, 7) := ⟨⟨by decide +kernel, by decide +kernel⟩, List.mem_of_getElem? (i := 230) (by decide +kernel), List.mem_of_getElem? (i := 344) (by decide +kernel), List.mem_of_getElem? (i := 345) (by decide +kernel)⟩
theorem lw_p7 : lw_okq (⟨"PedalBoard$Sort", "wholeSize", "(IJ)J"⟩, 7) := ⟨⟨by decide +kernel, by decide +kernel⟩, List.mem_of_getElem? (i := 230) (by decide +kernel), List.mem_of_getElem? (i := 348) (by decide +kernel), List.mem_of_getElem? (i := 349) (by decide +kernel)⟩
theorem lw_p8 : lw_okq (⟨"PedalBoard$Sort", "oneHalf", "()J"⟩, 7) := ⟨⟨by decide +kernel, by decide +kernel⟩, List.mem_of_getElem? (i := 230) (by decide +kernel), List.mem_of_getElem? (i := 352) (by decide +kernel), List.mem_of_getElem? (i := 353) (by decide +kernel)⟩
theorem lw_p9 : lw_okq (⟨"PedalBoard$Sort", "one", "()J"⟩, 7) := ⟨⟨by decide +kernel, by decide +kernel⟩, List.mem_of_getElem? (i := 230) (by decide +kernel), List.mem_of_getElem? (i := 359) (by decide +kernel), List.mem_of_getElem? (i := 360) (by decide +kernel)⟩
theorem lw_p10 : lw_okq (⟨"PedalBoard$Sort", "withSignOf", "(JJ)J"⟩, 7) := ⟨⟨by decide +kernel, by decide +kernel⟩, List.mem_of_getElem? (i := 230) (by decide +kernel), List.mem_of_getElem? (i := 366) (by decide +kernel), List.mem_of_getElem? (i := 367) (by decide +kernel)⟩
theorem lw_p11 : lw_okq (⟨"PedalBoard$Wire", "keepPeaks", "()V"⟩, 11) := ⟨⟨by decide +kernel, by decide +kernel⟩, List.mem_of_getElem? (i := 23) (by decide +kernel), List.mem_of_getElem? (i := 374) (by decide +kernel), List.mem_of_getElem? (i := 375) (by decide +kernel)⟩
theorem lw_p12 : lw_okq (⟨"PedalBoard$Sort", "roundedWhole", "(J)J"⟩, 7) := ⟨⟨by decide +kernel, by decide +kernel⟩, List.mem_of_getElem? (i := 230) (by decide +kernel), List.mem_of_getElem? (i := 443) (by decide +kernel), List.mem_of_getElem? (i := 444) (by decide +kernel)⟩
theorem lw_p13 : lw_okq (⟨"PedalBoard$Sort", "rounded", "(JI)J"⟩, 7) := ⟨⟨by decide +kernel, by decide +kernel⟩, List.mem_of_getElem? (i := 230) (by decide +kernel), List.mem_of_getElem? (i := 447) (by decide +kernel), List.mem_of_getElem? (i := 448) (by decide +kernel)⟩
theorem lw_p14 : lw_okq (⟨"PedalBoard$Sort", "cutTo", "(LPedalBoard$Sort;J)J"⟩, 7) := ⟨⟨by decide +kernel, by decide +kernel⟩, List.mem_of_getElem? (i := 230) (by decide +kernel), List.mem_of_getElem? (i := 461) (by decide +kernel), List.mem_of_getElem? (i := 462) (by decide +kernel)⟩
theorem lw_p15 : lw_okq (⟨"PedalBoard$Sort", "refit", "(LPedalBoard$Sort;J)J"⟩, 7) := ⟨⟨by decide +kernel, by decide +kernel⟩, List.mem_of_getElem? (i := 230) (by decide +kernel), List.mem_of_getElem? (i := 465) (by decide +kernel), List.mem_of_getElem? (i := 466) (by decide +kernel)⟩
def lw_privs_1 : List (MethodName × Nat) := [(⟨"PedalBoard", "wireAt", "(I)LPedalBoard$Wire;"⟩, 1), (⟨"java/lang/Throwable", "fillInStackTrace", "(I)Ljava/lang/Throwable;"⟩, 6), (⟨"PedalBoard$Sort", "isWhole", "()Z"⟩, 7), (⟨"PedalBoard$Sort", "infinite", "()J"⟩, 7), (⟨"PedalBoard$Sort", "withOtherSign", "(J)J"⟩, 7), (⟨"PedalBoard$Sort", "fitted", "(J)J"⟩, 7), (⟨"PedalBoard$Sort", "rank", "(J)J"⟩, 7), (⟨"PedalBoard$Sort", "wholeSize", "(IJ)J"⟩, 7), (⟨"PedalBoard$Sort", "oneHalf", "()J"⟩, 7), (⟨"PedalBoard$Sort", "one", "()J"⟩, 7), (⟨"PedalBoard$Sort", "withSignOf", "(JJ)J"⟩, 7), (⟨"PedalBoard$Wire", "keepPeaks", "()V"⟩, 11), (⟨"PedalBoard$Sort", "roundedWhole", "(J)J"⟩, 7), (⟨"PedalBoard$Sort", "rounded", "(JI)J"⟩, 7), (⟨"PedalBoard$Sort", "cutTo", "(LPedalBoard$Sort;J)J"⟩, 7), (⟨"PedalBoard$Sort", "refit", "(LPedalBoard$Sort;J)J"⟩, 7)]
theorem lw_r1 : ∀ q ∈ lw_privs_1, lw_okq q := List.forall_mem_cons.mpr ⟨lw_p0, List.forall_mem_cons.mpr ⟨lw_p1, List.forall_mem_cons.mpr ⟨lw_p2, List.forall_mem_cons.mpr ⟨lw_p3, List.forall_mem_cons.mpr ⟨lw_p4, List.forall_mem_cons.mpr ⟨lw_p5, List.forall_mem_cons.mpr ⟨lw_p6, List.forall_mem_cons.mpr ⟨lw_p7, List.forall_mem_cons.mpr ⟨lw_p8, List.forall_mem_cons.mpr ⟨lw_p9, List.forall_mem_cons.mpr ⟨lw_p10, List.forall_mem_cons.mpr ⟨lw_p11, List.forall_mem_cons.mpr ⟨lw_p12, List.forall_mem_cons.mpr ⟨lw_p13, List.forall_mem_cons.mpr ⟨lw_p14, List.forall_mem_cons.mpr ⟨lw_p15, fun _ h => absurd h List.not_mem_nil⟩⟩⟩⟩⟩⟩⟩⟩⟩⟩⟩⟩⟩⟩⟩⟩
theorem lw_p16 : lw_okq (⟨"PedalBoardModel", "refuses", "(ZZ)Z"⟩, 18) := ⟨⟨by decide +kernel, by decide +kernel⟩, List.mem_of_getElem? (i := 469) (by decide +kernel), List.mem_of_getElem? (i := 565) (by decide +kernel), List.mem_of_getElem? (i := 566) (by decide +kernel)⟩
theorem lw_p17 : lw_okq (⟨"PedalBoardModel", "come", "(IJ)Z"⟩, 18) := ⟨⟨by decide +kernel, by decide +kernel⟩, List.mem_of_getElem? (i := 469) (by decide +kernel), List.mem_of_getElem? (i := 569) (by decide +kernel), List.mem_of_getElem? (i := 570) (by decide +kernel)⟩
theorem lw_p18 : lw_okq (⟨"PedalBoardModel", "isPedal", "(II)Z"⟩, 18) := ⟨⟨by decide +kernel, by decide +kernel⟩, List.mem_of_getElem? (i := 469) (by decide +kernel), List.mem_of_getElem? (i := 611) (by decide +kernel), List.mem_of_getElem? (i := 612) (by decide +kernel)⟩
theorem lw_p19 : lw_okq (⟨"PedalBoardModel", "round", "(I)I"⟩, 18) := ⟨⟨by decide +kernel, by decide +kernel⟩, List.mem_of_getElem? (i := 469) (by decide +kernel), List.mem_of_getElem? (i := 627) (by decide +kernel), List.mem_of_getElem? (i := 628) (by decide +kernel)⟩
def lw_privs_2 : List (MethodName × Nat) := [(⟨"PedalBoardModel", "refuses", "(ZZ)Z"⟩, 18), (⟨"PedalBoardModel", "come", "(IJ)Z"⟩, 18), (⟨"PedalBoardModel", "isPedal", "(II)Z"⟩, 18), (⟨"PedalBoardModel", "round", "(I)I"⟩, 18)]
theorem lw_r2 : ∀ q ∈ lw_privs_2, lw_okq q := List.forall_mem_cons.mpr ⟨lw_p16, List.forall_mem_cons.mpr ⟨lw_p17, List.forall_mem_cons.mpr ⟨lw_p18, List.forall_mem_cons.mpr ⟨lw_p19, fun _ h => absurd h List.not_mem_nil⟩⟩⟩⟩
def lw_privs : List (MethodName × Nat) := lw_privs_1 ++ (lw_privs_2)
def lw_tbl : List Cond := k2_sels lw_privs ++ tables_1
theorem lw_privs_ok : ∀ q ∈ lw_privs, lw_okq q := by
  show ∀ q ∈ lw_privs_1 ++ (lw_privs_2), lw_okq q
  exact List.forall_mem_append.mpr ⟨lw_r1, lw_r2⟩
/-! ===== BEGIN words of one list among another's, by their places ===== -/
theorem goodIn_r {big : List Cond} (ws : List Cond) (ps : List Nat) (hp : ws = ps.filterMap (fun i => big[i]?)) (h : ws.all goodWord = true) : GoodIn big ws := by
  intro w hw
  have h1 := List.all_eq_true.mp h w hw
  rw [hp] at hw
  obtain ⟨i, -, hi⟩ := List.mem_filterMap.mp hw
  have hm : w ∈ big := by first | exact List.mem_of_getElem? hi | exact List.getElem?_mem hi
  exact ⟨hm, good_of_word h1⟩
theorem goodIn_app {big a b : List Cond} (ha : GoodIn big a) (hb : GoodIn big b) : GoodIn big (a ++ b) := fun w h => (List.mem_append.mp h).elim (ha w) (hb w)
theorem goodIn_ca {big a b : List Cond} {c : Cond} (ha : GoodIn big (c :: a)) (hb : GoodIn big b) : GoodIn big (c :: (a ++ b)) := fun w h => (List.mem_cons.mp h).elim (fun e => ha w (List.mem_cons.mpr (Or.inl e))) (fun h => (List.mem_append.mp h).elim (fun h => ha w (List.mem_cons.mpr (Or.inr h))) (hb w))
theorem goodIn_sub {big ws : List Cond} (hm : ∀ w ∈ ws, w ∈ big) (h : ws.all goodWord = true) : GoodIn big ws := fun w hw => ⟨hm w hw, good_of_word (List.all_eq_true.mp h w hw)⟩
/-! ===== END ===== -/

/-! ===== BEGIN exceptions that leave a method, and their catching by the caller (launches without stack traces) ===== -/
section VXA
/-! The laws vx_back, vx_callV, vx_callS, vx_callSW, vx_throw0, vx_throwS follow proofs of the library, with one case more: JvmDerived/Free/Laws.lean (Back.of_free), Shelf42/LK1.lean (callV, callS), Shelf/KitTraced.lean (throwNew0V, throwNewS). -/
/-- where a method has thrown q: the class by its name, the cell, what was written, the world -/
def vx_T (XC : String → State → State → Prop) (st : State) (q : Addr) (t : State) (mc ms : Nat) (free : Addr → Prop) : Prop :=
  ∃ (E : String) (ce : Cell) (L : List Loc), XC E st t ∧ t.heap[q]? = some ce ∧ ce.vm = .none ∧ st.vm.findClass E = some ce.cls ∧ st.WarmedH t.vm ∧ st.sameButNew ({ t with vm := st.vm } : State) L mc ms ∧ ∀ z ∈ L, free z.base
def vx_Q (Qc : Array Value → State → Outcome → State → Prop) (XC : String → State → State → Prop) (mc ms : Nat) (free : Addr → Prop) : Array Value → State → Outcome → State → Prop := fun a st o t =>
  (Qc a st o t ∧ ∃ L, FrameEnd st o t L mc ms ∧ ∀ q ∈ L, free q.base) ∨ ∃ q, o = .threw q ∧ vx_T XC st q t mc ms free
/-- a callee that returns or throws -/
def vx_Met (l : Launch) (y : MethodName) (ws : List Cond) (rm : Room) (Pc : Array Value → State → Prop) (Qc : Array Value → State → Outcome → State → Prop) (XC : String → State → State → Prop) (mc ms : Nat) (free : Addr → Prop) : Prop :=
  MetFree l y (headSpec ws rm) Pc (fun _ _ _ _ _ => True) (vx_Q Qc XC mc ms free)
def vx_Post (XC : String → State → State → Prop) (mc ms : Nat) (free : Addr → Prop) : Pt → Array Value → Addr → Pt → Prop := fun A a q B =>
  ∃ (g : JFrame) (mk : MethodId) (t : State) (L : List Loc) (E : String) (ce : Cell), B.U.heap = t.heap ∧ B.U.vm = t.vm ∧ XC E (A.U.calling g mk a) t ∧ t.heap[q]? = some ce ∧ ce.vm = .none ∧ A.U.vm.findClass E = some ce.cls ∧ B.locs = A.locs ++ L ∧ (∀ z ∈ L, free z.base) ∧ B.cells = A.cells + mc ∧ B.slots = A.slots + ms
def vx_Back (l : Launch) (R : Room) (p : Program) (e : Env) (below : List Frame) (s : State) (sargs : Array Value) (y : MethodName) (len W9 : Nat)
    (Pre : Pt → Array Value → Prop) (Post : Pt → Array Value → Option Value → Pt → Prop) (PostX : Pt → Array Value → Addr → Pt → Prop) : Prop :=
  ∀ (m : MethodId) (meth : Method) (c : Code) (A : Pt) (g : JFrame) (ig : Instr) (mk : MethodId) (a : Array Value),
    Stand p l e R s m sargs below meth c A.U A.locs A.cells A.slots → g.method = m → g.locals.size = c.maxLocals → decode c.code g.pc = .ok (ig, len) →
    2 * g.monitorRoom + (g.stack.map fun v => v.category).sum ≤ W9 → A.U.methodNamed? y = some mk → Pre A a →
    (∃ (v : Option Value) (B : Pt), Stand p l e R s m sargs below meth c B.U B.locs B.cells B.slots ∧ Post A a v B ∧
      Steps p.tables e below (doInvoke e (A.U.setTop g) [] mk a).1 (B.U.setTop { g with pc := g.pc + len, stack := v.toList ++ g.stack })) ∨
    (∃ (q : Addr) (B : Pt), Stand p l e R s m sargs below meth c B.U B.locs B.cells B.slots ∧ PostX A a q B ∧
      Steps p.tables e below (doInvoke e (A.U.setTop g) [] mk a).1 ((B.U.setTop g).pushFrame (.throwing q)))
section Payer
variable {l : Launch} {R : Room} {p : Program} {e : Env} {below : List Frame} {s : State} {sargs : Array Value} {y : MethodName} {len W9 : Nat}
theorem vx_back {ws : List Cond} {rm : Room} {Pc : Array Value → State → Prop} {Qc : Array Value → State → Outcome → State → Prop} {XC : String → State → State → Prop} {mc ms : Nat} {free : Addr → Prop} {bytes : ByteArray} {maxL : Nat} {ret : Option FieldType}
    (hM : vx_Met l y ws rm Pc Qc XC mc ms free) (hblind : FrameBlind Pc) (hrc : rm.cells = mc) (hrs : rm.slots = ms)
    (hframes : rm.frames + 1 ≤ R.frames) (hlocals : W9 + (maxL + 11) + rm.locals ≤ R.locals)
    (hws : ∀ w ∈ ws, ∀ a' U, s.WarmedH U.vm → w.before a' U = true) (hcode : Cond.code y bytes maxL ret ∈ ws) (hinit : ∀ a' U, s.WarmedH U.vm → (Cond.initialized y.cls).before a' U = true) :
    vx_Back l R p e below s sargs y len W9 (PreOf R mc ms Pc) (PostOf Qc mc ms free) (vx_Post XC mc ms free) := by
  intro m meth c A g ig mk a X hg hsize hdg hW hn hp
  have h1 : (headSpec ws rm).pre.before a A.U = true := atoms_intro fun w hw => hws w hw _ _ X.warmed
  have h2 : (Cond.code y bytes maxL ret).before a A.U = true := hws _ hcode _ _ X.warmed
  have h3 : (Cond.initialized y.cls).before a A.U = true := hinit _ _ X.warmed
  have h4 : A.cells + (headSpec ws rm).room.cells ≤ R.cells := by rw [show (headSpec ws rm).room.cells = mc from hrc]; exact hp.1
  have h5 : A.slots + (headSpec ws rm).room.slots ≤ R.slots := by rw [show (headSpec ws rm).room.slots = ms from hrs]; exact hp.2.1
  have hPc : Pc a (A.U.calling g mk a) := hblind _ _ _ _ hp.2.2
  obtain ⟨U, Ls, c0, s0⟩ := A
  dsimp only [Pt.U, Pt.locs, Pt.cells, Pt.slots] at h1 h2 h3 h4 h5 X hn hPc ⊢
  obtain ⟨methY, cY, hmY, hcY, -, hlY, -, -, -, -⟩ := Cond.code_spec hn h2
  obtain ⟨kY, hkY, -⟩ := className_of_methodNamed hn
  have hinitY : kY.init = .initialized := Cond.initialized_spec (findClass_of_methodNamed hn) hkY h3
  have h : At U g.method c below := by rw [hg]; exact X.here
  have hlocals9 : W9 + (maxL + 11) + (headSpec ws rm).room.locals ≤ R.locals := hlocals
  have happ : (headSpec ws rm).appliesLoose y e.platform (U.calling g mk a) = true :=
    Spec.appliesLoose_calling (g := g) h hdg hn hkY hinitY
      (X.room_calling (g := g) (R' := (headSpec ws rm).room) hsize hmY hcY hframes (by rw [hlY]; omega) h4 h5) h1
  obtain ⟨mid, hmid⟩ := h.above
  have hfr : (U.setTop g).frames = (.java g :: mid) ++ below := by rw [State.frames_setTop' g h.top, hmid]; rfl
  obtain ⟨o, s₂, hsteps, -, hend, hq⟩ := Steps.callFree hM p X.admits X.cas X.clock (acts := []) hfr happ hPc trivial
  have hq' : vx_Q Qc XC mc ms free a (U.calling g mk a) o s₂ := hq
  rw [State.frames_setTop' g h.top] at hend
  obtain ⟨g₀, hg0⟩ := Option.isSome_iff_exists.mp h.top
  obtain ⟨r, hr⟩ := State.topJava?_eq_some.mp hg0
  have hr' : (({ U with heap := s₂.heap, slotsUsed := s₂.slotsUsed } : State).setVm s₂.vm).frames = .java g₀ :: r := hr
  rcases hq' with ⟨hqc, L, hfe, hL⟩ | ⟨q, rfl, E, ce, L, hx, hce, hcv, hcl, hW₂, hsm, hL⟩
  · obtain ⟨⟨v, rfl⟩, hW₂, e2, q2, q3, q4, q5, q6⟩ := id hfe
    have e3 : s₂ = ({ (U.calling g mk a).setFrames s₂.frames with heap := s₂.heap, slotsUsed := s₂.slotsUsed } : State).setVm s₂.vm := by
      have : s₂ = ({ s₂ with vm := (U.calling g mk a).vm } : State).setVm s₂.vm := rfl
      rw [e2] at this
      exact this
    obtain ⟨c₂, i₂, len₂, hc₂, hd₂, hf₂⟩ := hend
    have hW' : U.WarmedH s₂.vm := hW₂
    have hcc : c₂ = c := by
      have h1 : s₂.code? g.method = U.code? g.method := by
        rw [State.code?_eq, State.code?_eq, hW'.alike.method?]
      exact Option.some.inj (hc₂.symm.trans (h1.trans h.code))
    subst hcc
    have hlen : len₂ = len := by rw [hdg] at hd₂; cases hd₂; rfl
    subst hlen
    have hs₂ : s₂ = (({ U with heap := s₂.heap, slotsUsed := s₂.slotsUsed } : State).setVm s₂.vm).setTop { g with pc := g.pc + len₂, stack := v.toList ++ g.stack } := by
      refine e3.trans ?_
      rw [hf₂, State.calling_eq h.top, State.setFrames_setFrames, State.setTop_of_frames _ hr', hr]
      rfl
    have hsame : U.sameButNew ({ U with heap := s₂.heap, slotsUsed := s₂.slotsUsed } : State) L mc ms := by
      refine ⟨?_, q2, q3, q4, q5, q6⟩
      obtain ⟨t, ht, -⟩ := State.frames_cons hr
      show ({ U with heap := s₂.heap, slotsUsed := s₂.slotsUsed } : State) = { U.setFrames U.frames with heap := s₂.heap, slotsUsed := s₂.slotsUsed }
      rw [State.setFrames_self ht]
    subst hg
    refine Or.inl ⟨v, ⟨(({ U with heap := s₂.heap, slotsUsed := s₂.slotsUsed } : State).setVm s₂.vm), Ls ++ L, c0 + mc, s0 + ms⟩,
      ⟨X.admits, X.cas, X.clock, X.frames, X.room, X.hears, X.method, X.code, (X.here.setHeapUsed s₂.heap s₂.slotsUsed).setVm hW'.alike, X.tail, State.WarmedH.trans X.warmed hW', X.limits, X.bytes, X.same.trans (hsame.setVm s.vm)⟩,
      ⟨g, mk, s₂, L, rfl, rfl, hqc, rfl, hL, rfl, rfl⟩, ?_⟩
    show Steps p.tables e below _ ((({ U with heap := s₂.heap, slotsUsed := s₂.slotsUsed } : State).setVm s₂.vm).setTop { g with pc := g.pc + len₂, stack := v.toList ++ g.stack })
    rw [← hs₂]
    exact hsteps
  · obtain ⟨e2, q2, q3, q4, q5, q6⟩ := id hsm
    have e3 : s₂ = ({ (U.calling g mk a).setFrames s₂.frames with heap := s₂.heap, slotsUsed := s₂.slotsUsed } : State).setVm s₂.vm := by
      have : s₂ = ({ s₂ with vm := (U.calling g mk a).vm } : State).setVm s₂.vm := rfl
      rw [e2] at this
      exact this
    have hf₂ : s₂.frames = .throwing q :: .java g :: U.frames.tail := hend
    have hW' : U.WarmedH s₂.vm := hW₂
    have hs₂ : s₂ = ((({ U with heap := s₂.heap, slotsUsed := s₂.slotsUsed } : State).setVm s₂.vm).setTop g).pushFrame (.throwing q) := by
      refine e3.trans ?_
      rw [hf₂, State.calling_eq h.top, State.setFrames_setFrames, State.pushFrame, State.frames_setTop _ hr', State.setTop_of_frames _ hr', State.setFrames_setFrames, hr]
      rfl
    have hsame : U.sameButNew ({ U with heap := s₂.heap, slotsUsed := s₂.slotsUsed } : State) L mc ms := by
      refine ⟨?_, q2, q3, q4, q5, q6⟩
      obtain ⟨t, ht, -⟩ := State.frames_cons hr
      show ({ U with heap := s₂.heap, slotsUsed := s₂.slotsUsed } : State) = { U.setFrames U.frames with heap := s₂.heap, slotsUsed := s₂.slotsUsed }
      rw [State.setFrames_self ht]
    subst hg
    refine Or.inr ⟨q, ⟨(({ U with heap := s₂.heap, slotsUsed := s₂.slotsUsed } : State).setVm s₂.vm), Ls ++ L, c0 + mc, s0 + ms⟩,
      ⟨X.admits, X.cas, X.clock, X.frames, X.room, X.hears, X.method, X.code, (X.here.setHeapUsed s₂.heap s₂.slotsUsed).setVm hW'.alike, X.tail, State.WarmedH.trans X.warmed hW', X.limits, X.bytes, X.same.trans (hsame.setVm s.vm)⟩,
      ⟨g, mk, s₂, L, E, ce, rfl, rfl, hx, hce, hcv, hcl, rfl, hL, rfl, rfl⟩, ?_⟩
    show Steps p.tables e below _ (((({ U with heap := s₂.heap, slotsUsed := s₂.slotsUsed } : State).setVm s₂.vm).setTop g).pushFrame (.throwing q))
    rw [← hs₂]
    exact hsteps
end Payer
section Calls
variable {p : Program} {l : Launch} {e : Env} {R : Room} {s : State} {m : MethodId} {args : Array Value} {below : List Frame} {meth : Method} {c : Code} {T : State} {locs : List Loc} {cells slots : Nat}
theorem vx_callV (X : Stand p l e R s m args below meth c T locs cells slots) (hexec : p.tables.exec = Jvm.exec) {own C : String} {index : Nat} {y : MethodName} {bytes : ByteArray} {maxL : Nat} {ret : Option FieldType}
    (hown : s.vm.findClass own = some m.cls) (hlink : (Cond.methodLink own index y).before args s = true) (hinst : (Cond.instanceMethod y).before args s = true) (hsel : (Cond.selects C y y).before args s = true)
    (hcode : (Cond.code y bytes maxL ret).before args s = true) (hy : y.cls ≠ "java/lang/invoke/MethodHandle" ∧ y.cls ≠ "java/lang/invoke/VarHandle")
    {W9 : Nat} {Pre : Pt → Array Value → Prop} {Post : Pt → Array Value → Option Value → Pt → Prop} {PostX : Pt → Array Value → Addr → Pt → Prop} (hK : vx_Back l R p e below s args y 3 W9 Pre Post PostX)
    {b : Addr} {cellB : Cell} (hcell : T.heap[b]? = some cellB) (hobj : cellB.vm.isStatics = false) (hcls : s.vm.findClass C = some cellB.cls)
    {g : JFrame} (hg : g.method = m) (hsize : g.locals.size = c.maxLocals) {argsL rest : List Value} (hlen : ∀ sig, parseMethodDescriptor y.desc = some sig → argsL.length = sig.parameters.length)
    (hstack : g.stack = argsL.reverse ++ .ref b :: rest) (hW : 2 * g.monitorRoom + (rest.map fun v => v.category).sum ≤ W9) (hdg : decode c.code g.pc = .ok (.invokevirtual index, 3))
    (hpre : ∀ vm₁, s.WarmedH vm₁ → Pre ⟨T.setVm vm₁, locs, cells, slots⟩ (Value.ref b :: argsL).toArray) :
    (∃ (v : Option Value) (vm₁ : Vm) (B : Pt), s.WarmedH vm₁ ∧ Stand p l e R s m args below meth c B.U B.locs B.cells B.slots ∧ Post ⟨T.setVm vm₁, locs, cells, slots⟩ (Value.ref b :: argsL).toArray v B ∧
      ∀ target, Steps p.tables e below (B.U.setTop { g with pc := g.pc + 3, stack := v.toList ++ rest }) target → Steps p.tables e below (T.setTop g) target) ∨
    (∃ (q : Addr) (vm₁ : Vm) (B : Pt), s.WarmedH vm₁ ∧ Stand p l e R s m args below meth c B.U B.locs B.cells B.slots ∧ PostX ⟨T.setVm vm₁, locs, cells, slots⟩ (Value.ref b :: argsL).toArray q B ∧
      Steps p.tables e below (T.setTop g) ((B.U.setTop { g with stack := rest }).pushFrame (.throwing q))) := by
  obtain ⟨mk, methM, hnamed, hmethM, hstM, habM⟩ := Cond.instanceMethod_spec hinst
  obtain ⟨methM', cM, hmethM', -, -, -, -, -, -, hsigM⟩ := Cond.code_spec hnamed hcode
  cases hmethM.symm.trans hmethM'
  obtain ⟨c2, r2, m2, q1, q2, q3, q4, kP, hkP, hkPi⟩ := Cond.selects_spec hsel
  cases hcls.symm.trans q1
  cases (State.methodFound?_of_named hnamed hy).symm.trans q2
  cases hnamed.symm.trans q3
  have hselP : selectMethod e.platform s.vm cellB.cls mk = .method mk := by rw [Launch.admits_selectMethod X.admits]; exact q4
  obtain ⟨vm₁, X₁, hstep₁⟩ := X.invokevirtual hexec hown hlink hnamed hmethM hstM hkP hkPi hy (a := b) (cell := cellB) hcell
    (fun z h => by rw [h] at hobj; cases hobj) hselP hmethM habM hkP hkPi (g := g) hg (argsL := argsL) (rest := rest) (hlen _ hsigM) hstack hdg
  rcases hK m meth c ⟨T.setVm vm₁, locs, cells, slots⟩ { g with stack := rest } (.invokevirtual index) mk (Value.ref b :: argsL).toArray X₁ hg hsize hdg hW (X₁.named hnamed) (hpre vm₁ X₁.warmed) with ⟨v, B, X', hpost, hsteps⟩ | ⟨q, B, X', hpost, hsteps⟩
  · exact Or.inl ⟨v, vm₁, B, X₁.warmed, X', hpost, fun target h => hstep₁ _ fun acts => by rw [doInvoke_state]; exact hsteps.trans h⟩
  · exact Or.inr ⟨q, vm₁, B, X₁.warmed, X', hpost, hstep₁ _ fun acts => by rw [doInvoke_state]; exact hsteps⟩
theorem vx_callS (X : Stand p l e R s m args below meth c T locs cells slots) (hexec : p.tables.exec = Jvm.exec) {own : String} {index : Nat} {y : MethodName} {bytes : ByteArray} {maxL : Nat} {ret : Option FieldType}
    (hown : s.vm.findClass own = some m.cls) (hlink : (Cond.methodLink own index y).before args s = true) (hstat : (Cond.static y).before args s = true) (hinit : (Cond.initialized y.cls).before args s = true)
    (hcode : (Cond.code y bytes maxL ret).before args s = true) (hy : y.cls ≠ "java/lang/invoke/MethodHandle" ∧ y.cls ≠ "java/lang/invoke/VarHandle")
    {W9 : Nat} {Pre : Pt → Array Value → Prop} {Post : Pt → Array Value → Option Value → Pt → Prop} {PostX : Pt → Array Value → Addr → Pt → Prop} (hK : vx_Back l R p e below s args y 3 W9 Pre Post PostX)
    {g : JFrame} (hg : g.method = m) (hsize : g.locals.size = c.maxLocals) {argsL rest : List Value} (hlen : ∀ sig, parseMethodDescriptor y.desc = some sig → argsL.length = sig.parameters.length)
    (hstack : g.stack = argsL.reverse ++ rest) (hW : 2 * g.monitorRoom + (rest.map fun v => v.category).sum ≤ W9) (hdg : decode c.code g.pc = .ok (.invokestatic index, 3))
    (hpre : ∀ vm₁, s.WarmedH vm₁ → Pre ⟨T.setVm vm₁, locs, cells, slots⟩ argsL.toArray) :
    (∃ (v : Option Value) (vm₁ : Vm) (B : Pt), s.WarmedH vm₁ ∧ Stand p l e R s m args below meth c B.U B.locs B.cells B.slots ∧ Post ⟨T.setVm vm₁, locs, cells, slots⟩ argsL.toArray v B ∧
      ∀ target, Steps p.tables e below (B.U.setTop { g with pc := g.pc + 3, stack := v.toList ++ rest }) target → Steps p.tables e below (T.setTop g) target) ∨
    (∃ (q : Addr) (vm₁ : Vm) (B : Pt), s.WarmedH vm₁ ∧ Stand p l e R s m args below meth c B.U B.locs B.cells B.slots ∧ PostX ⟨T.setVm vm₁, locs, cells, slots⟩ argsL.toArray q B ∧
      Steps p.tables e below (T.setTop g) ((B.U.setTop { g with stack := rest }).pushFrame (.throwing q))) := by
  obtain ⟨mk, hnamed⟩ := Cond.code_named hcode
  obtain ⟨methM, cM, hmethM, -, -, -, -, -, -, hsigM⟩ := Cond.code_spec hnamed hcode
  have hstatic : methM.isStatic = true := Cond.static_spec hnamed hmethM hstat
  obtain ⟨kP, hkP, -⟩ := className_of_methodNamed hnamed
  have hinitP : kP.init = .initialized := Cond.initialized_spec (findClass_of_methodNamed hnamed) hkP hinit
  obtain ⟨vm₁, X₁, hstep₁⟩ := X.invokestatic hexec hown hlink hnamed hmethM hstatic hkP hinitP hy (g := g) hg (argsL := argsL) (rest := rest) (hlen _ hsigM) hstack hdg
  rcases hK m meth c ⟨T.setVm vm₁, locs, cells, slots⟩ { g with stack := rest } (.invokestatic index) mk argsL.toArray X₁ hg hsize hdg hW (X₁.named hnamed) (hpre vm₁ X₁.warmed) with ⟨v, B, X', hpost, hsteps⟩ | ⟨q, B, X', hpost, hsteps⟩
  · exact Or.inl ⟨v, vm₁, B, X₁.warmed, X', hpost, fun target h => hstep₁ _ fun acts => by rw [doInvoke_state]; exact hsteps.trans h⟩
  · exact Or.inr ⟨q, vm₁, B, X₁.warmed, X', hpost, hstep₁ _ fun acts => by rw [doInvoke_state]; exact hsteps⟩
end Calls
theorem vx_cls {s : State} {T : State} {vm₁ : Vm} {E : String} {k : ClassId} (hW : s.WarmedH vm₁) (h : (T.setVm vm₁).vm.findClass E = some k) : s.vm.findClass E = some k := by
  have h1 : vm₁.findClass E = some k := h
  rw [hW.alike.findClass] at h1
  exact h1
/-- the method's frame g, with q thrown over it -/
def vx_W (p : Program) (l : Launch) (e : Env) (R : Room) (s : State) (m : MethodId) (args : Array Value) (below : List Frame) (meth : Method) (c : Code) (H : Heap) (locs : List Loc) (cells slots : Nat) (Q : State → Prop) (g : JFrame) (q : Addr) : Prop :=
  ∀ T : State, T.heap = H → Stand p l e R s m args below meth c T locs cells slots → ∃ t, Steps p.tables e below ((T.setTop g).pushFrame (.throwing q)) t ∧ Q t
def vx_Run (p : Program) (l : Launch) (e : Env) (R : Room) (s : State) (m : MethodId) (args : Array Value) (below : List Frame) (meth : Method) (c : Code) (H : Heap) (locs : List Loc) (cells slots mc ms : Nat) (g : JFrame) (rest : List Value) (Qa : State → Outcome → State → Prop) (XC : String → State → State → Prop) (free : Addr → Prop) : Prop :=
  ∀ T : State, T.heap = H → Stand p l e R s m args below meth c T locs cells slots →
    (∃ (v : Option Value) (st₀ t T' : State) (L : List Loc), st₀.heap = H ∧ Stand p l e R s m args below meth c T' (locs ++ L) (cells + mc) (slots + ms) ∧ (∀ q ∈ L, free q.base) ∧ T'.heap = t.heap ∧ T'.vm = t.vm ∧ Qa st₀ (.returned v) t ∧
      Goes p e below T g T' { g with pc := g.pc + 3, stack := v.toList ++ rest }) ∨
    (∃ (q : Addr) (st₀ t T' : State) (L : List Loc) (E : String) (ce : Cell), st₀.heap = H ∧ Stand p l e R s m args below meth c T' (locs ++ L) (cells + mc) (slots + ms) ∧ (∀ z ∈ L, free z.base) ∧ T'.heap = t.heap ∧ T'.vm = t.vm ∧ XC E st₀ t ∧ t.heap[q]? = some ce ∧ ce.vm = .none ∧ s.vm.findClass E = some ce.cls ∧
      Steps p.tables e below (T.setTop g) ((T'.setTop { g with stack := rest }).pushFrame (.throwing q)))
def vx_X {S : Type} (px : S → Prop) (B : String → S → State → Prop) (A : Nat → Prop) : String → State → State → Prop := fun E st t => ∃ u : S, px u ∧ B E u t ∧ va_F A st t
section Runs
variable {p : Program} {l : Launch} {e : Env} {R : Room} {s : State} {m : MethodId} {args : Array Value} {below : List Frame} {meth : Method} {c : Code} {H : Heap} {locs : List Loc} {cells slots : Nat}
variable {y : MethodName} {bytes cc : ByteArray} {maxL nL mc ms n index : Nat} {ret : Option FieldType} {ws : List Cond} {rm : Room} {Pc : Array Value → State → Prop} {Qc : Array Value → State → Outcome → State → Prop} {XC : String → State → State → Prop} {free : Addr → Prop} {Ts : List Cond} {own C : String} {b : Addr} {As rest : List Value} {g : JFrame}
theorem vx_callBack (cb : CallB R s args own index y bytes maxL ret ws rm mc ms n) (hM : vx_Met l y ws rm Pc Qc XC mc ms free) (hbl : FrameBlind Pc) : vx_Back l R p e below s args y 3 8 (PreOf R mc ms Pc) (PostOf Qc mc ms free) (vx_Post XC mc ms free) := by
  obtain ⟨hrc, hrs, hfr, hlo, hws, hcw, -, hini, -⟩ := cb
  exact vx_back (bytes := bytes) (maxL := maxL) (ret := ret) hM hbl hrc hrs hfr hlo hws hcw (fun a' U hW => word_at hW (Or.inl (by first | rfl | simp [Cond.onTables, Cond.keeps, Cond.steady])) hini)
theorem vx_runV (S : CallFix p m c cc nL s args Ts own) (hM : vx_Met l y ws rm Pc Qc XC mc ms free) (cw : CallW R s args own C index y bytes maxL ret ws rm mc ms n) (hp : PreV s H C b Pc As)
    (hg : g.method = m) (hn : As.length = n) (hsize : g.locals.size = nL) (hstack : g.stack = As.reverse ++ .ref b :: rest) (hW : 2 * g.monitorRoom + (rest.map fun v => v.category).sum ≤ 8) (hdg : decode cc g.pc = .ok (.invokevirtual index, 3)) (hf : cells + mc ≤ R.cells ∧ slots + ms ≤ R.slots) :
    vx_Run p l e R s m args below meth c H locs cells slots mc ms g rest (Qc (Value.ref b :: As).toArray) XC free := by
  have hK : vx_Back l R p e below s args y 3 8 (PreOf R mc ms Pc) (PostOf Qc mc ms free) (vx_Post XC mc ms free) := vx_callBack cw.1 hM hp.1
  obtain ⟨⟨-, -, -, -, -, -, hcode, -, hy, hlen, hl⟩, hin, hse⟩ := cw
  obtain ⟨hx, hb, hml, ho, -⟩ := S
  obtain ⟨-, ⟨cellB, hcB, hoB, hclB⟩, hPc⟩ := hp
  intro T hT X
  rcases vx_callV X hx (C := C) (bytes := bytes) (maxL := maxL) (ret := ret) ho hl hin hse hcode hy hK (by rw [hT]; exact hcB) hoB hclB hg (hsize.trans hml.symm) (argsL := As) (rest := rest) (fun sig h => hn.trans (hlen sig h)) hstack hW (by rw [hb]; exact hdg)
    (fun vm₁ hW₁ => ⟨hf.1, hf.2, hPc (T.setVm vm₁) hT hW₁⟩) with ⟨v, vm₁, ⟨U', l2, c2, s2⟩, hW₁, X', ⟨g', mk, t, L, e1, e2, hq, h1, hL, h2, h3⟩, st⟩ | ⟨q, vm₁, ⟨U', l2, c2, s2⟩, hW₁, X', ⟨g', mk, t, L, E, ce, e1, e2, hq, hce, hcv, hcl, h1, hL, h2, h3⟩, st⟩
  · dsimp only [Pt.U, Pt.locs, Pt.cells, Pt.slots] at X' e1 e2 h1 h2 h3 st
    subst h1; subst h2; subst h3
    exact Or.inl ⟨v, (T.setVm vm₁).calling g' mk (Value.ref b :: As).toArray, t, U', L, hT, X', hL, e1, e2, hq, st⟩
  · dsimp only [Pt.U, Pt.locs, Pt.cells, Pt.slots] at X' e1 e2 h1 h2 h3 st hcl
    subst h1; subst h2; subst h3
    exact Or.inr ⟨q, (T.setVm vm₁).calling g' mk (Value.ref b :: As).toArray, t, U', L, E, ce, hT, X', hL, e1, e2, hq, hce, hcv, vx_cls hW₁ hcl, st⟩
theorem vx_runS (S : CallFix p m c cc nL s args Ts own) (hM : vx_Met l y ws rm Pc Qc XC mc ms free) (cw : CallB R s args own index y bytes maxL ret ws rm mc ms n ∧ (Cond.static y).before args s = true) (hp : PreS s H Pc As)
    (hg : g.method = m) (hn : As.length = n) (hsize : g.locals.size = nL) (hstack : g.stack = As.reverse ++ rest) (hW : 2 * g.monitorRoom + (rest.map fun v => v.category).sum ≤ 8) (hdg : decode cc g.pc = .ok (.invokestatic index, 3)) (hf : cells + mc ≤ R.cells ∧ slots + ms ≤ R.slots) :
    vx_Run p l e R s m args below meth c H locs cells slots mc ms g rest (Qc As.toArray) XC free := by
  have hK : vx_Back l R p e below s args y 3 8 (PreOf R mc ms Pc) (PostOf Qc mc ms free) (vx_Post XC mc ms free) := vx_callBack cw.1 hM hp.1
  obtain ⟨⟨-, -, -, -, -, -, hcode, hini, hy, hlen, hl⟩, hstt⟩ := cw
  obtain ⟨hx, hb, hml, ho, -⟩ := S
  intro T hT X
  rcases vx_callS X hx (bytes := bytes) (maxL := maxL) (ret := ret) ho hl hstt hini hcode hy hK hg (hsize.trans hml.symm) (argsL := As) (rest := rest) (fun sig h => hn.trans (hlen sig h)) hstack hW (by rw [hb]; exact hdg)
    (fun vm₁ hW₁ => ⟨hf.1, hf.2, hp.2 (T.setVm vm₁) hT hW₁⟩) with ⟨v, vm₁, ⟨U', l2, c2, s2⟩, hW₁, X', ⟨g', mk, t, L, e1, e2, hq, h1, hL, h2, h3⟩, st⟩ | ⟨q, vm₁, ⟨U', l2, c2, s2⟩, hW₁, X', ⟨g', mk, t, L, E, ce, e1, e2, hq, hce, hcv, hcl, h1, hL, h2, h3⟩, st⟩
  · dsimp only [Pt.U, Pt.locs, Pt.cells, Pt.slots] at X' e1 e2 h1 h2 h3 st
    subst h1; subst h2; subst h3
    exact Or.inl ⟨v, (T.setVm vm₁).calling g' mk As.toArray, t, U', L, hT, X', hL, e1, e2, hq, st⟩
  · dsimp only [Pt.U, Pt.locs, Pt.cells, Pt.slots] at X' e1 e2 h1 h2 h3 st hcl
    subst h1; subst h2; subst h3
    exact Or.inr ⟨q, (T.setVm vm₁).calling g' mk As.toArray, t, U', L, E, ce, hT, X', hL, e1, e2, hq, hce, hcv, vx_cls hW₁ hcl, st⟩
end Runs
section Rows
variable {p : Program} {l : Launch} {e : Env} {R : Room} {s : State} {m : MethodId} {args : Array Value} {below : List Frame} {meth : Method} {c : Code} {H : Heap} {locs : List Loc} {cells slots : Nat} {Q : State → Prop}
variable {mc ms : Nat} {free : Addr → Prop} {A0 A1 : Nat → Prop} {H0 : Heap} {a : Array Value} {pc : Nat} {ls : Array Slot} {st0 rest : List Value}
theorem vx_keep {st₀ t T' : State} {L : List Loc} (h0 : st₀.heap = H) (e1 : T'.heap = t.heap) (hS : va_S A0 H0 H locs) (hA : ∀ q, q < H.size → A1 q → A0 q) (hf : ∀ q, free q → A0 q) (hL : ∀ q ∈ L, free q.base) (hF : va_F A1 st₀ t) :
    H.size ≤ T'.heap.size ∧ (∀ q : Nat, q < H.size → ¬ A1 q → T'.heap[q]? = H[q]?) ∧ va_S A0 H0 T'.heap (locs ++ L) := by
  obtain ⟨hz, hk⟩ := hF
  rw [h0] at hz hk
  exact ⟨by rw [e1]; exact hz, fun q h1 h2 => by rw [e1]; exact hk q h1 h2,
    ⟨Nat.le_trans hS.1 (by rw [e1]; exact hz), fun q h1 h2 => by rw [e1, hk q (Nat.lt_of_lt_of_le h1 hS.1) (fun z => h2 (hA q (Nat.lt_of_lt_of_le h1 hS.1) z))]; exact hS.2.1 q h1 h2, fun q hq => by
      rcases List.mem_append.mp hq with h | h
      · exact hS.2.2 q h
      · exact hf _ (hL q h)⟩⟩
theorem vx_calli {S SX : Type} {post : Int32 → S → Prop} {px : SX → Prop} {B : S → State → Prop} {BX : String → SX → State → Prop} {AX : Nat → Prop} (hr : vx_Run p l e R s m args below meth c H locs cells slots mc ms (F0 m pc ls st0) rest (va_Qi post B A1 a) (vx_X px BX AX) free) (hS : va_S A0 H0 H locs) (hA : ∀ q, q < H.size → A1 q → A0 q) (hf : ∀ q, free q → A0 q) (hAX : ∀ q, q < H.size → AX q → A0 q)
    (kx : ∀ (E : String) (ce : Cell) (q9 : Addr) (u : SX) (t : State) (H1 : Heap) (locs1 : List Loc), t.heap = H1 → s.vm.Alike t.vm → px u → BX E u t → H.size ≤ H1.size → (∀ q : Nat, q < H.size → ¬ AX q → H1[q]? = H[q]?) → va_S A0 H0 H1 locs1 → H1[q9]? = some ce → ce.vm = .none → s.vm.findClass E = some ce.cls → vx_W p l e R s m args below meth c H1 locs1 (cells + mc) (slots + ms) Q (F0 m pc ls rest) q9)
    (kk : ∀ (r : Int32) (u : S) (t : State) (H1 : Heap) (locs1 : List Loc), t.heap = H1 → s.vm.Alike t.vm → post r u → B u t → H.size ≤ H1.size → (∀ q : Nat, q < H.size → ¬ A1 q → H1[q]? = H[q]?) → va_S A0 H0 H1 locs1 → W p l e R s m args below meth c H1 locs1 (cells + mc) (slots + ms) Q (F0 m (pc + 3) ls (.int r :: rest))) : W p l e R s m args below meth c H locs cells slots Q (F0 m pc ls st0) := by
  intro T hT X
  rcases hr T hT X with ⟨v, st₀, t, T', L, h0, X', hL, e1, e2, ⟨⟨r, u, hv, hp, hb⟩, hF⟩, st⟩ | ⟨q, st₀, t, T', L, E, ce, h0, X', hL, e1, e2, ⟨u, hp, hb, hF⟩, hce, hcv, hcl, st⟩
  · cases hv
    obtain ⟨k1, k2, k3⟩ := vx_keep h0 e1 hS hA hf hL hF
    obtain ⟨t2, a1, b1⟩ := kk r u t T'.heap (locs ++ L) e1.symm (by rw [← e2]; exact X'.warmed.alike) hp hb k1 k2 k3 T' rfl X'
    exact ⟨t2, st t2 a1, b1⟩
  · obtain ⟨k1, k2, k3⟩ := vx_keep h0 e1 hS hAX hf hL hF
    obtain ⟨t2, a1, b1⟩ := kx E ce q u t T'.heap (locs ++ L) e1.symm (by rw [← e2]; exact X'.warmed.alike) hp hb k1 k2 k3 (by rw [e1]; exact hce) hcv hcl T' rfl X'
    exact ⟨t2, st.trans a1, b1⟩
theorem vx_calll {S SX : Type} {post : Int64 → S → Prop} {px : SX → Prop} {B : S → State → Prop} {BX : String → SX → State → Prop} {AX : Nat → Prop} (hr : vx_Run p l e R s m args below meth c H locs cells slots mc ms (F0 m pc ls st0) rest (va_Ql post B A1 a) (vx_X px BX AX) free) (hS : va_S A0 H0 H locs) (hA : ∀ q, q < H.size → A1 q → A0 q) (hf : ∀ q, free q → A0 q) (hAX : ∀ q, q < H.size → AX q → A0 q)
    (kx : ∀ (E : String) (ce : Cell) (q9 : Addr) (u : SX) (t : State) (H1 : Heap) (locs1 : List Loc), t.heap = H1 → s.vm.Alike t.vm → px u → BX E u t → H.size ≤ H1.size → (∀ q : Nat, q < H.size → ¬ AX q → H1[q]? = H[q]?) → va_S A0 H0 H1 locs1 → H1[q9]? = some ce → ce.vm = .none → s.vm.findClass E = some ce.cls → vx_W p l e R s m args below meth c H1 locs1 (cells + mc) (slots + ms) Q (F0 m pc ls rest) q9)
    (kk : ∀ (r : Int64) (u : S) (t : State) (H1 : Heap) (locs1 : List Loc), t.heap = H1 → s.vm.Alike t.vm → post r u → B u t → H.size ≤ H1.size → (∀ q : Nat, q < H.size → ¬ A1 q → H1[q]? = H[q]?) → va_S A0 H0 H1 locs1 → W p l e R s m args below meth c H1 locs1 (cells + mc) (slots + ms) Q (F0 m (pc + 3) ls (.long r :: rest))) : W p l e R s m args below meth c H locs cells slots Q (F0 m pc ls st0) := by
  intro T hT X
  rcases hr T hT X with ⟨v, st₀, t, T', L, h0, X', hL, e1, e2, ⟨⟨r, u, hv, hp, hb⟩, hF⟩, st⟩ | ⟨q, st₀, t, T', L, E, ce, h0, X', hL, e1, e2, ⟨u, hp, hb, hF⟩, hce, hcv, hcl, st⟩
  · cases hv
    obtain ⟨k1, k2, k3⟩ := vx_keep h0 e1 hS hA hf hL hF
    obtain ⟨t2, a1, b1⟩ := kk r u t T'.heap (locs ++ L) e1.symm (by rw [← e2]; exact X'.warmed.alike) hp hb k1 k2 k3 T' rfl X'
    exact ⟨t2, st t2 a1, b1⟩
  · obtain ⟨k1, k2, k3⟩ := vx_keep h0 e1 hS hAX hf hL hF
    obtain ⟨t2, a1, b1⟩ := kx E ce q u t T'.heap (locs ++ L) e1.symm (by rw [← e2]; exact X'.warmed.alike) hp hb k1 k2 k3 (by rw [e1]; exact hce) hcv hcl T' rfl X'
    exact ⟨t2, st.trans a1, b1⟩
theorem vx_callf {S SX : Type} {post : UInt32 → S → Prop} {px : SX → Prop} {B : S → State → Prop} {BX : String → SX → State → Prop} {AX : Nat → Prop} (hr : vx_Run p l e R s m args below meth c H locs cells slots mc ms (F0 m pc ls st0) rest (va_Qf post B A1 a) (vx_X px BX AX) free) (hS : va_S A0 H0 H locs) (hA : ∀ q, q < H.size → A1 q → A0 q) (hf : ∀ q, free q → A0 q) (hAX : ∀ q, q < H.size → AX q → A0 q)
    (kx : ∀ (E : String) (ce : Cell) (q9 : Addr) (u : SX) (t : State) (H1 : Heap) (locs1 : List Loc), t.heap = H1 → s.vm.Alike t.vm → px u → BX E u t → H.size ≤ H1.size → (∀ q : Nat, q < H.size → ¬ AX q → H1[q]? = H[q]?) → va_S A0 H0 H1 locs1 → H1[q9]? = some ce → ce.vm = .none → s.vm.findClass E = some ce.cls → vx_W p l e R s m args below meth c H1 locs1 (cells + mc) (slots + ms) Q (F0 m pc ls rest) q9)
    (kk : ∀ (r : UInt32) (u : S) (t : State) (H1 : Heap) (locs1 : List Loc), t.heap = H1 → s.vm.Alike t.vm → post r u → B u t → H.size ≤ H1.size → (∀ q : Nat, q < H.size → ¬ A1 q → H1[q]? = H[q]?) → va_S A0 H0 H1 locs1 → W p l e R s m args below meth c H1 locs1 (cells + mc) (slots + ms) Q (F0 m (pc + 3) ls (.float r :: rest))) : W p l e R s m args below meth c H locs cells slots Q (F0 m pc ls st0) := by
  intro T hT X
  rcases hr T hT X with ⟨v, st₀, t, T', L, h0, X', hL, e1, e2, ⟨⟨r, u, hv, hp, hb⟩, hF⟩, st⟩ | ⟨q, st₀, t, T', L, E, ce, h0, X', hL, e1, e2, ⟨u, hp, hb, hF⟩, hce, hcv, hcl, st⟩
  · cases hv
    obtain ⟨k1, k2, k3⟩ := vx_keep h0 e1 hS hA hf hL hF
    obtain ⟨t2, a1, b1⟩ := kk r u t T'.heap (locs ++ L) e1.symm (by rw [← e2]; exact X'.warmed.alike) hp hb k1 k2 k3 T' rfl X'
    exact ⟨t2, st t2 a1, b1⟩
  · obtain ⟨k1, k2, k3⟩ := vx_keep h0 e1 hS hAX hf hL hF
    obtain ⟨t2, a1, b1⟩ := kx E ce q u t T'.heap (locs ++ L) e1.symm (by rw [← e2]; exact X'.warmed.alike) hp hb k1 k2 k3 (by rw [e1]; exact hce) hcv hcl T' rfl X'
    exact ⟨t2, st.trans a1, b1⟩
theorem vx_calld {S SX : Type} {post : UInt64 → S → Prop} {px : SX → Prop} {B : S → State → Prop} {BX : String → SX → State → Prop} {AX : Nat → Prop} (hr : vx_Run p l e R s m args below meth c H locs cells slots mc ms (F0 m pc ls st0) rest (va_Qd post B A1 a) (vx_X px BX AX) free) (hS : va_S A0 H0 H locs) (hA : ∀ q, q < H.size → A1 q → A0 q) (hf : ∀ q, free q → A0 q) (hAX : ∀ q, q < H.size → AX q → A0 q)
    (kx : ∀ (E : String) (ce : Cell) (q9 : Addr) (u : SX) (t : State) (H1 : Heap) (locs1 : List Loc), t.heap = H1 → s.vm.Alike t.vm → px u → BX E u t → H.size ≤ H1.size → (∀ q : Nat, q < H.size → ¬ AX q → H1[q]? = H[q]?) → va_S A0 H0 H1 locs1 → H1[q9]? = some ce → ce.vm = .none → s.vm.findClass E = some ce.cls → vx_W p l e R s m args below meth c H1 locs1 (cells + mc) (slots + ms) Q (F0 m pc ls rest) q9)
    (kk : ∀ (r : UInt64) (u : S) (t : State) (H1 : Heap) (locs1 : List Loc), t.heap = H1 → s.vm.Alike t.vm → post r u → B u t → H.size ≤ H1.size → (∀ q : Nat, q < H.size → ¬ A1 q → H1[q]? = H[q]?) → va_S A0 H0 H1 locs1 → W p l e R s m args below meth c H1 locs1 (cells + mc) (slots + ms) Q (F0 m (pc + 3) ls (.double r :: rest))) : W p l e R s m args below meth c H locs cells slots Q (F0 m pc ls st0) := by
  intro T hT X
  rcases hr T hT X with ⟨v, st₀, t, T', L, h0, X', hL, e1, e2, ⟨⟨r, u, hv, hp, hb⟩, hF⟩, st⟩ | ⟨q, st₀, t, T', L, E, ce, h0, X', hL, e1, e2, ⟨u, hp, hb, hF⟩, hce, hcv, hcl, st⟩
  · cases hv
    obtain ⟨k1, k2, k3⟩ := vx_keep h0 e1 hS hA hf hL hF
    obtain ⟨t2, a1, b1⟩ := kk r u t T'.heap (locs ++ L) e1.symm (by rw [← e2]; exact X'.warmed.alike) hp hb k1 k2 k3 T' rfl X'
    exact ⟨t2, st t2 a1, b1⟩
  · obtain ⟨k1, k2, k3⟩ := vx_keep h0 e1 hS hAX hf hL hF
    obtain ⟨t2, a1, b1⟩ := kx E ce q u t T'.heap (locs ++ L) e1.symm (by rw [← e2]; exact X'.warmed.alike) hp hb k1 k2 k3 (by rw [e1]; exact hce) hcv hcl T' rfl X'
    exact ⟨t2, st.trans a1, b1⟩
theorem vx_callv {S SX : Type} {post : S → Prop} {px : SX → Prop} {B : S → State → Prop} {BX : String → SX → State → Prop} {AX : Nat → Prop} (hr : vx_Run p l e R s m args below meth c H locs cells slots mc ms (F0 m pc ls st0) rest (va_Qv post B A1 a) (vx_X px BX AX) free) (hS : va_S A0 H0 H locs) (hA : ∀ q, q < H.size → A1 q → A0 q) (hf : ∀ q, free q → A0 q) (hAX : ∀ q, q < H.size → AX q → A0 q)
    (kx : ∀ (E : String) (ce : Cell) (q9 : Addr) (u : SX) (t : State) (H1 : Heap) (locs1 : List Loc), t.heap = H1 → s.vm.Alike t.vm → px u → BX E u t → H.size ≤ H1.size → (∀ q : Nat, q < H.size → ¬ AX q → H1[q]? = H[q]?) → va_S A0 H0 H1 locs1 → H1[q9]? = some ce → ce.vm = .none → s.vm.findClass E = some ce.cls → vx_W p l e R s m args below meth c H1 locs1 (cells + mc) (slots + ms) Q (F0 m pc ls rest) q9)
    (kk : ∀ (u : S) (t : State) (H1 : Heap) (locs1 : List Loc), t.heap = H1 → s.vm.Alike t.vm → post u → B u t → H.size ≤ H1.size → (∀ q : Nat, q < H.size → ¬ A1 q → H1[q]? = H[q]?) → va_S A0 H0 H1 locs1 → W p l e R s m args below meth c H1 locs1 (cells + mc) (slots + ms) Q (F0 m (pc + 3) ls (rest))) : W p l e R s m args below meth c H locs cells slots Q (F0 m pc ls st0) := by
  intro T hT X
  rcases hr T hT X with ⟨v, st₀, t, T', L, h0, X', hL, e1, e2, ⟨⟨u, hv, hp, hb⟩, hF⟩, st⟩ | ⟨q, st₀, t, T', L, E, ce, h0, X', hL, e1, e2, ⟨u, hp, hb, hF⟩, hce, hcv, hcl, st⟩
  · cases hv
    obtain ⟨k1, k2, k3⟩ := vx_keep h0 e1 hS hA hf hL hF
    obtain ⟨t2, a1, b1⟩ := kk u t T'.heap (locs ++ L) e1.symm (by rw [← e2]; exact X'.warmed.alike) hp hb k1 k2 k3 T' rfl X'
    exact ⟨t2, st t2 a1, b1⟩
  · obtain ⟨k1, k2, k3⟩ := vx_keep h0 e1 hS hAX hf hL hF
    obtain ⟨t2, a1, b1⟩ := kx E ce q u t T'.heap (locs ++ L) e1.symm (by rw [← e2]; exact X'.warmed.alike) hp hb k1 k2 k3 (by rw [e1]; exact hce) hcv hcl T' rfl X'
    exact ⟨t2, st.trans a1, b1⟩
end Rows
section Ends
variable {p : Program} {l : Launch} {e : Env} {R : Room} {s : State} {m : MethodId} {args : Array Value} {below : List Frame} {meth : Method} {c : Code} {H : Heap} {locs : List Loc} {cells slots : Nat} {Q : State → Prop}
variable {mc ms : Nat} {free : Addr → Prop} {A0 A1 : Nat → Prop} {H0 : Heap} {a : Array Value} {ls : Array Slot} {st0 rest : List Value}
variable {Qc : Array Value → State → Outcome → State → Prop} {XC : String → State → State → Prop}
/-- what a body that may throw owes at its end -/
def vx_MQ (below : List Frame) (Qc : Array Value → State → Outcome → State → Prop) (XC : String → State → State → Prop) (a : Array Value) (s : State) (mc ms : Nat) (free : Addr → Prop) : State → Prop := fun t =>
  ∃ o, t.status = .running ∧ Ended t below o ∧ vx_Q Qc XC mc ms free a s o t
theorem vx_ret {g : JFrame} {mc ms : Nat} (k : W p l e R s m args below meth c H locs cells slots (MQ below Qc args s mc ms free) g) : W p l e R s m args below meth c H locs cells slots (vx_MQ below Qc XC args s mc ms free) g := by
  intro T hT X
  obtain ⟨t, a1, o, b1, b2, b3, b4⟩ := k T hT X
  exact ⟨t, a1, o, b1, b2, Or.inl ⟨b3, b4⟩⟩
/-- not caught here: it goes on to the caller -/
theorem vx_widen {g : JFrame} {q : Addr} {k n : Nat} (h1 : cells ≤ k) (h2 : slots ≤ n) (kk : vx_W p l e R s m args below meth c H locs k n Q g q) : vx_W p l e R s m args below meth c H locs cells slots Q g q := fun T hT X => kk T hT (stand_widen X h1 h2)
theorem vx_out {pc : Nat} {E : String} {ce : Cell} {q : Addr} {mc ms : Nat} (hout : ∀ x ∈ c.exceptionTable.toList, covers x pc = false) (hlocks : meth.locks = false) (hcell : H[q]? = some ce) (hv : ce.vm = .none) (hcl : s.vm.findClass E = some ce.cls)
    (hx : ∀ t : State, t.heap = H → s.vm.Alike t.vm → XC E s t) (hf : ∀ z ∈ locs, free z.base) (hc : cells ≤ mc) (hs : slots ≤ ms) :
    vx_W p l e R s m args below meth c H locs cells slots (vx_MQ below Qc XC args s mc ms free) (F0 m pc ls rest) q := by
  intro T hT X
  obtain ⟨st1, hrun, hend, hW, hsm⟩ := X.leaveThrown q (g := F0 m pc ls rest) rfl rfl rfl hout hlocks
  have hcell9 : (T.setFrames (.throwing q :: below)).heap[q]? = some ce := by
    show T.heap[q]? = some ce
    rw [hT]; exact hcell
  exact ⟨_, st1, .threw q, hrun, hend, Or.inr ⟨q, rfl, E, ce, locs, hx _ hT hW.alike, hcell9, hv, hcl, hW, hsm.mono hc hs, hf⟩⟩
theorem vx_frame {U : State} {k n : Nat} (h : s.sameButNew ({ U with vm := s.vm } : State) locs k n) : s.heap.size ≤ U.heap.size ∧ ∀ q : Nat, q < s.heap.size → (∀ z ∈ locs, z.base ≠ q) → U.heap[q]? = s.heap[q]? := by
  obtain ⟨-, h2, -, -, -, h6⟩ := h
  refine ⟨h2, fun q hq hz => ?_⟩
  obtain ⟨c9, e1, e2, e3, e4⟩ := h6 q _ (Array.getElem?_eq_getElem hq)
  have hs : c9.slots = (s.heap[q]).slots := Array.ext_getElem? fun i => e4 i fun hm => hz _ hm rfl
  have h9 : c9 = s.heap[q] := by
    rw [hs] at e2
    exact e2
  have e5 : U.heap[q]? = some c9 := e1
  rw [e5, h9, Array.getElem?_eq_getElem hq]
/-- the words of a throw but the four that speak of the heap -/
def vx_no (w : Cond) : Bool := decide (w ≠ .isRef (.static Bundle.tN "UNASSIGNED_STACK" Bundle.steD)) && decide (w ≠ .isRef (.static Bundle.tN "SUPPRESSED_SENTINEL" Bundle.listD)) && decide (w ≠ .laysStatic Bundle.tN "UNASSIGNED_STACK" Bundle.steD) && decide (w ≠ .laysStatic Bundle.tN "SUPPRESSED_SENTINEL" Bundle.listD)
def vx_at0 (own : String) (ic : Nat) (X : String) (names : List String) : List Cond := (Bundle.ownAtoms0 own ic X names).filter vx_no
def vx_atS (own : String) (ic : Nat) (X : String) (names : List String) : List Cond := (Bundle.ownAtoms own ic X names).filter vx_no
/-- a word that the tables alone decide, or a good one -/
def vx_ot (w : Cond) : Bool := w.onTables || goodWord w
theorem vx_ot_at {args a' : Array Value} {s U : State} {w : Cond} (hW : s.WarmedH U.vm) (hvm : s.vm = U.vm) (hg : vx_ot w = true) (h : w.before args s = true) : w.before a' U = true := by
  simp only [vx_ot, Bool.or_eq_true] at hg
  rcases hg with hg | hg
  · exact va_tabs hg hvm h
  · exact word_at hW (good_of_word hg) h
/-- a list's words: the good ones out of the method's own list, the others by premises of their own -/
theorem vx_hat {args : Array Value} {s : State} {L B : List Cond} (h1 : ∀ w ∈ L.filter goodWord, w.before args s = true) (h2 : ∀ w ∈ L.filter (fun w => !goodWord w), w ∈ B) (h3 : ∀ w ∈ B, w.before args s = true) : ∀ w ∈ L, w.before args s = true := by
  intro w hw
  by_cases g : goodWord w = true
  · exact h1 w (List.mem_filter.mpr ⟨hw, g⟩)
  · refine h3 w (h2 w (List.mem_filter.mpr ⟨hw, ?_⟩))
    show (!goodWord w) = true
    cases hgw : goodWord w
    · rfl
    · exact absurd hgw g
theorem vx_c {args : Array Value} {s : State} {w : Cond} {B : List Cond} (h : w.before args s = true) (t : ∀ w ∈ B, w.before args s = true) : ∀ w' ∈ w :: B, w'.before args s = true := fun w' h' => (List.mem_cons.mp h').elim (fun e => by rw [e]; exact h) (t w')
theorem vx_n {args : Array Value} {s : State} : ∀ w ∈ ([] : List Cond), w.before args s = true := fun _ h => nomatch h
theorem vx_own {args : Array Value} {s : State} {L : List Cond} (h1 : ∀ w ∈ L.filter vx_no, w.before args s = true)
    (hU : (Cond.isRef (.static Bundle.tN "UNASSIGNED_STACK" Bundle.steD)).before args s = true) (hN : (Cond.isRef (.static Bundle.tN "SUPPRESSED_SENTINEL" Bundle.listD)).before args s = true)
    (lU : (Cond.laysStatic Bundle.tN "UNASSIGNED_STACK" Bundle.steD).before args s = true) (lN : (Cond.laysStatic Bundle.tN "SUPPRESSED_SENTINEL" Bundle.listD).before args s = true) : ∀ w ∈ L, w.before args s = true := by
  intro w hw
  by_cases e1 : w = .isRef (.static Bundle.tN "UNASSIGNED_STACK" Bundle.steD)
  · rw [e1]; exact hU
  · by_cases e2 : w = .isRef (.static Bundle.tN "SUPPRESSED_SENTINEL" Bundle.listD)
    · rw [e2]; exact hN
    · by_cases e3 : w = .laysStatic Bundle.tN "UNASSIGNED_STACK" Bundle.steD
      · rw [e3]; exact lU
      · by_cases e4 : w = .laysStatic Bundle.tN "SUPPRESSED_SENTINEL" Bundle.listD
        · rw [e4]; exact lN
        · exact h1 w (List.mem_filter.mpr ⟨hw, by unfold vx_no; rw [decide_eq_true e1, decide_eq_true e2, decide_eq_true e3, decide_eq_true e4]; rfl⟩)
/-- where a static field lies, its class's statics cell in H -/
def vx_L (C n d : String) (A : Nat → Prop) (U : State) (H : Heap) : Prop := ∃ (c : ClassId) (k : Class) (i : Nat) (f : Field) (a : Nat) (cell : Cell), U.vm.findClass C = some c ∧ U.fieldFound? C n d = some (c, k, i, f) ∧ f.isStatic = true ∧ k.statics = some a ∧ H[a]? = some cell ∧ cell.vm.isStatics = true ∧ cell.cls = c ∧ f.slot < cell.slots.size ∧ k.staticTypes[f.slot]? = some f.type ∧ ¬ A a
theorem vx_L.moved {C n d : String} {A : Nat → Prop} {u U : State} {H : Heap} (hvm : u.vm.Alike U.vm) (h : vx_L C n d A u H) : vx_L C n d A U H := by
  obtain ⟨c, k, i, f, a, cell, h1, h2, h3, h4, h5, h6, h7, h8, h9, h10⟩ := h
  obtain ⟨k', hi', he⟩ := State.fieldFound?_setVm hvm h2
  exact ⟨c, k', i, f, a, cell, by rw [hvm.findClass]; exact h1, hi', h3, by rw [he]; exact h4, h5, h6, h7, h8, by rw [he]; exact h9, h10⟩
theorem vx_L.kept {C n d : String} {A : Nat → Prop} {U : State} {H H1 : Heap} (h : vx_L C n d A U H) (hq : ∀ a : Nat, a < H.size → ¬ A a → H1[a]? = H[a]?) : vx_L C n d A U H1 := by
  obtain ⟨c, k, i, f, a, cell, h1, h2, h3, h4, h5, h6, h7, h8, h9, h10⟩ := h
  exact ⟨c, k, i, f, a, cell, h1, h2, h3, h4, by rw [hq a (Array.getElem?_eq_some_iff.mp h5).1 h10]; exact h5, h6, h7, h8, h9, h10⟩
theorem vx_L.narrow {C n d : String} {A B : Nat → Prop} {U : State} {H : Heap} (h : vx_L C n d A U H) (hAB : ∀ q, B q → A q) : vx_L C n d B U H := by
  obtain ⟨c, k, i, f, a, cell, h1, h2, h3, h4, h5, h6, h7, h8, h9, h10⟩ := h
  exact ⟨c, k, i, f, a, cell, h1, h2, h3, h4, h5, h6, h7, h8, h9, fun z => h10 (hAB _ z)⟩
theorem vx_L.word {C n d : String} {A : Nat → Prop} {s : State} {args : Array Value} (h : vx_L C n d A s s.heap) : (Cond.laysStatic C n d).before args s = true := by
  obtain ⟨c, k, i, f, a, cell, h1, h2, h3, h4, h5, h6, h7, h8, h9, -⟩ := h
  show (Cond.laysStatic C n d).holds args s none s [] = true
  exact Cond.laysStatic_of h1 h2 h3 h4 h5 h6 h7 h8 h9
/-- .. and what it holds: null or some reference -/
def vx_Zq (C n d : String) (A : Nat → Prop) (U : State) (H : Heap) : Prop := va_Zq C n d A U H ∧ vx_L C n d A U H
theorem vx_Zq.moved {C n d : String} {A : Nat → Prop} {u U : State} {H : Heap} (hvm : u.vm.Alike U.vm) (h : vx_Zq C n d A u H) : vx_Zq C n d A U H := ⟨va_Zq.moved hvm h.1, vx_L.moved hvm h.2⟩
theorem vx_Zq.kept {C n d : String} {A : Nat → Prop} {U : State} {H H1 : Heap} (h : vx_Zq C n d A U H) (hq : ∀ a : Nat, a < H.size → ¬ A a → H1[a]? = H[a]?) : vx_Zq C n d A U H1 := ⟨va_Zq.kept h.1 hq, vx_L.kept h.2 hq⟩
theorem vx_Zq.narrow {C n d : String} {A B : Nat → Prop} {U : State} {H : Heap} (h : vx_Zq C n d A U H) (hAB : ∀ q, B q → A q) : vx_Zq C n d B U H := ⟨va_Zq.narrow h.1 hAB, vx_L.narrow h.2 hAB⟩
theorem vx_Zqof {args : Array Value} {s : State} {C n d : String} {A : Nat → Prop} (hl : (Cond.laysStatic C n d).before args s = true) (hini : (Cond.initialized C).before args s = true) (h : (Cond.isRef (.static C n d)).before args s = true) (hA : ∀ a : Nat, a < s.heap.size → ¬ A a) : vx_Zq C n d A s s.heap := by
  refine ⟨va_Zqof hl hini h hA, ?_⟩
  obtain ⟨c, k, i, f, a, cell, h1, h2, h3, h4, h5, h6, h7, h8, h9⟩ := Cond.laysStatic_spec hl
  exact ⟨c, k, i, f, a, cell, h1, h2, h3, h4, h5, h6, h7, h8, h9, hA a (Array.getElem?_eq_some_iff.mp h5).1⟩
theorem vx_isRef {C n d : String} {v : Value} {A : Nat → Prop} {s : State} {args : Array Value} (h : va_Z C n d v A s s.heap) (hv : v.isRef = true) : (Cond.isRef (.static C n d)).before args s = true := by
  obtain ⟨cf, kf, fi, f, a, cell, h1, h2, h3, h4, h5, h6, h7, -⟩ := h
  have he : (Term.static C n d).eval args s none [] s = some v := by
    simp [Term.eval, State.fieldNamed?, h1, h2, h4, h5, h6, h7]
  simp only [Cond.before, Cond.holds, Cond.value, he]
  cases v <;> simp_all [Value.isRef]
theorem vx_isRefq {C n d : String} {A : Nat → Prop} {s : State} {args : Array Value} (h : va_Zq C n d A s s.heap) : (Cond.isRef (.static C n d)).before args s = true := by
  rcases h with h | ⟨t, h⟩
  · exact vx_isRef h rfl
  · exact vx_isRef h rfl
/-- the same frame, seen from here: as if the method were called anew in this heap -/
theorem vx_rebase {T : State} (X : Stand p l e R s m args below meth c T locs cells slots) {R' : Room} (hf : R'.frames ≤ R.frames) (hl : R'.locals ≤ R.locals) (hc : cells + R'.cells ≤ R.cells) (hs : slots + R'.slots ≤ R.slots) :
    Stand p l e R' ((T.setVm s.vm).setFrames (.invoking m args :: below)) m args below meth c T [] 0 0 := by
  have htop : (T.setVm s.vm).topJava?.isSome := X.here.top
  have hF : ((T.setVm s.vm).setFrames (.invoking m args :: below)).frames = .invoking m args :: below := State.frames_setFrames _ (State.cur_lt_of_top htop)
  obtain ⟨g₀, hg0⟩ := Option.isSome_iff_exists.mp htop
  obtain ⟨r, hr⟩ := State.topJava?_eq_some.mp hg0
  have hl9 : e.platform.stackLimits (T.setVm s.vm).me = e.platform.stackLimits s.me := X.limits
  have hb9 : (T.setVm s.vm).me.stackBytes = s.me.stackBytes := X.bytes
  refine ⟨X.admits, X.cas, X.clock, hF, ?_, X.hears, X.method, X.code, X.here, X.tail, X.warmed, ?_, ?_, ?_⟩
  · have h := X.room
    have hU : ((T.setVm s.vm).setFrames (.invoking m args :: below)).localsInUse = s.localsInUse := by
      rw [State.localsInUse_invoking hF (meth := meth) (c := c) X.method X.code, State.localsInUse_invoking X.frames X.method X.code]
    simp only [State.hasRoom, Bool.and_eq_true, decide_eq_true_eq] at h ⊢
    obtain ⟨⟨⟨⟨h1, h2, h3, h4, h5, h6⟩, h7⟩, h8⟩, h9⟩ := h
    rw [X.frames, List.length_cons] at h2 h3
    have q1 := X.heapSize
    have q2 := X.used
    simp only [hF, hU, List.length_cons, State.stackLimits_setFrames, State.stackBytes_setFrames, hl9, hb9]
    refine ⟨⟨⟨⟨by omega, by omega, by omega, by omega, by omega, h6⟩, ?_⟩, ?_⟩, X.book⟩
    · show T.heap.size + R'.cells ≤ e.platform.maxCells
      omega
    · show T.slotsUsed + R'.slots ≤ e.platform.maxSlots
      omega
  · rw [State.stackLimits_setFrames]; rfl
  · rw [State.stackBytes_setFrames]; rfl
  · refine ⟨?_, Nat.le_refl _, Nat.le_refl _, ?_, ?_, fun a c9 h9 => ⟨c9, h9, rfl, rfl, fun _ _ => rfl⟩⟩
    · obtain ⟨t, ht, -⟩ := State.frames_cons hr
      show T.setVm s.vm = { ((T.setVm s.vm).setFrames (.invoking m args :: below)).setFrames (T.setVm s.vm).frames with heap := T.heap, slotsUsed := T.slotsUsed }
      rw [State.setFrames_setFrames, State.setFrames_self ht]
      rfl
    · show T.slotsUsed = T.slotsUsed + ((T.heap.toList.drop T.heap.size).map (·.slots.size)).sum
      rw [List.drop_eq_nil_of_le (Nat.le_of_eq Array.length_toList)]
      rfl
    · show ((T.heap.toList.drop T.heap.size).map (·.slots.size)).sum ≤ 0
      rw [List.drop_eq_nil_of_le (Nat.le_of_eq Array.length_toList)]
      exact Nat.le_refl _
/-- 'throw new E()': new; dup; invokespecial; athrow -/
theorem vx_throw0 {cc : ByteArray} {pc : Nat} (hexec : p.tables.exec = Jvm.exec) (hb : c.code = cc) (hl : l.stackTraces = false) {own cls : String} {names : List String} {ik ic mc ms : Nat} {A : Nat → Prop}
    (hown : s.vm.findClass own = some m.cls) (hcls : Bundle.fit cls = true) (hnames : ∀ n ∈ names, Bundle.fit n = true)
    (hk : (Cond.classLink own ik cls).before args s = true) (hini : (Cond.initialized cls).before args s = true) (hat : ∀ w ∈ vx_at0 own ic cls names, w.before args s = true)
    (hgood : ∀ w ∈ Cond.classLink own ik cls :: Cond.initialized cls :: vx_at0 own ic cls names, vx_ot w = true)
    (hU : vx_Zq Bundle.tN "UNASSIGNED_STACK" Bundle.steD A s s.heap) (hN : vx_Zq Bundle.tN "SUPPRESSED_SENTINEL" Bundle.listD A s s.heap) (hS : va_S A s.heap H locs) (hsize : ls.size = c.maxLocals)
    (d0 : decode cc pc = .ok (.new ik, 3)) (d3 : decode cc (pc + 3) = .ok (.dup, 1)) (d4 : decode cc (pc + 4) = .ok (.invokespecial ic, 3)) (d7 : decode cc (pc + 7) = .ok (.athrow, 1))
    (hout : ∀ x ∈ c.exceptionTable.toList, covers x (pc + 7) = false)
    (hRframes : names.length + 3 < R.frames) (hRlocals : (rest.map fun v => v.category).sum + (13 * (names.length + 1) + 42) ≤ R.locals) (hRcells : cells + 1 ≤ R.cells) (hRslots : slots + 6 ≤ R.slots) (hlocks : meth.locks = false)
    (hx : ∀ t : State, s.vm.Alike t.vm → H.size ≤ t.heap.size → (∀ q : Nat, q < H.size → t.heap[q]? = H[q]?) → XC cls s t)
    (hf : ∀ z ∈ locs, free z.base) (hc : cells + 1 ≤ mc) (hs : slots + 6 ≤ ms) :
    W p l e R s m args below meth c H locs cells slots (vx_MQ below Qc XC args s mc ms free) (F0 m pc ls rest) := by
  intro T hT X
  have htr : e.platform.stackTraces = false := (show e.platform.stackTraces = l.stackTraces by rw [X.admits.platform]).trans hl
  have Y := vx_rebase X (R' := { frames := R.frames, locals := R.locals, cells := 1, slots := 6 }) (Nat.le_refl _) (Nat.le_refl _) hRcells hRslots
  obtain ⟨s', hA⟩ : ∃ z, z = (T.setVm s.vm).setFrames (.invoking m args :: below) := ⟨_, rfl⟩
  rw [← hA] at Y
  have hvm : s'.vm = s.vm := by rw [hA]; rfl
  have hhp : s'.heap = H := by rw [hA]; exact hT
  have hW0 : s.WarmedH s'.vm := by rw [hvm]; exact State.WarmedH.refl s
  have hat' : ∀ w ∈ vx_at0 own ic cls names, w.before args s' = true := fun w hw => vx_ot_at hW0 hvm.symm (hgood w (List.mem_cons_of_mem _ (List.mem_cons_of_mem _ hw))) (hat w hw)
  have hk' : (Cond.classLink own ik cls).before args s' = true := vx_ot_at hW0 hvm.symm (hgood _ List.mem_cons_self) hk
  have hini' : (Cond.initialized cls).before args s' = true := vx_ot_at hW0 hvm.symm (hgood _ (List.mem_cons_of_mem _ List.mem_cons_self)) hini
  have hU' : vx_Zq Bundle.tN "UNASSIGNED_STACK" Bundle.steD A s' s'.heap := by rw [hhp]; exact vx_Zq.moved hW0.alike (hU.kept hS.2.1)
  have hN' : vx_Zq Bundle.tN "SUPPRESSED_SENTINEL" Bundle.listD A s' s'.heap := by rw [hhp]; exact vx_Zq.moved hW0.alike (hN.kept hS.2.1)
  have h : ∀ w ∈ Bundle.ownAtoms0 own ic cls names, w.before args s' = true := vx_own hat' (vx_isRefq hU'.1) (vx_isRefq hN'.1) hU'.2.word hN'.2.word
  have hown' : s'.vm.findClass own = some m.cls := by rw [hvm]; exact hown
  have hins : (Cond.instantiable cls 6).before args s' = true := h _ (by simp [Bundle.ownAtoms0])
  obtain ⟨vm₁, cX, kX, hfX, hkX, -, -, X₁, st1⟩ := Y.newCold hexec (own := own) (C := cls) (index := ik) (n := 6) hown' hk' hins hini'
    (g := F0 m pc ls rest) rfl (by rw [hb]; exact d0) (Nat.le_refl _) (Nat.le_refl _)
  generalize hT1 : (T.setVm vm₁).pushCell { cls := cX, slots := kX.instanceTypes.map defaultValue, vm := .none } = T1 at X₁ st1
  have hcat : (Value.ref T.heap.size).category = 1 := rfl
  have hcellA : T1.heap[T.heap.size]? = some (freshCell cX kX) := by rw [← hT1]; exact State.heap_pushCell_size _ _
  have d3' : decode c.code (pc + 3) = .ok (.dup, 1) := by rw [hb]; exact d3
  obtain ⟨U, hsteps, hrun, hend, hW, hsame, ce, hce, hO⟩ := X₁.ctorThrow0 hexec htr (own := own) (cls := cls) (names := names) (ic := ic) hown' hcls hnames h (fun x hx => nomatch hx) hfX hkX hcellA (by rw [hhp, hT]; exact Nat.le_refl _)
    (g := { method := m, pc := pc + 4, locals := ls, stack := .ref T.heap.size :: .ref T.heap.size :: rest, locked := none }) rfl hsize rfl rfl (rest := rest) rfl
    (by rw [hb]; exact d4) (by rw [hb]; exact d7) hout hRframes (by simp only [List.map_cons, List.sum_cons, hcat]; omega) hlocks
  obtain ⟨f1, f2⟩ := vx_frame hsame
  rw [hhp] at f1 f2
  have hWs : s.WarmedH U.vm := State.WarmedH.trans hW0 hW
  have hcl : s.vm.findClass cls = some ce.cls := by
    have h9 := hO.cls
    rw [hvm] at h9
    exact h9
  have hall : s.sameButNew ({ U with vm := s.vm } : State) locs mc ms := by
    subst hA
    obtain ⟨e1, e2⟩ := hsame
    rw [State.setFrames_setFrames] at e1
    have h2 : (T.setVm s.vm).sameButNew ({ U with vm := s.vm } : State) [] (0 + 1) (0 + 6) := ⟨e1, e2⟩
    have h3 := X.same.trans h2
    rw [List.append_nil] at h3
    exact h3.mono hc hs
  refine ⟨U, ?_, .threw T.heap.size, hrun, hend, Or.inr ⟨T.heap.size, rfl, cls, ce, locs, hx U hWs.alike f1 (fun q hq => f2 q hq (fun z hz => nomatch hz)), hce, hO.vm, hcl, hWs, hall, hf⟩⟩
  refine st1 _ ?_
  show Steps p.tables e below (T1.setTop { method := m, pc := pc + 3, locals := ls, stack := .ref T.heap.size :: rest, locked := none }) _
  jvm_step X₁.here [X₁.here.top, hexec, d3', Value.category]
  exact hsteps
/-- 'throw new E("text")': new; dup; ldc; invokespecial; athrow -/
theorem vx_throwS {cc : ByteArray} {pc : Nat} (hexec : p.tables.exec = Jvm.exec) (hb : c.code = cc) (hl : l.stackTraces = false) {own cls text : String} {names : List String} {ik is ic mc ms sa : Nat} {A : Nat → Prop}
    (hown : s.vm.findClass own = some m.cls) (hcls : Bundle.fit cls = true) (hnames : ∀ n ∈ names, Bundle.fit n = true)
    (hk : (Cond.classLink own ik cls).before args s = true) (hini : (Cond.initialized cls).before args s = true) (hstr : vk_R own is text sa s) (hat : ∀ w ∈ vx_atS own ic cls names, w.before args s = true)
    (hgood : ∀ w ∈ Cond.classLink own ik cls :: Cond.initialized cls :: vx_atS own ic cls names, vx_ot w = true)
    (hU : vx_Zq Bundle.tN "UNASSIGNED_STACK" Bundle.steD A s s.heap) (hN : vx_Zq Bundle.tN "SUPPRESSED_SENTINEL" Bundle.listD A s s.heap) (hS : va_S A s.heap H locs) (hsize : ls.size = c.maxLocals)
    (d0 : decode cc pc = .ok (.new ik, 3)) (d3 : decode cc (pc + 3) = .ok (.dup, 1)) (d4 : decode cc (pc + 4) = .ok (.ldc is, 2)) (d6 : decode cc (pc + 6) = .ok (.invokespecial ic, 3)) (d9 : decode cc (pc + 9) = .ok (.athrow, 1))
    (hout : ∀ x ∈ c.exceptionTable.toList, covers x (pc + 9) = false)
    (hRframes : names.length + 3 < R.frames) (hRlocals : (rest.map fun v => v.category).sum + (13 * (names.length + 1) + 43) ≤ R.locals) (hRcells : cells + 1 ≤ R.cells) (hRslots : slots + 6 ≤ R.slots) (hlocks : meth.locks = false)
    (hx : ∀ t : State, s.vm.Alike t.vm → H.size ≤ t.heap.size → (∀ q : Nat, q < H.size → t.heap[q]? = H[q]?) → XC cls s t)
    (hf : ∀ z ∈ locs, free z.base) (hc : cells + 1 ≤ mc) (hs : slots + 6 ≤ ms) :
    W p l e R s m args below meth c H locs cells slots (vx_MQ below Qc XC args s mc ms free) (F0 m pc ls rest) := by
  intro T hT X
  have htr : e.platform.stackTraces = false := (show e.platform.stackTraces = l.stackTraces by rw [X.admits.platform]).trans hl
  have Y := vx_rebase X (R' := { frames := R.frames, locals := R.locals, cells := 1, slots := 6 }) (Nat.le_refl _) (Nat.le_refl _) hRcells hRslots
  obtain ⟨s', hA⟩ : ∃ z, z = (T.setVm s.vm).setFrames (.invoking m args :: below) := ⟨_, rfl⟩
  rw [← hA] at Y
  have hvm : s'.vm = s.vm := by rw [hA]; rfl
  have hhp : s'.heap = H := by rw [hA]; exact hT
  have hW0 : s.WarmedH s'.vm := by rw [hvm]; exact State.WarmedH.refl s
  have hat' : ∀ w ∈ vx_atS own ic cls names, w.before args s' = true := fun w hw => vx_ot_at hW0 hvm.symm (hgood w (List.mem_cons_of_mem _ (List.mem_cons_of_mem _ hw))) (hat w hw)
  have hk' : (Cond.classLink own ik cls).before args s' = true := vx_ot_at hW0 hvm.symm (hgood _ List.mem_cons_self) hk
  have hini' : (Cond.initialized cls).before args s' = true := vx_ot_at hW0 hvm.symm (hgood _ (List.mem_cons_of_mem _ List.mem_cons_self)) hini
  have hU' : vx_Zq Bundle.tN "UNASSIGNED_STACK" Bundle.steD A s' s'.heap := by rw [hhp]; exact vx_Zq.moved hW0.alike (hU.kept hS.2.1)
  have hN' : vx_Zq Bundle.tN "SUPPRESSED_SENTINEL" Bundle.listD A s' s'.heap := by rw [hhp]; exact vx_Zq.moved hW0.alike (hN.kept hS.2.1)
  have h : ∀ w ∈ Bundle.ownAtoms own ic cls names, w.before args s' = true := vx_own hat' (vx_isRefq hU'.1) (vx_isRefq hN'.1) hU'.2.word hN'.2.word
  have hown' : s'.vm.findClass own = some m.cls := by rw [hvm]; exact hown
  have hins : (Cond.instantiable cls 6).before args s' = true := h _ (by simp [Bundle.ownAtoms])
  obtain ⟨vm₁, cX, kX, hfX, hkX, -, -, X₁, st1⟩ := Y.newCold hexec (own := own) (C := cls) (index := ik) (n := 6) hown' hk' hins hini'
    (g := F0 m pc ls rest) rfl (by rw [hb]; exact d0) (Nat.le_refl _) (Nat.le_refl _)
  generalize hT1 : (T.setVm vm₁).pushCell { cls := cX, slots := kX.instanceTypes.map defaultValue, vm := .none } = T1 at X₁ st1
  have hcat : (Value.ref T.heap.size).category = 1 := rfl
  have hcellA : T1.heap[T.heap.size]? = some (freshCell cX kX) := by rw [← hT1]; exact State.heap_pushCell_size _ _
  have d3' : decode c.code (pc + 3) = .ok (.dup, 1) := by rw [hb]; exact d3
  have d4' : decode c.code (pc + 4) = .ok (.ldc is, 2) := by rw [hb]; exact d4
  have hstr' : vk_R own is text sa s' := vk_R.warm hW0 hstr
  obtain ⟨U, hsteps, hrun, hend, hW, hsame, ce, hce, hO⟩ := X₁.ctorThrowS hexec htr (own := own) (cls := cls) (names := names) (ic := ic) hown' hcls hnames h (fun x hx => nomatch hx) hfX hkX hcellA (by rw [hhp, hT]; exact Nat.le_refl _) (msg := .ref sa) rfl
    (g := { method := m, pc := pc + 6, locals := ls, stack := .ref sa :: .ref T.heap.size :: .ref T.heap.size :: rest, locked := none }) rfl hsize rfl rfl (rest := rest) rfl
    (by rw [hb]; exact d6) (by rw [hb]; exact d9) hout hRframes (by simp only [List.map_cons, List.sum_cons, hcat]; omega) hlocks
  obtain ⟨f1, f2⟩ := vx_frame hsame
  rw [hhp] at f1 f2
  have hWs : s.WarmedH U.vm := State.WarmedH.trans hW0 hW
  have hcl : s.vm.findClass cls = some ce.cls := by
    have h9 := hO.cls
    rw [hvm] at h9
    exact h9
  have hall : s.sameButNew ({ U with vm := s.vm } : State) locs mc ms := by
    subst hA
    obtain ⟨e1, e2⟩ := hsame
    rw [State.setFrames_setFrames] at e1
    have h2 : (T.setVm s.vm).sameButNew ({ U with vm := s.vm } : State) [] (0 + 1) (0 + 6) := ⟨e1, e2⟩
    have h3 := X.same.trans h2
    rw [List.append_nil] at h3
    exact h3.mono hc hs
  refine ⟨U, ?_, .threw T.heap.size, hrun, hend, Or.inr ⟨T.heap.size, rfl, cls, ce, locs, hx U hWs.alike f1 (fun q hq => f2 q hq (fun z hz => nomatch hz)), hce, hO.vm, hcl, hWs, hall, hf⟩⟩
  refine st1 _ ?_
  show Steps p.tables e below (T1.setTop { method := m, pc := pc + 3, locals := ls, stack := .ref T.heap.size :: rest, locked := none }) _
  jvm_step X₁.here [X₁.here.top, hexec, d3', Value.category]
  exact X₁.ldcString hexec (own := own) (text := text) (index := is) (a := sa) hown' hstr'.1 hstr'.2
    (g := { method := m, pc := pc + 4, locals := ls, stack := .ref T.heap.size :: .ref T.heap.size :: rest, locked := none }) rfl d4' _ hsteps
/-- 'throw new E("text")', the text by a wide index -/
theorem vx_throwSW {cc : ByteArray} {pc : Nat} (hexec : p.tables.exec = Jvm.exec) (hb : c.code = cc) (hl : l.stackTraces = false) {own cls text : String} {names : List String} {ik is ic mc ms sa : Nat} {A : Nat → Prop}
    (hown : s.vm.findClass own = some m.cls) (hcls : Bundle.fit cls = true) (hnames : ∀ n ∈ names, Bundle.fit n = true)
    (hk : (Cond.classLink own ik cls).before args s = true) (hini : (Cond.initialized cls).before args s = true) (hstr : vk_R own is text sa s) (hat : ∀ w ∈ vx_atS own ic cls names, w.before args s = true)
    (hgood : ∀ w ∈ Cond.classLink own ik cls :: Cond.initialized cls :: vx_atS own ic cls names, vx_ot w = true)
    (hU : vx_Zq Bundle.tN "UNASSIGNED_STACK" Bundle.steD A s s.heap) (hN : vx_Zq Bundle.tN "SUPPRESSED_SENTINEL" Bundle.listD A s s.heap) (hS : va_S A s.heap H locs) (hsize : ls.size = c.maxLocals)
    (d0 : decode cc pc = .ok (.new ik, 3)) (d3 : decode cc (pc + 3) = .ok (.dup, 1)) (d4 : decode cc (pc + 4) = .ok (.ldc_w is, 3)) (d7 : decode cc (pc + 7) = .ok (.invokespecial ic, 3)) (d10 : decode cc (pc + 10) = .ok (.athrow, 1))
    (hout : ∀ x ∈ c.exceptionTable.toList, covers x (pc + 10) = false)
    (hRframes : names.length + 3 < R.frames) (hRlocals : (rest.map fun v => v.category).sum + (13 * (names.length + 1) + 43) ≤ R.locals) (hRcells : cells + 1 ≤ R.cells) (hRslots : slots + 6 ≤ R.slots) (hlocks : meth.locks = false)
    (hx : ∀ t : State, s.vm.Alike t.vm → H.size ≤ t.heap.size → (∀ q : Nat, q < H.size → t.heap[q]? = H[q]?) → XC cls s t)
    (hf : ∀ z ∈ locs, free z.base) (hc : cells + 1 ≤ mc) (hs : slots + 6 ≤ ms) :
    W p l e R s m args below meth c H locs cells slots (vx_MQ below Qc XC args s mc ms free) (F0 m pc ls rest) := by
  intro T hT X
  have htr : e.platform.stackTraces = false := (show e.platform.stackTraces = l.stackTraces by rw [X.admits.platform]).trans hl
  have Y := vx_rebase X (R' := { frames := R.frames, locals := R.locals, cells := 1, slots := 6 }) (Nat.le_refl _) (Nat.le_refl _) hRcells hRslots
  obtain ⟨s', hA⟩ : ∃ z, z = (T.setVm s.vm).setFrames (.invoking m args :: below) := ⟨_, rfl⟩
  rw [← hA] at Y
  have hvm : s'.vm = s.vm := by rw [hA]; rfl
  have hhp : s'.heap = H := by rw [hA]; exact hT
  have hW0 : s.WarmedH s'.vm := by rw [hvm]; exact State.WarmedH.refl s
  have hat' : ∀ w ∈ vx_atS own ic cls names, w.before args s' = true := fun w hw => vx_ot_at hW0 hvm.symm (hgood w (List.mem_cons_of_mem _ (List.mem_cons_of_mem _ hw))) (hat w hw)
  have hk' : (Cond.classLink own ik cls).before args s' = true := vx_ot_at hW0 hvm.symm (hgood _ List.mem_cons_self) hk
  have hini' : (Cond.initialized cls).before args s' = true := vx_ot_at hW0 hvm.symm (hgood _ (List.mem_cons_of_mem _ List.mem_cons_self)) hini
  have hU' : vx_Zq Bundle.tN "UNASSIGNED_STACK" Bundle.steD A s' s'.heap := by rw [hhp]; exact vx_Zq.moved hW0.alike (hU.kept hS.2.1)
  have hN' : vx_Zq Bundle.tN "SUPPRESSED_SENTINEL" Bundle.listD A s' s'.heap := by rw [hhp]; exact vx_Zq.moved hW0.alike (hN.kept hS.2.1)
  have h : ∀ w ∈ Bundle.ownAtoms own ic cls names, w.before args s' = true := vx_own hat' (vx_isRefq hU'.1) (vx_isRefq hN'.1) hU'.2.word hN'.2.word
  have hown' : s'.vm.findClass own = some m.cls := by rw [hvm]; exact hown
  have hins : (Cond.instantiable cls 6).before args s' = true := h _ (by simp [Bundle.ownAtoms])
  obtain ⟨vm₁, cX, kX, hfX, hkX, -, -, X₁, st1⟩ := Y.newCold hexec (own := own) (C := cls) (index := ik) (n := 6) hown' hk' hins hini'
    (g := F0 m pc ls rest) rfl (by rw [hb]; exact d0) (Nat.le_refl _) (Nat.le_refl _)
  generalize hT1 : (T.setVm vm₁).pushCell { cls := cX, slots := kX.instanceTypes.map defaultValue, vm := .none } = T1 at X₁ st1
  have hcat : (Value.ref T.heap.size).category = 1 := rfl
  have hcellA : T1.heap[T.heap.size]? = some (freshCell cX kX) := by rw [← hT1]; exact State.heap_pushCell_size _ _
  have d3' : decode c.code (pc + 3) = .ok (.dup, 1) := by rw [hb]; exact d3
  have d4' : decode c.code (pc + 4) = .ok (.ldc_w is, 3) := by rw [hb]; exact d4
  have hstr' : vk_R own is text sa s' := vk_R.warm hW0 hstr
  obtain ⟨U, hsteps, hrun, hend, hW, hsame, ce, hce, hO⟩ := X₁.ctorThrowS hexec htr (own := own) (cls := cls) (names := names) (ic := ic) hown' hcls hnames h (fun x hx => nomatch hx) hfX hkX hcellA (by rw [hhp, hT]; exact Nat.le_refl _) (msg := .ref sa) rfl
    (g := { method := m, pc := pc + 7, locals := ls, stack := .ref sa :: .ref T.heap.size :: .ref T.heap.size :: rest, locked := none }) rfl hsize rfl rfl (rest := rest) rfl
    (by rw [hb]; exact d7) (by rw [hb]; exact d10) hout hRframes (by simp only [List.map_cons, List.sum_cons, hcat]; omega) hlocks
  obtain ⟨f1, f2⟩ := vx_frame hsame
  rw [hhp] at f1 f2
  have hWs : s.WarmedH U.vm := State.WarmedH.trans hW0 hW
  have hcl : s.vm.findClass cls = some ce.cls := by
    have h9 := hO.cls
    rw [hvm] at h9
    exact h9
  have hall : s.sameButNew ({ U with vm := s.vm } : State) locs mc ms := by
    subst hA
    obtain ⟨e1, e2⟩ := hsame
    rw [State.setFrames_setFrames] at e1
    have h2 : (T.setVm s.vm).sameButNew ({ U with vm := s.vm } : State) [] (0 + 1) (0 + 6) := ⟨e1, e2⟩
    have h3 := X.same.trans h2
    rw [List.append_nil] at h3
    exact h3.mono hc hs
  refine ⟨U, ?_, .threw T.heap.size, hrun, hend, Or.inr ⟨T.heap.size, rfl, cls, ce, locs, hx U hWs.alike f1 (fun q hq => f2 q hq (fun z hz => nomatch hz)), hce, hO.vm, hcl, hWs, hall, hf⟩⟩
  refine st1 _ ?_
  show Steps p.tables e below (T1.setTop { method := m, pc := pc + 3, locals := ls, stack := .ref T.heap.size :: rest, locked := none }) _
  jvm_step X₁.here [X₁.here.top, hexec, d3', Value.category]
  exact X₁.ldcStringW hexec (own := own) (text := text) (index := is) (a := sa) hown' hstr'.1 hstr'.2
    (g := { method := m, pc := pc + 4, locals := ls, stack := .ref T.heap.size :: .ref T.heap.size :: rest, locked := none }) rfl d4' _ hsteps
end Ends
section Bodies
variable {l : Launch}
theorem vx_ofW {y : MethodName} {ws ws' : List Cond} {rm : Room} {Pc : Array Value → State → Prop} {Qc : Array Value → State → Outcome → State → Prop} {XC : String → State → State → Prop} {mc ms : Nat} {free : Addr → Prop} {cc : ByteArray} {maxL : Nat} {ret : Option FieldType}
    (hy : plainName y.cls = true) (hw : ws = Cond.code y cc maxL ret :: ws')
    (body : ∀ p e s m args below meth c s₁, BodyLoose p l y (headSpec ws rm) cc maxL ret e s m args below meth c s₁ → c.maxLocals = maxL → (∀ x ∈ c.exceptionTable.toList, False) → Pc args s →
      W p l e (headSpec ws rm).room s m args below meth c s.heap [] 0 0 (vx_MQ below Qc XC args s mc ms free) (entryFrame m args maxL)) : vx_Met l y ws rm Pc Qc XC mc ms free := by
  refine MetFree.of_bodyS (code := cc) (maxLocals := maxL) (ret := ret) hy ?_ ?_
  · intro args s m h hn
    obtain ⟨meth, c, h1, h2, h3, h4, h5, h6, -, -⟩ := Cond.code_spec hn (atoms_spec (ws := ws) h _ (by rw [hw]; exact List.mem_cons_self))
    exact ⟨meth, c, h1, h2, h3, h4, h5, h6⟩
  · intro p e s m args below meth c s₁ B hml hP _
    have hh0 : s₁.heap = s.heap := by rw [B.state]; rfl
    have ht : ∀ x ∈ c.exceptionTable.toList, False := by
      obtain ⟨meth9, c9, h1, h2, -, -, -, -, h7, -⟩ := Cond.code_spec B.named (atoms_spec (ws := ws) B.pre _ (by rw [hw]; exact List.mem_cons_self))
      cases Option.some.inj (h1.symm.trans B.method)
      cases Option.some.inj (h2.symm.trans (Stand.of_body B).code)
      intro x hx
      rw [Array.isEmpty_iff.mp h7] at hx
      cases hx
    obtain ⟨t, a1, o, b1, b2, b3⟩ := body p e s m args below meth c s₁ B hml ht hP s₁ hh0 (Stand.of_body B)
    exact ⟨t, o, a1, b1, b2, b3⟩
/-- the table of a body with handlers -/
theorem vx_table {p : Program} {x y : MethodName} {S : Spec} {cc bytes : ByteArray} {maxL maxL' : Nat} {ret ret' : Option FieldType} {e : Env} {s s₁ : State} {m : MethodId} {args : Array Value} {below : List Frame} {meth : Method} {c : Code} {hh : List (Nat × Nat × Nat × Nat)}
    (B : BodyLoose p l y S cc maxL ret e s m args below meth c s₁) (h : (Cond.codeWith y bytes maxL' ret' hh).before args s = true) : c.exceptionTable.toList = tableOf hh := by
  obtain ⟨m9, meth9, c9, hn9, h1, h2, -, -, h6, -⟩ := Cond.codeWith_spec h
  cases Option.some.inj (hn9.symm.trans B.named)
  cases Option.some.inj (h1.symm.trans B.method)
  cases Option.some.inj (h2.symm.trans (Stand.of_body B).code)
  rw [← h6, table_eq]
end Bodies
end VXA
/-! ===== END ===== -/
/-! ===== a thrown object is caught by a row of the method's own table (our own rows; the library has sisters of them under Shelf42, which rounds don't import) ===== -/
section CZ
/-- what the search for a handler answers, and the tables that it leaves -/
def cz_F (e : Env) (s : State) (f : JFrame) (a : Addr) (h : Handler) (vm' : Vm) : Prop :=
  ∀ (Q : Handler → Pre) (E : CtlPost) (d : Bool) (acts : List Action), wp (findHandler f a) Q E e d acts s ↔ Q h d acts (s.setVm vm')
theorem cz_link {Q : Handler → Pre} {E : CtlPost} {e : Env} {d : Bool} {acts : List Action} {s : State} {f : JFrame} {a : Addr} {x : ExceptionTableEntry} {t : List ExceptionTableEntry} {c : ClassId} {cell : Cell} (hx : covers x f.pc = true) (h0 : x.catchType ≠ 0)
    (hl : s.vm.ClassLinks e.platform f.method.cls x.catchType c) (hcell : s.heap[a]? = some cell) (hobj : ∀ k, cell.vm ≠ .statics k)
    (hk : ∃ k, s.vm.classes[cell.cls]? = some k) (hc : ∃ k, s.vm.classes[c]? = some k) :
    wp (findHandler.go f a (x :: t)) Q E e d acts s ↔ if s.vm.assignable cell.cls c = true then Q (.found x.handlerPc) d acts (s.setVm (s.vm.noted f.method.cls x.catchType (.cls c))) else wp (findHandler.go f a t) Q E e d acts (s.setVm (s.vm.noted f.method.cls x.catchType (.cls c))) := by
  simp only [covers] at hx
  obtain ⟨ha, ht⟩ := (resolveClass_links e.toSetting hl).op (op := VmOp.resolveClass f.method.cls x.catchType) rfl
  have hal : s.vm.Alike (s.vm.noted f.method.cls x.catchType (.cls c)) := (Vm.Alike.refl s.vm).noted _ _ _
  obtain ⟨k1, hk1⟩ := hk
  obtain ⟨k2, hk2⟩ := hc
  obtain ⟨k1', hk1', -⟩ := hal.2.2 _ _ hk1
  obtain ⟨k2', hk2', -⟩ := hal.2.2 _ _ hk2
  have hfit' : (s.vm.noted f.method.cls x.catchType (.cls c)).assignable cell.cls c = s.vm.assignable cell.cls c := hal.assignable _ _
  cases hfit : s.vm.assignable cell.cls c <;> rw [hfit] at hfit' <;>
    simp [findHandler.go, hx, h0, ha, ht, hcell, hobj, hk1', hk2', hfit', VmOp.dirties, VmOp.acts]
/-- a row that the object passes by: it doesn't cover the place, or it names a class that the object isn't of -/
def cz_pass (pl : Platform) (s₀ : State) (d : ClassId) (pc : Nat) (thrown : ClassId) (y : ExceptionTableEntry) : Prop :=
  covers y pc = false ∨ (y.catchType ≠ 0 ∧ ∃ c, s₀.vm.ClassLinks pl d y.catchType c ∧ s₀.vm.assignable thrown c = false)
theorem cz_go {e : Env} {s₀ : State} {f : JFrame} {a : Addr} {cell : Cell} (hobj : ∀ k, cell.vm ≠ .statics k) (hk0 : ∃ k, s₀.vm.classes[cell.cls]? = some k)
    (x : ExceptionTableEntry) (rest : List ExceptionTableEntry) (hx : covers x f.pc = true) (h0 : x.catchType ≠ 0) {cT : ClassId} (hl : s₀.vm.ClassLinks e.platform f.method.cls x.catchType cT) (hfit : s₀.vm.assignable cell.cls cT = true) :
    ∀ (pre : List ExceptionTableEntry) (S : State), s₀.WarmedH S.vm → S.heap[a]? = some cell → (∀ y ∈ pre, cz_pass e.platform s₀ f.method.cls f.pc cell.cls y) →
      ∃ vm', s₀.WarmedH vm' ∧ ∀ (Q : Handler → Pre) (E : CtlPost) (d : Bool) (acts : List Action), wp (findHandler.go f a (pre ++ x :: rest)) Q E e d acts S ↔ Q (.found x.handlerPc) d acts (S.setVm vm') := by
  obtain ⟨k0, hk0⟩ := hk0
  intro pre
  induction pre with
  | nil =>
    intro S hW hcell _
    obtain ⟨k0', hk0', -⟩ := hW.alike.2.2 _ _ hk0
    obtain ⟨dk, _, _, kt, hd, _, _, _, _, hkt, _, hopen⟩ := hl.here
    obtain ⟨kt', hkt', -⟩ := hW.alike.2.2 _ _ hkt
    refine ⟨_, hW.noted hd hopen (State.rightAt_cls hl), fun Q E d acts => ?_⟩
    rw [List.nil_append, cz_link hx h0 (hW.classLinks hl) hcell hobj ⟨k0', hk0'⟩ ⟨kt', hkt'⟩, if_pos (by rw [hW.alike.assignable]; exact hfit)]
  | cons y ys ih =>
    intro S hW hcell hpass
    obtain ⟨k0', hk0', -⟩ := hW.alike.2.2 _ _ hk0
    have hrest : ∀ z ∈ ys, cz_pass e.platform s₀ f.method.cls f.pc cell.cls z := fun z hz => hpass z (List.mem_cons_of_mem _ hz)
    cases hcov : covers y f.pc with
    | false =>
      obtain ⟨vm', hW', hq⟩ := ih S hW hcell hrest
      refine ⟨vm', hW', fun Q E d acts => ?_⟩
      rw [List.cons_append, W.findHandler_go_skip hcov]
      exact hq Q E d acts
    | true =>
      rcases hpass y List.mem_cons_self with h | ⟨hy0, c, hly, hno⟩
      · rw [h] at hcov; cases hcov
      · obtain ⟨dk, _, _, kt, hd, _, _, _, _, hkt, _, hopen⟩ := hly.here
        obtain ⟨kt', hkt', -⟩ := hW.alike.2.2 _ _ hkt
        obtain ⟨vm', hW', hq⟩ := ih (S.setVm (S.vm.noted f.method.cls y.catchType (.cls c))) (hW.noted hd hopen (State.rightAt_cls hly)) hcell hrest
        refine ⟨vm', hW', fun Q E d acts => ?_⟩
        rw [List.cons_append, cz_link hcov hy0 (hW.classLinks hly) hcell hobj ⟨k0', hk0'⟩ ⟨kt', hkt'⟩, if_neg (by rw [hW.alike.assignable, hno]; decide)]
        exact hq Q E d acts
theorem cz_step {e : Env} {s : State} {a : Addr} {f : JFrame} {r : List Frame} {pc : Nat} {vm' : Vm} (hfind : cz_F e s f a (.found pc) vm') :
    (stepThrowing e s a (.java f :: r)).Is ((s.setVm vm').setFrames (.java { f with pc := pc, stack := [.ref a] } :: r)) [] := by
  simp only [stepThrowing, searchFrame, vmDo]
  generalize hr : Sem.go _ e false [] s = res
  obtain ⟨as, rfl, ha⟩ := Sem.eq_ok_of hr (a := Handler.found pc) (s' := s.setVm vm') (acts' := []) (by simp [hfind _ _ _ _])
  exact ⟨rfl, ha⟩
theorem cz_frames (u : State) (vm' : Vm) (F G : List Frame) : ((u.setFrames F).setVm vm').setFrames G = (u.setVm vm').setFrames G := by
  have h1 : (u.setFrames F).setVm vm' = (u.setVm vm').setFrames F := rfl
  rw [h1, State.setFrames_setFrames]
theorem cz_steps {tb : Tables} {e : Env} {s target : State} {g : JFrame} {c : Code} {below : List Frame} {a : Addr} (h : At s g.method c below) {pc : Nat} {vm' : Vm}
    (hfind : cz_F e ((s.setTop g).pushFrame (.throwing a)) g a (.found pc) vm') (hrest : Steps tb e below ((s.setVm vm').setTop { g with pc := pc, stack := [.ref a] }) target) :
    Steps tb e below ((s.setTop g).pushFrame (.throwing a)) target := by
  obtain ⟨hgo, hw⟩ := h.throwing a
  refine Steps.head hgo hw ?_
  rw [stepThread_throwing (frames_entered h.top _), (cz_step (s := (s.setTop g).pushFrame (.throwing a)) hfind).1]
  obtain ⟨g₀, hg⟩ := Option.isSome_iff_exists.mp h.top
  obtain ⟨r, hr⟩ := State.topJava?_eq_some.mp hg
  have hr' : (s.setVm vm').frames = .java g₀ :: r := hr
  rw [State.setTop_of_frames _ hr'] at hrest
  rw [hr, List.tail_cons, State.pushFrame, cz_frames, State.setTop_of_frames _ hr, cz_frames]
  exact hrest
theorem cz_caught {p : Program} {l : Launch} {e : Env} {R : Room} {s : State} {m : MethodId} {args : Array Value} {below : List Frame} {meth : Method} {c : Code} {T : State} {locs : List Loc} {cells slots : Nat}
    (X : Stand p l e R s m args below meth c T locs cells slots) (a : Addr) {g : JFrame} (hg : g.method = m) {cell : Cell} (hcell : T.heap[a]? = some cell) (hobj : cell.vm.isStatics = false)
    (hk0 : ∃ k, s.vm.classes[cell.cls]? = some k)
    (pre : List ExceptionTableEntry) (x : ExceptionTableEntry) (rest : List ExceptionTableEntry) (hsplit : c.exceptionTable.toList = pre ++ x :: rest)
    (hpass : ∀ y ∈ pre, cz_pass e.platform s m.cls g.pc cell.cls y) (hx : covers x g.pc = true) (h0 : x.catchType ≠ 0) {cT : ClassId} (hl : s.vm.ClassLinks e.platform m.cls x.catchType cT) (hfit : s.vm.assignable cell.cls cT = true) :
    ∃ vm', Stand p l e R s m args below meth c (T.setVm vm') locs cells slots ∧ Steps p.tables e below ((T.setTop g).pushFrame (.throwing a)) ((T.setVm vm').setTop { g with pc := x.handlerPc, stack := [.ref a] }) := by
  subst hg
  obtain ⟨vm', hW', hq⟩ := cz_go (e := e) (s₀ := s) (f := g) (a := a) (VmData.ne_statics_of hobj) hk0 x rest hx h0 hl hfit pre ((T.setTop g).pushFrame (.throwing a)) X.warmed hcell hpass
  have hf : cz_F e ((T.setTop g).pushFrame (.throwing a)) g a (.found x.handlerPc) vm' := fun Q E d acts => by
    rw [W.findHandler_eq (s := (T.setTop g).pushFrame (.throwing a)) (f := g) (meth := meth) (code := c) X.method' X.code, hsplit]
    exact hq Q E d acts
  exact ⟨vm', X.noted hW', cz_steps X.here hf (Steps.refl _)⟩
/-- caught by the row x of this method's table; the rows ahead don't take it -/
theorem cz_catch {p : Program} {l : Launch} {e : Env} {R : Room} {s : State} {m : MethodId} {args : Array Value} {below : List Frame} {meth : Method} {c : Code} {H : Heap} {locs : List Loc} {cells slots : Nat} {Q : State → Prop} {pc : Nat} {ls : Array Slot} {st : List Value}
    {own name : String} {E : String} {ce : Cell} {q : Addr} (hown : s.vm.findClass own = some m.cls) (pre : List ExceptionTableEntry) (x : ExceptionTableEntry) (suf : List ExceptionTableEntry) (hsplit : c.exceptionTable.toList = pre ++ x :: suf)
    (hpass : ∀ z ∈ pre, covers z pc = false ∨ (z.catchType ≠ 0 ∧ ∃ nm : String, (Cond.classLink own z.catchType nm).before args s = true ∧ va_Nc E nm s)) (hx : covers x pc = true) (h0 : x.catchType ≠ 0)
    (hlink : (Cond.classLink own x.catchType name).before args s = true) (hcast : (Cond.castable E name).before args s = true) (hcell : H[q]? = some ce) (hv : ce.vm = .none) (hcl : s.vm.findClass E = some ce.cls)
    (kk : W p l e R s m args below meth c H locs cells slots Q (F0 m x.handlerPc ls [.ref q])) : vx_W p l e R s m args below meth c H locs cells slots Q (F0 m pc ls st) q := by
  intro T hT X
  have hpl : e.platform.magicAccessors = ({} : Platform).magicAccessors := by rw [X.admits.platform]
  obtain ⟨c3, c4, hc3, hc4, hasg⟩ := Cond.castable_spec hcast
  cases Option.some.inj (hc3.symm.trans hcl)
  obtain ⟨c5, hc5, hcl5⟩ := Cond.classLink_spec hown hlink e.platform hpl
  cases Option.some.inj (hc4.symm.trans hc5)
  obtain ⟨vm', X', st⟩ := cz_caught X q (g := F0 m pc ls st) rfl (by rw [hT]; exact hcell) (by rw [hv]; rfl) (by obtain ⟨k9, h9, -⟩ := Vm.findClass_spec hcl; exact ⟨k9, h9⟩) pre x suf hsplit
    (fun z hz => by
      rcases hpass z hz with h | ⟨hz0, nm, hl1, hn1⟩
      · exact Or.inl h
      · obtain ⟨c6, hc6, hcl6⟩ := Cond.classLink_spec hown hl1 e.platform hpl
        obtain ⟨a8, b8, h1, h2, h3⟩ := hn1
        cases Option.some.inj (h1.symm.trans hcl)
        cases Option.some.inj (h2.symm.trans hc6)
        exact Or.inr ⟨hz0, _, hcl6, h3⟩) hx h0 hcl5 hasg
  obtain ⟨t, a1, b1⟩ := kk (T.setVm vm') hT X'
  exact ⟨t, st.trans a1, b1⟩
end CZ
/-! ===== BEGIN a static call of a method with an exception table ===== -/
section VXS
variable {p : Program} {l : Launch} {e : Env} {R : Room} {s : State} {m : MethodId} {args : Array Value} {below : List Frame} {meth : Method} {c : Code} {T : State} {H : Heap} {locs : List Loc} {cells slots : Nat}
abbrev vx_CSW (R : Room) (s : State) (args : Array Value) (own : String) (index : Nat) (y : MethodName) (bytes : ByteArray) (maxL : Nat) (ret : Option FieldType) (hh : List (Nat × Nat × Nat × Nat)) (ws : List Cond) (rm : Room) (mc ms n : Nat) : Prop :=
  (rm.cells = mc ∧ rm.slots = ms ∧ rm.frames + 1 ≤ R.frames ∧ 8 + (maxL + 11) + rm.locals ≤ R.locals ∧ (∀ w ∈ ws, ∀ (a' : Array Value) (U : State), s.WarmedH U.vm → w.before a' U = true) ∧ Cond.codeWith y bytes maxL ret hh ∈ ws) ∧
  (Cond.codeWith y bytes maxL ret hh).before args s = true ∧ (Cond.initialized y.cls).before args s = true ∧ (y.cls ≠ "java/lang/invoke/MethodHandle" ∧ y.cls ≠ "java/lang/invoke/VarHandle") ∧
  (∀ sig, parseMethodDescriptor y.desc = some sig → n = sig.parameters.length) ∧ (Cond.methodLink own index y).before args s = true ∧ (Cond.static y).before args s = true
theorem vx_cwSW {own : String} {index maxL mc ms : Nat} {y : MethodName} {bytes : ByteArray} {ret : Option FieldType} {hh : List (Nat × Nat × Nat × Nat)} {Ts ws ws' : List Cond} {rm : Room} (n : Nat) (ht : ∀ w ∈ Ts, w.before args s = true) (hT : GoodIn Ts (va_wsS own index y ws)) (hw : ws = Cond.codeWith y bytes maxL ret hh :: ws') (hrc : rm.cells = mc) (hrs : rm.slots = ms)
    (hd : y.cls ≠ "java/lang/invoke/MethodHandle" ∧ y.cls ≠ "java/lang/invoke/VarHandle" ∧ (parseMethodDescriptor y.desc).map (fun d => d.parameters.length) = some n) (hR : rm.frames + 1 ≤ R.frames ∧ 8 + (maxL + 11) + rm.locals ≤ R.locals) :
    vx_CSW R s args own index y bytes maxL ret hh ws rm mc ms n := by
  have ok : ∀ w ∈ va_wsS own index y ws, w.before args s = true := fun w h => ht w (hT w h).1
  have hG : GoodIn Ts ws := fun w h => hT w (by unfold va_wsS; exact List.mem_append_right _ h)
  have hc : Cond.codeWith y bytes maxL ret hh ∈ ws := by rw [hw]; exact List.mem_cons_self
  refine ⟨⟨hrc, hrs, hR.1, hR.2, pay_in ht hG, hc⟩, ht _ (hG _ hc).1, ok _ (by simp [va_wsS]), ⟨hd.1, hd.2.1⟩, fun sig h => ?_, ok _ (by simp [va_wsS]), ok _ (by simp [va_wsS])⟩
  have h2 := hd.2.2
  rw [h] at h2
  exact (Option.some.inj h2).symm
theorem vx_callSW (X : Stand p l e R s m args below meth c T locs cells slots) (hexec : p.tables.exec = Jvm.exec) {own : String} {index : Nat} {y : MethodName} {bytes : ByteArray} {maxL : Nat} {ret : Option FieldType} {hh : List (Nat × Nat × Nat × Nat)}
    (hown : s.vm.findClass own = some m.cls) (hlink : (Cond.methodLink own index y).before args s = true) (hstat : (Cond.static y).before args s = true) (hinit : (Cond.initialized y.cls).before args s = true)
    (hcode : (Cond.codeWith y bytes maxL ret hh).before args s = true) (hy : y.cls ≠ "java/lang/invoke/MethodHandle" ∧ y.cls ≠ "java/lang/invoke/VarHandle")
    {W9 : Nat} {Pre : Pt → Array Value → Prop} {Post : Pt → Array Value → Option Value → Pt → Prop} (hK : Back l R p e below s args y 3 W9 Pre Post)
    {g : JFrame} (hg : g.method = m) (hsize : g.locals.size = c.maxLocals) {argsL rest : List Value} (hlen : ∀ sig, parseMethodDescriptor y.desc = some sig → argsL.length = sig.parameters.length)
    (hstack : g.stack = argsL.reverse ++ rest) (hW : 2 * g.monitorRoom + (rest.map fun v => v.category).sum ≤ W9) (hdg : decode c.code g.pc = .ok (.invokestatic index, 3))
    (hpre : ∀ vm₁, s.WarmedH vm₁ → Pre ⟨T.setVm vm₁, locs, cells, slots⟩ argsL.toArray) :
    ∃ (v : Option Value) (vm₁ : Vm) (B : Pt), s.WarmedH vm₁ ∧ Stand p l e R s m args below meth c B.U B.locs B.cells B.slots ∧ Post ⟨T.setVm vm₁, locs, cells, slots⟩ argsL.toArray v B ∧
      ∀ target, Steps p.tables e below (B.U.setTop { g with pc := g.pc + 3, stack := v.toList ++ rest }) target → Steps p.tables e below (T.setTop g) target := by
  obtain ⟨mk, methM, cM, hnamed, hmethM, -, -, -, -, -, -, hsigM⟩ := Cond.codeWith_spec hcode
  have hstatic : methM.isStatic = true := Cond.static_spec hnamed hmethM hstat
  obtain ⟨kP, hkP, -⟩ := className_of_methodNamed hnamed
  have hinitP : kP.init = .initialized := Cond.initialized_spec (findClass_of_methodNamed hnamed) hkP hinit
  obtain ⟨vm₁, X₁, hstep₁⟩ := X.invokestatic hexec hown hlink hnamed hmethM hstatic hkP hinitP hy (g := g) hg (argsL := argsL) (rest := rest) (hlen _ hsigM) hstack hdg
  obtain ⟨v, B, X', hpost, hsteps⟩ := hK m meth c ⟨T.setVm vm₁, locs, cells, slots⟩ { g with stack := rest } (.invokestatic index) mk argsL.toArray X₁ hg hsize hdg hW (X₁.named hnamed) (hpre vm₁ X₁.warmed)
  exact ⟨v, vm₁, B, X₁.warmed, X', hpost, fun target h => hstep₁ _ fun acts => by rw [doInvoke_state]; exact hsteps.trans h⟩
theorem vx_runSW {y : MethodName} {bytes cc : ByteArray} {maxL nL mc ms n index : Nat} {ret : Option FieldType} {hh : List (Nat × Nat × Nat × Nat)} {ws : List Cond} {rm : Room} {Pc : Array Value → State → Prop} {Qc : Array Value → State → Outcome → State → Prop} {free : Addr → Prop} {Ts : List Cond} {own : String} {As rest : List Value} {g : JFrame}
    (S : CallFix p m c cc nL s args Ts own) (hM : Met l y ws rm Pc Qc mc ms free) (cw : vx_CSW R s args own index y bytes maxL ret hh ws rm mc ms n) (hp : PreS s H Pc As)
    (hg : g.method = m) (hn : As.length = n) (hsize : g.locals.size = nL) (hstack : g.stack = As.reverse ++ rest) (hW : 2 * g.monitorRoom + (rest.map fun v => v.category).sum ≤ 8) (hdg : decode cc g.pc = .ok (.invokestatic index, 3)) (hf : cells + mc ≤ R.cells ∧ slots + ms ≤ R.slots) :
    va_Run p l e R s m args below meth c H locs cells slots mc ms g rest (Qc As.toArray) (free) := by
  obtain ⟨⟨hrc, hrs, hfr, hlo, hws, hcw⟩, hcode, hini, hy, hlen, hl, hstt⟩ := cw
  have hK : Back l R p e below s args y 3 8 (PreOf R mc ms Pc) (PostOf Qc mc ms free) := va_backW (hh := hh) (bytes := bytes) (maxL := maxL) (ret := ret) hM hp.1 hrc hrs hfr hlo hws hcw (fun a' U hW => word_at hW (Or.inl (by first | rfl | simp [Cond.onTables, Cond.keeps, Cond.steady])) hini)
  obtain ⟨hx, hb, hml, ho, -⟩ := S
  intro T hT X
  obtain ⟨v, vm₁, ⟨U', l2, c2, s2⟩, hW₁, X', ⟨g', mk, t, L, e1, e2, hq, h1, hL, h2, h3⟩, st⟩ := vx_callSW X hx (hh := hh) (bytes := bytes) (maxL := maxL) (ret := ret) ho hl hstt hini hcode hy hK hg (hsize.trans hml.symm) (argsL := As) (rest := rest) (fun sig h => hn.trans (hlen sig h)) hstack hW (by rw [hb]; exact hdg)
    (fun vm₁ hW₁ => ⟨hf.1, hf.2, hp.2 (T.setVm vm₁) hT hW₁⟩)
  dsimp only [Pt.U, Pt.locs, Pt.cells, Pt.slots] at X' e1 e2 h1 h2 h3 st
  subst h1; subst h2; subst h3
  exact ⟨v, (T.setVm vm₁).calling g' mk As.toArray, t, U', L, hT, X', hL, e1, e2, hq, st⟩
/-- a thing of a world lies in the heap -/
theorem vx_lt {D : va_G} {cl : List vw_C} {ws : va_W} {H1 : Heap} (h : va_P D cl ws H1) {k : Nat} {q : Nat × va_E} (hk : ws[k]? = some q) : q.1 < H1.size := (h k q hk).lt
end VXS
/-! ===== END ===== -/
/-! ===== BEGIN methods with a table of their own: called by a name, returning or throwing ===== -/
section VXH
/-! vx_backW, vx_callVX, vx_callSX, vx_callVW, vx_runVW, vx_runVX, vx_runSX, vx_ofWH follow the same proofs as their sisters above (Free/Laws.lean, Shelf42/LK1.lean); vx_outP calls Shelf42/NT130.lean (outThrough). -/
section
variable {l : Launch} {R : Room} {p : Program} {e : Env} {below : List Frame} {s : State} {sargs : Array Value} {y : MethodName} {len W9 : Nat}
theorem vx_backW {ws : List Cond} {rm : Room} {Pc : Array Value → State → Prop} {Qc : Array Value → State → Outcome → State → Prop} {XC : String → State → State → Prop} {mc ms : Nat} {free : Addr → Prop} {bytes : ByteArray} {maxL : Nat} {ret : Option FieldType} {hh : List (Nat × Nat × Nat × Nat)}
    (hM : vx_Met l y ws rm Pc Qc XC mc ms free) (hblind : FrameBlind Pc) (hrc : rm.cells = mc) (hrs : rm.slots = ms)
    (hframes : rm.frames + 1 ≤ R.frames) (hlocals : W9 + (maxL + 11) + rm.locals ≤ R.locals)
    (hws : ∀ w ∈ ws, ∀ a' U, s.WarmedH U.vm → w.before a' U = true) (hcode : Cond.codeWith y bytes maxL ret hh ∈ ws) (hinit : ∀ a' U, s.WarmedH U.vm → (Cond.initialized y.cls).before a' U = true) :
    vx_Back l R p e below s sargs y len W9 (PreOf R mc ms Pc) (PostOf Qc mc ms free) (vx_Post XC mc ms free) := by
  intro m meth c A g ig mk a X hg hsize hdg hW hn hp
  have h1 : (headSpec ws rm).pre.before a A.U = true := atoms_intro fun w hw => hws w hw _ _ X.warmed
  have h2 : (Cond.codeWith y bytes maxL ret hh).before a A.U = true := hws _ hcode _ _ X.warmed
  have h3 : (Cond.initialized y.cls).before a A.U = true := hinit _ _ X.warmed
  have h4 : A.cells + (headSpec ws rm).room.cells ≤ R.cells := by rw [show (headSpec ws rm).room.cells = mc from hrc]; exact hp.1
  have h5 : A.slots + (headSpec ws rm).room.slots ≤ R.slots := by rw [show (headSpec ws rm).room.slots = ms from hrs]; exact hp.2.1
  have hPc : Pc a (A.U.calling g mk a) := hblind _ _ _ _ hp.2.2
  obtain ⟨U, Ls, c0, s0⟩ := A
  dsimp only [Pt.U, Pt.locs, Pt.cells, Pt.slots] at h1 h2 h3 h4 h5 X hn hPc ⊢
  obtain ⟨m9, methY, cY, hn9, hmY, hcY, -, hlY, -⟩ := Cond.codeWith_spec h2
  cases Option.some.inj (hn9.symm.trans hn)
  obtain ⟨kY, hkY, -⟩ := className_of_methodNamed hn
  have hinitY : kY.init = .initialized := Cond.initialized_spec (findClass_of_methodNamed hn) hkY h3
  have h : At U g.method c below := by rw [hg]; exact X.here
  have hlocals9 : W9 + (maxL + 11) + (headSpec ws rm).room.locals ≤ R.locals := hlocals
  have happ : (headSpec ws rm).appliesLoose y e.platform (U.calling g mk a) = true :=
    Spec.appliesLoose_calling (g := g) h hdg hn hkY hinitY
      (X.room_calling (g := g) (R' := (headSpec ws rm).room) hsize hmY hcY hframes (by rw [hlY]; omega) h4 h5) h1
  obtain ⟨mid, hmid⟩ := h.above
  have hfr : (U.setTop g).frames = (.java g :: mid) ++ below := by rw [State.frames_setTop' g h.top, hmid]; rfl
  obtain ⟨o, s₂, hsteps, -, hend, hq⟩ := Steps.callFree hM p X.admits X.cas X.clock (acts := []) hfr happ hPc trivial
  have hq' : vx_Q Qc XC mc ms free a (U.calling g mk a) o s₂ := hq
  rw [State.frames_setTop' g h.top] at hend
  obtain ⟨g₀, hg0⟩ := Option.isSome_iff_exists.mp h.top
  obtain ⟨r, hr⟩ := State.topJava?_eq_some.mp hg0
  have hr' : (({ U with heap := s₂.heap, slotsUsed := s₂.slotsUsed } : State).setVm s₂.vm).frames = .java g₀ :: r := hr
  rcases hq' with ⟨hqc, L, hfe, hL⟩ | ⟨q, rfl, E, ce, L, hx, hce, hcv, hcl, hW₂, hsm, hL⟩
  · obtain ⟨⟨v, rfl⟩, hW₂, e2, q2, q3, q4, q5, q6⟩ := id hfe
    have e3 : s₂ = ({ (U.calling g mk a).setFrames s₂.frames with heap := s₂.heap, slotsUsed := s₂.slotsUsed } : State).setVm s₂.vm := by
      have : s₂ = ({ s₂ with vm := (U.calling g mk a).vm } : State).setVm s₂.vm := rfl
      rw [e2] at this
      exact this
    obtain ⟨c₂, i₂, len₂, hc₂, hd₂, hf₂⟩ := hend
    have hW' : U.WarmedH s₂.vm := hW₂
    have hcc : c₂ = c := by
      have h1 : s₂.code? g.method = U.code? g.method := by
        rw [State.code?_eq, State.code?_eq, hW'.alike.method?]
      exact Option.some.inj (hc₂.symm.trans (h1.trans h.code))
    subst hcc
    have hlen : len₂ = len := by rw [hdg] at hd₂; cases hd₂; rfl
    subst hlen
    have hs₂ : s₂ = (({ U with heap := s₂.heap, slotsUsed := s₂.slotsUsed } : State).setVm s₂.vm).setTop { g with pc := g.pc + len₂, stack := v.toList ++ g.stack } := by
      refine e3.trans ?_
      rw [hf₂, State.calling_eq h.top, State.setFrames_setFrames, State.setTop_of_frames _ hr', hr]
      rfl
    have hsame : U.sameButNew ({ U with heap := s₂.heap, slotsUsed := s₂.slotsUsed } : State) L mc ms := by
      refine ⟨?_, q2, q3, q4, q5, q6⟩
      obtain ⟨t, ht, -⟩ := State.frames_cons hr
      show ({ U with heap := s₂.heap, slotsUsed := s₂.slotsUsed } : State) = { U.setFrames U.frames with heap := s₂.heap, slotsUsed := s₂.slotsUsed }
      rw [State.setFrames_self ht]
    subst hg
    refine Or.inl ⟨v, ⟨(({ U with heap := s₂.heap, slotsUsed := s₂.slotsUsed } : State).setVm s₂.vm), Ls ++ L, c0 + mc, s0 + ms⟩,
      ⟨X.admits, X.cas, X.clock, X.frames, X.room, X.hears, X.method, X.code, (X.here.setHeapUsed s₂.heap s₂.slotsUsed).setVm hW'.alike, X.tail, State.WarmedH.trans X.warmed hW', X.limits, X.bytes, X.same.trans (hsame.setVm s.vm)⟩,
      ⟨g, mk, s₂, L, rfl, rfl, hqc, rfl, hL, rfl, rfl⟩, ?_⟩
    show Steps p.tables e below _ ((({ U with heap := s₂.heap, slotsUsed := s₂.slotsUsed } : State).setVm s₂.vm).setTop { g with pc := g.pc + len₂, stack := v.toList ++ g.stack })
    rw [← hs₂]
    exact hsteps
  · obtain ⟨e2, q2, q3, q4, q5, q6⟩ := id hsm
    have e3 : s₂ = ({ (U.calling g mk a).setFrames s₂.frames with heap := s₂.heap, slotsUsed := s₂.slotsUsed } : State).setVm s₂.vm := by
      have : s₂ = ({ s₂ with vm := (U.calling g mk a).vm } : State).setVm s₂.vm := rfl
      rw [e2] at this
      exact this
    have hf₂ : s₂.frames = .throwing q :: .java g :: U.frames.tail := hend
    have hW' : U.WarmedH s₂.vm := hW₂
    have hs₂ : s₂ = ((({ U with heap := s₂.heap, slotsUsed := s₂.slotsUsed } : State).setVm s₂.vm).setTop g).pushFrame (.throwing q) := by
      refine e3.trans ?_
      rw [hf₂, State.calling_eq h.top, State.setFrames_setFrames, State.pushFrame, State.frames_setTop _ hr', State.setTop_of_frames _ hr', State.setFrames_setFrames, hr]
      rfl
    have hsame : U.sameButNew ({ U with heap := s₂.heap, slotsUsed := s₂.slotsUsed } : State) L mc ms := by
      refine ⟨?_, q2, q3, q4, q5, q6⟩
      obtain ⟨t, ht, -⟩ := State.frames_cons hr
      show ({ U with heap := s₂.heap, slotsUsed := s₂.slotsUsed } : State) = { U.setFrames U.frames with heap := s₂.heap, slotsUsed := s₂.slotsUsed }
      rw [State.setFrames_self ht]
    subst hg
    refine Or.inr ⟨q, ⟨(({ U with heap := s₂.heap, slotsUsed := s₂.slotsUsed } : State).setVm s₂.vm), Ls ++ L, c0 + mc, s0 + ms⟩,
      ⟨X.admits, X.cas, X.clock, X.frames, X.room, X.hears, X.method, X.code, (X.here.setHeapUsed s₂.heap s₂.slotsUsed).setVm hW'.alike, X.tail, State.WarmedH.trans X.warmed hW', X.limits, X.bytes, X.same.trans (hsame.setVm s.vm)⟩,
      ⟨g, mk, s₂, L, E, ce, rfl, rfl, hx, hce, hcv, hcl, rfl, hL, rfl, rfl⟩, ?_⟩
    show Steps p.tables e below _ (((({ U with heap := s₂.heap, slotsUsed := s₂.slotsUsed } : State).setVm s₂.vm).setTop g).pushFrame (.throwing q))
    rw [← hs₂]
    exact hsteps
end
variable {p : Program} {l : Launch} {e : Env} {R : Room} {s : State} {m : MethodId} {args : Array Value} {below : List Frame} {meth : Method} {c : Code} {T : State} {H : Heap} {locs : List Loc} {cells slots : Nat}
theorem vx_callVX (X : Stand p l e R s m args below meth c T locs cells slots) (hexec : p.tables.exec = Jvm.exec) {own C : String} {index : Nat} {y : MethodName} {bytes : ByteArray} {maxL : Nat} {ret : Option FieldType} {hh : List (Nat × Nat × Nat × Nat)}
    (hown : s.vm.findClass own = some m.cls) (hlink : (Cond.methodLink own index y).before args s = true) (hinst : (Cond.instanceMethod y).before args s = true) (hsel : (Cond.selects C y y).before args s = true)
    (hcode : (Cond.codeWith y bytes maxL ret hh).before args s = true) (hy : y.cls ≠ "java/lang/invoke/MethodHandle" ∧ y.cls ≠ "java/lang/invoke/VarHandle")
    {W9 : Nat} {Pre : Pt → Array Value → Prop} {Post : Pt → Array Value → Option Value → Pt → Prop} {PostX : Pt → Array Value → Addr → Pt → Prop} (hK : vx_Back l R p e below s args y 3 W9 Pre Post PostX)
    {b : Addr} {cellB : Cell} (hcell : T.heap[b]? = some cellB) (hobj : cellB.vm.isStatics = false) (hcls : s.vm.findClass C = some cellB.cls)
    {g : JFrame} (hg : g.method = m) (hsize : g.locals.size = c.maxLocals) {argsL rest : List Value} (hlen : ∀ sig, parseMethodDescriptor y.desc = some sig → argsL.length = sig.parameters.length)
    (hstack : g.stack = argsL.reverse ++ .ref b :: rest) (hW : 2 * g.monitorRoom + (rest.map fun v => v.category).sum ≤ W9) (hdg : decode c.code g.pc = .ok (.invokevirtual index, 3))
    (hpre : ∀ vm₁, s.WarmedH vm₁ → Pre ⟨T.setVm vm₁, locs, cells, slots⟩ (Value.ref b :: argsL).toArray) :
    (∃ (v : Option Value) (vm₁ : Vm) (B : Pt), s.WarmedH vm₁ ∧ Stand p l e R s m args below meth c B.U B.locs B.cells B.slots ∧ Post ⟨T.setVm vm₁, locs, cells, slots⟩ (Value.ref b :: argsL).toArray v B ∧
      ∀ target, Steps p.tables e below (B.U.setTop { g with pc := g.pc + 3, stack := v.toList ++ rest }) target → Steps p.tables e below (T.setTop g) target) ∨
    (∃ (q : Addr) (vm₁ : Vm) (B : Pt), s.WarmedH vm₁ ∧ Stand p l e R s m args below meth c B.U B.locs B.cells B.slots ∧ PostX ⟨T.setVm vm₁, locs, cells, slots⟩ (Value.ref b :: argsL).toArray q B ∧
      Steps p.tables e below (T.setTop g) ((B.U.setTop { g with stack := rest }).pushFrame (.throwing q))) := by
  obtain ⟨mk, methM, hnamed, hmethM, hstM, habM⟩ := Cond.instanceMethod_spec hinst
  obtain ⟨m8, methM', cM, hn8, hmethM', -, -, -, -, -, -, hsigM⟩ := Cond.codeWith_spec hcode
  cases Option.some.inj (hn8.symm.trans hnamed)
  cases hmethM.symm.trans hmethM'
  obtain ⟨c2, r2, m2, q1, q2, q3, q4, kP, hkP, hkPi⟩ := Cond.selects_spec hsel
  cases hcls.symm.trans q1
  cases (State.methodFound?_of_named hnamed hy).symm.trans q2
  cases hnamed.symm.trans q3
  have hselP : selectMethod e.platform s.vm cellB.cls mk = .method mk := by rw [Launch.admits_selectMethod X.admits]; exact q4
  obtain ⟨vm₁, X₁, hstep₁⟩ := X.invokevirtual hexec hown hlink hnamed hmethM hstM hkP hkPi hy (a := b) (cell := cellB) hcell
    (fun z h => by rw [h] at hobj; cases hobj) hselP hmethM habM hkP hkPi (g := g) hg (argsL := argsL) (rest := rest) (hlen _ hsigM) hstack hdg
  rcases hK m meth c ⟨T.setVm vm₁, locs, cells, slots⟩ { g with stack := rest } (.invokevirtual index) mk (Value.ref b :: argsL).toArray X₁ hg hsize hdg hW (X₁.named hnamed) (hpre vm₁ X₁.warmed) with ⟨v, B, X', hpost, hsteps⟩ | ⟨q, B, X', hpost, hsteps⟩
  · exact Or.inl ⟨v, vm₁, B, X₁.warmed, X', hpost, fun target h => hstep₁ _ fun acts => by rw [doInvoke_state]; exact hsteps.trans h⟩
  · exact Or.inr ⟨q, vm₁, B, X₁.warmed, X', hpost, hstep₁ _ fun acts => by rw [doInvoke_state]; exact hsteps⟩
theorem vx_callSX (X : Stand p l e R s m args below meth c T locs cells slots) (hexec : p.tables.exec = Jvm.exec) {own : String} {index : Nat} {y : MethodName} {bytes : ByteArray} {maxL : Nat} {ret : Option FieldType} {hh : List (Nat × Nat × Nat × Nat)}
    (hown : s.vm.findClass own = some m.cls) (hlink : (Cond.methodLink own index y).before args s = true) (hstat : (Cond.static y).before args s = true) (hinit : (Cond.initialized y.cls).before args s = true)
    (hcode : (Cond.codeWith y bytes maxL ret hh).before args s = true) (hy : y.cls ≠ "java/lang/invoke/MethodHandle" ∧ y.cls ≠ "java/lang/invoke/VarHandle")
    {W9 : Nat} {Pre : Pt → Array Value → Prop} {Post : Pt → Array Value → Option Value → Pt → Prop} {PostX : Pt → Array Value → Addr → Pt → Prop} (hK : vx_Back l R p e below s args y 3 W9 Pre Post PostX)
    {g : JFrame} (hg : g.method = m) (hsize : g.locals.size = c.maxLocals) {argsL rest : List Value} (hlen : ∀ sig, parseMethodDescriptor y.desc = some sig → argsL.length = sig.parameters.length)
    (hstack : g.stack = argsL.reverse ++ rest) (hW : 2 * g.monitorRoom + (rest.map fun v => v.category).sum ≤ W9) (hdg : decode c.code g.pc = .ok (.invokestatic index, 3))
    (hpre : ∀ vm₁, s.WarmedH vm₁ → Pre ⟨T.setVm vm₁, locs, cells, slots⟩ argsL.toArray) :
    (∃ (v : Option Value) (vm₁ : Vm) (B : Pt), s.WarmedH vm₁ ∧ Stand p l e R s m args below meth c B.U B.locs B.cells B.slots ∧ Post ⟨T.setVm vm₁, locs, cells, slots⟩ argsL.toArray v B ∧
      ∀ target, Steps p.tables e below (B.U.setTop { g with pc := g.pc + 3, stack := v.toList ++ rest }) target → Steps p.tables e below (T.setTop g) target) ∨
    (∃ (q : Addr) (vm₁ : Vm) (B : Pt), s.WarmedH vm₁ ∧ Stand p l e R s m args below meth c B.U B.locs B.cells B.slots ∧ PostX ⟨T.setVm vm₁, locs, cells, slots⟩ argsL.toArray q B ∧
      Steps p.tables e below (T.setTop g) ((B.U.setTop { g with stack := rest }).pushFrame (.throwing q))) := by
  obtain ⟨mk, methM, cM, hnamed, hmethM, -, -, -, -, -, -, hsigM⟩ := Cond.codeWith_spec hcode
  have hstatic : methM.isStatic = true := Cond.static_spec hnamed hmethM hstat
  obtain ⟨kP, hkP, -⟩ := className_of_methodNamed hnamed
  have hinitP : kP.init = .initialized := Cond.initialized_spec (findClass_of_methodNamed hnamed) hkP hinit
  obtain ⟨vm₁, X₁, hstep₁⟩ := X.invokestatic hexec hown hlink hnamed hmethM hstatic hkP hinitP hy (g := g) hg (argsL := argsL) (rest := rest) (hlen _ hsigM) hstack hdg
  rcases hK m meth c ⟨T.setVm vm₁, locs, cells, slots⟩ { g with stack := rest } (.invokestatic index) mk argsL.toArray X₁ hg hsize hdg hW (X₁.named hnamed) (hpre vm₁ X₁.warmed) with ⟨v, B, X', hpost, hsteps⟩ | ⟨q, B, X', hpost, hsteps⟩
  · exact Or.inl ⟨v, vm₁, B, X₁.warmed, X', hpost, fun target h => hstep₁ _ fun acts => by rw [doInvoke_state]; exact hsteps.trans h⟩
  · exact Or.inr ⟨q, vm₁, B, X₁.warmed, X', hpost, hstep₁ _ fun acts => by rw [doInvoke_state]; exact hsteps⟩
theorem vx_callVW (X : Stand p l e R s m args below meth c T locs cells slots) (hexec : p.tables.exec = Jvm.exec) {own C : String} {index : Nat} {y : MethodName} {bytes : ByteArray} {maxL : Nat} {ret : Option FieldType} {hh : List (Nat × Nat × Nat × Nat)}
    (hown : s.vm.findClass own = some m.cls) (hlink : (Cond.methodLink own index y).before args s = true) (hinst : (Cond.instanceMethod y).before args s = true) (hsel : (Cond.selects C y y).before args s = true)
    (hcode : (Cond.codeWith y bytes maxL ret hh).before args s = true) (hy : y.cls ≠ "java/lang/invoke/MethodHandle" ∧ y.cls ≠ "java/lang/invoke/VarHandle")
    {W9 : Nat} {Pre : Pt → Array Value → Prop} {Post : Pt → Array Value → Option Value → Pt → Prop} (hK : Back l R p e below s args y 3 W9 Pre Post)
    {b : Addr} {cellB : Cell} (hcell : T.heap[b]? = some cellB) (hobj : cellB.vm.isStatics = false) (hcls : s.vm.findClass C = some cellB.cls)
    {g : JFrame} (hg : g.method = m) (hsize : g.locals.size = c.maxLocals) {argsL rest : List Value} (hlen : ∀ sig, parseMethodDescriptor y.desc = some sig → argsL.length = sig.parameters.length)
    (hstack : g.stack = argsL.reverse ++ .ref b :: rest) (hW : 2 * g.monitorRoom + (rest.map fun v => v.category).sum ≤ W9) (hdg : decode c.code g.pc = .ok (.invokevirtual index, 3))
    (hpre : ∀ vm₁, s.WarmedH vm₁ → Pre ⟨T.setVm vm₁, locs, cells, slots⟩ (Value.ref b :: argsL).toArray) :
    ∃ (v : Option Value) (vm₁ : Vm) (B : Pt), s.WarmedH vm₁ ∧ Stand p l e R s m args below meth c B.U B.locs B.cells B.slots ∧ Post ⟨T.setVm vm₁, locs, cells, slots⟩ (Value.ref b :: argsL).toArray v B ∧
      ∀ target, Steps p.tables e below (B.U.setTop { g with pc := g.pc + 3, stack := v.toList ++ rest }) target → Steps p.tables e below (T.setTop g) target := by
  obtain ⟨mk, methM, hnamed, hmethM, hstM, habM⟩ := Cond.instanceMethod_spec hinst
  obtain ⟨m8, methM', cM, hn8, hmethM', -, -, -, -, -, -, hsigM⟩ := Cond.codeWith_spec hcode
  cases Option.some.inj (hn8.symm.trans hnamed)
  cases hmethM.symm.trans hmethM'
  obtain ⟨c2, r2, m2, q1, q2, q3, q4, kP, hkP, hkPi⟩ := Cond.selects_spec hsel
  cases hcls.symm.trans q1
  cases (State.methodFound?_of_named hnamed hy).symm.trans q2
  cases hnamed.symm.trans q3
  have hselP : selectMethod e.platform s.vm cellB.cls mk = .method mk := by rw [Launch.admits_selectMethod X.admits]; exact q4
  obtain ⟨vm₁, X₁, hstep₁⟩ := X.invokevirtual hexec hown hlink hnamed hmethM hstM hkP hkPi hy (a := b) (cell := cellB) hcell
    (fun z h => by rw [h] at hobj; cases hobj) hselP hmethM habM hkP hkPi (g := g) hg (argsL := argsL) (rest := rest) (hlen _ hsigM) hstack hdg
  obtain ⟨v, B, X', hpost, hsteps⟩ := hK m meth c ⟨T.setVm vm₁, locs, cells, slots⟩ { g with stack := rest } (.invokevirtual index) mk (Value.ref b :: argsL).toArray X₁ hg hsize hdg hW (X₁.named hnamed) (hpre vm₁ X₁.warmed)
  exact ⟨v, vm₁, B, X₁.warmed, X', hpost, fun target h => hstep₁ _ fun acts => by rw [doInvoke_state]; exact hsteps.trans h⟩
abbrev vx_CVW (R : Room) (s : State) (args : Array Value) (own C : String) (index : Nat) (y : MethodName) (bytes : ByteArray) (maxL : Nat) (ret : Option FieldType) (hh : List (Nat × Nat × Nat × Nat)) (ws : List Cond) (rm : Room) (mc ms n : Nat) : Prop :=
  (rm.cells = mc ∧ rm.slots = ms ∧ rm.frames + 1 ≤ R.frames ∧ 8 + (maxL + 11) + rm.locals ≤ R.locals ∧ (∀ w ∈ ws, ∀ (a' : Array Value) (U : State), s.WarmedH U.vm → w.before a' U = true) ∧ Cond.codeWith y bytes maxL ret hh ∈ ws) ∧
  (Cond.codeWith y bytes maxL ret hh).before args s = true ∧ (Cond.initialized y.cls).before args s = true ∧ (y.cls ≠ "java/lang/invoke/MethodHandle" ∧ y.cls ≠ "java/lang/invoke/VarHandle") ∧
  (∀ sig, parseMethodDescriptor y.desc = some sig → n = sig.parameters.length) ∧ (Cond.methodLink own index y).before args s = true ∧ (Cond.instanceMethod y).before args s = true ∧ (Cond.selects C y y).before args s = true
theorem vx_cwVW {own C : String} {index maxL mc ms : Nat} {y : MethodName} {bytes : ByteArray} {ret : Option FieldType} {hh : List (Nat × Nat × Nat × Nat)} {Ts ws ws' : List Cond} {rm : Room} (n : Nat) (ht : ∀ w ∈ Ts, w.before args s = true) (hT : GoodIn Ts (wsV own index C y ws)) (hw : ws = Cond.codeWith y bytes maxL ret hh :: ws') (hrc : rm.cells = mc) (hrs : rm.slots = ms)
    (hd : y.cls = C ∧ y.cls ≠ "java/lang/invoke/MethodHandle" ∧ y.cls ≠ "java/lang/invoke/VarHandle" ∧ (parseMethodDescriptor y.desc).map (fun d => d.parameters.length) = some n) (hR : rm.frames + 1 ≤ R.frames ∧ 8 + (maxL + 11) + rm.locals ≤ R.locals) :
    vx_CVW R s args own C index y bytes maxL ret hh ws rm mc ms n := by
  obtain ⟨hC, hd⟩ := hd
  subst hC
  have ok : ∀ w ∈ wsV own index y.cls y ws, w.before args s = true := fun w h => ht w (hT w h).1
  have hG : GoodIn Ts ws := fun w h => hT w (by unfold wsV; exact List.mem_append_right _ h)
  have hc : Cond.codeWith y bytes maxL ret hh ∈ ws := by rw [hw]; exact List.mem_cons_self
  refine ⟨⟨hrc, hrs, hR.1, hR.2, pay_in ht hG, hc⟩, ht _ (hG _ hc).1, ok _ (by simp [wsV]), ⟨hd.1, hd.2.1⟩, fun sig h => ?_, ok _ (by simp [wsV]), ok _ (by simp [wsV]), ok _ (by simp [wsV])⟩
  have h2 := hd.2.2
  rw [h] at h2
  exact (Option.some.inj h2).symm
theorem vx_runVW {y : MethodName} {bytes cc : ByteArray} {maxL nL mc ms n index : Nat} {ret : Option FieldType} {hh : List (Nat × Nat × Nat × Nat)} {ws : List Cond} {rm : Room} {Pc : Array Value → State → Prop} {Qc : Array Value → State → Outcome → State → Prop} {free : Addr → Prop} {Ts : List Cond} {own C : String} {b : Addr} {As rest : List Value} {g : JFrame}
    (S : CallFix p m c cc nL s args Ts own) (hM : Met l y ws rm Pc Qc mc ms free) (cw : vx_CVW R s args own C index y bytes maxL ret hh ws rm mc ms n) (hp : PreV s H C b Pc As)
    (hg : g.method = m) (hn : As.length = n) (hsize : g.locals.size = nL) (hstack : g.stack = As.reverse ++ .ref b :: rest) (hW : 2 * g.monitorRoom + (rest.map fun v => v.category).sum ≤ 8) (hdg : decode cc g.pc = .ok (.invokevirtual index, 3)) (hf : cells + mc ≤ R.cells ∧ slots + ms ≤ R.slots) :
    va_Run p l e R s m args below meth c H locs cells slots mc ms g rest (Qc (Value.ref b :: As).toArray) free := by
  obtain ⟨⟨hrc, hrs, hfr, hlo, hws, hcw⟩, hcode, hini, hy, hlen, hl, hin, hse⟩ := cw
  have hK : Back l R p e below s args y 3 8 (PreOf R mc ms Pc) (PostOf Qc mc ms free) := va_backW (hh := hh) (bytes := bytes) (maxL := maxL) (ret := ret) hM hp.1 hrc hrs hfr hlo hws hcw (fun a' U hW => word_at hW (Or.inl (by first | rfl | simp [Cond.onTables, Cond.keeps, Cond.steady])) hini)
  obtain ⟨hx, hb, hml, ho, -⟩ := S
  obtain ⟨-, ⟨cellB, hcB, hoB, hclB⟩, hPc⟩ := hp
  intro T hT X
  obtain ⟨v, vm₁, ⟨U', l2, c2, s2⟩, hW₁, X', ⟨g', mk, t, L, e1, e2, hq, h1, hL, h2, h3⟩, st⟩ := vx_callVW X hx (C := C) (hh := hh) (bytes := bytes) (maxL := maxL) (ret := ret) ho hl hin hse hcode hy hK (by rw [hT]; exact hcB) hoB hclB hg (hsize.trans hml.symm) (argsL := As) (rest := rest) (fun sig h => hn.trans (hlen sig h)) hstack hW (by rw [hb]; exact hdg)
    (fun vm₁ hW₁ => ⟨hf.1, hf.2, hPc (T.setVm vm₁) hT hW₁⟩)
  dsimp only [Pt.U, Pt.locs, Pt.cells, Pt.slots] at X' e1 e2 h1 h2 h3 st
  subst h1; subst h2; subst h3
  exact ⟨v, (T.setVm vm₁).calling g' mk (Value.ref b :: As).toArray, t, U', L, hT, X', hL, e1, e2, hq, st⟩
section
variable {y : MethodName} {bytes cc : ByteArray} {maxL nL mc ms n index : Nat} {ret : Option FieldType} {ws : List Cond} {rm : Room} {Pc : Array Value → State → Prop} {Qc : Array Value → State → Outcome → State → Prop} {XC : String → State → State → Prop} {free : Addr → Prop} {Ts : List Cond} {own C : String} {b : Addr} {As rest : List Value} {g : JFrame}
theorem vx_runVX {hh : List (Nat × Nat × Nat × Nat)} (S : CallFix p m c cc nL s args Ts own) (hM : vx_Met l y ws rm Pc Qc XC mc ms free) (cw : vx_CVW R s args own C index y bytes maxL ret hh ws rm mc ms n) (hp : PreV s H C b Pc As)
    (hg : g.method = m) (hn : As.length = n) (hsize : g.locals.size = nL) (hstack : g.stack = As.reverse ++ .ref b :: rest) (hW : 2 * g.monitorRoom + (rest.map fun v => v.category).sum ≤ 8) (hdg : decode cc g.pc = .ok (.invokevirtual index, 3)) (hf : cells + mc ≤ R.cells ∧ slots + ms ≤ R.slots) :
    vx_Run p l e R s m args below meth c H locs cells slots mc ms g rest (Qc (Value.ref b :: As).toArray) XC free := by
  obtain ⟨⟨hrc, hrs, hfr, hlo, hws, hcw⟩, hcode, hini, hy, hlen, hl, hin, hse⟩ := cw
  have hK : vx_Back l R p e below s args y 3 8 (PreOf R mc ms Pc) (PostOf Qc mc ms free) (vx_Post XC mc ms free) := vx_backW (hh := hh) (bytes := bytes) (maxL := maxL) (ret := ret) hM hp.1 hrc hrs hfr hlo hws hcw (fun a' U hW => word_at hW (Or.inl (by first | rfl | simp [Cond.onTables, Cond.keeps, Cond.steady])) hini)
  obtain ⟨hx, hb, hml, ho, -⟩ := S
  obtain ⟨-, ⟨cellB, hcB, hoB, hclB⟩, hPc⟩ := hp
  intro T hT X
  rcases vx_callVX X hx (C := C) (hh := hh) (bytes := bytes) (maxL := maxL) (ret := ret) ho hl hin hse hcode hy hK (by rw [hT]; exact hcB) hoB hclB hg (hsize.trans hml.symm) (argsL := As) (rest := rest) (fun sig h => hn.trans (hlen sig h)) hstack hW (by rw [hb]; exact hdg)
    (fun vm₁ hW₁ => ⟨hf.1, hf.2, hPc (T.setVm vm₁) hT hW₁⟩) with ⟨v, vm₁, ⟨U', l2, c2, s2⟩, hW₁, X', ⟨g', mk, t, L, e1, e2, hq, h1, hL, h2, h3⟩, st⟩ | ⟨q, vm₁, ⟨U', l2, c2, s2⟩, hW₁, X', ⟨g', mk, t, L, E, ce, e1, e2, hq, hce, hcv, hcl, h1, hL, h2, h3⟩, st⟩
  · dsimp only [Pt.U, Pt.locs, Pt.cells, Pt.slots] at X' e1 e2 h1 h2 h3 st
    subst h1; subst h2; subst h3
    exact Or.inl ⟨v, (T.setVm vm₁).calling g' mk (Value.ref b :: As).toArray, t, U', L, hT, X', hL, e1, e2, hq, st⟩
  · dsimp only [Pt.U, Pt.locs, Pt.cells, Pt.slots] at X' e1 e2 h1 h2 h3 st hcl
    subst h1; subst h2; subst h3
    exact Or.inr ⟨q, (T.setVm vm₁).calling g' mk (Value.ref b :: As).toArray, t, U', L, E, ce, hT, X', hL, e1, e2, hq, hce, hcv, vx_cls hW₁ hcl, st⟩
theorem vx_runSX {hh : List (Nat × Nat × Nat × Nat)} (S : CallFix p m c cc nL s args Ts own) (hM : vx_Met l y ws rm Pc Qc XC mc ms free) (cw : vx_CSW R s args own index y bytes maxL ret hh ws rm mc ms n) (hp : PreS s H Pc As)
    (hg : g.method = m) (hn : As.length = n) (hsize : g.locals.size = nL) (hstack : g.stack = As.reverse ++ rest) (hW : 2 * g.monitorRoom + (rest.map fun v => v.category).sum ≤ 8) (hdg : decode cc g.pc = .ok (.invokestatic index, 3)) (hf : cells + mc ≤ R.cells ∧ slots + ms ≤ R.slots) :
    vx_Run p l e R s m args below meth c H locs cells slots mc ms g rest (Qc As.toArray) XC free := by
  obtain ⟨⟨hrc, hrs, hfr, hlo, hws, hcw⟩, hcode, hini, hy, hlen, hl, hstt⟩ := cw
  have hK : vx_Back l R p e below s args y 3 8 (PreOf R mc ms Pc) (PostOf Qc mc ms free) (vx_Post XC mc ms free) := vx_backW (hh := hh) (bytes := bytes) (maxL := maxL) (ret := ret) hM hp.1 hrc hrs hfr hlo hws hcw (fun a' U hW => word_at hW (Or.inl (by first | rfl | simp [Cond.onTables, Cond.keeps, Cond.steady])) hini)
  obtain ⟨hx, hb, hml, ho, -⟩ := S
  intro T hT X
  rcases vx_callSX X hx (hh := hh) (bytes := bytes) (maxL := maxL) (ret := ret) ho hl hstt hini hcode hy hK hg (hsize.trans hml.symm) (argsL := As) (rest := rest) (fun sig h => hn.trans (hlen sig h)) hstack hW (by rw [hb]; exact hdg)
    (fun vm₁ hW₁ => ⟨hf.1, hf.2, hp.2 (T.setVm vm₁) hT hW₁⟩) with ⟨v, vm₁, ⟨U', l2, c2, s2⟩, hW₁, X', ⟨g', mk, t, L, e1, e2, hq, h1, hL, h2, h3⟩, st⟩ | ⟨q, vm₁, ⟨U', l2, c2, s2⟩, hW₁, X', ⟨g', mk, t, L, E, ce, e1, e2, hq, hce, hcv, hcl, h1, hL, h2, h3⟩, st⟩
  · dsimp only [Pt.U, Pt.locs, Pt.cells, Pt.slots] at X' e1 e2 h1 h2 h3 st
    subst h1; subst h2; subst h3
    exact Or.inl ⟨v, (T.setVm vm₁).calling g' mk As.toArray, t, U', L, hT, X', hL, e1, e2, hq, st⟩
  · dsimp only [Pt.U, Pt.locs, Pt.cells, Pt.slots] at X' e1 e2 h1 h2 h3 st hcl
    subst h1; subst h2; subst h3
    exact Or.inr ⟨q, (T.setVm vm₁).calling g' mk As.toArray, t, U', L, E, ce, hT, X', hL, e1, e2, hq, hce, hcv, vx_cls hW₁ hcl, st⟩
end
end VXH
theorem vx_ofWH {l : Launch} {y : MethodName} {ws ws' : List Cond} {rm : Room} {Pc : Array Value → State → Prop} {Qc : Array Value → State → Outcome → State → Prop} {XC : String → State → State → Prop} {mc ms : Nat} {free : Addr → Prop} {cc : ByteArray} {maxL : Nat} {ret : Option FieldType} {hh : List (Nat × Nat × Nat × Nat)}
    (hy : plainName y.cls = true) (hw : ws = Cond.codeWith y cc maxL ret hh :: ws')
    (body : ∀ p e s m args below meth c s₁, BodyLoose p l y (headSpec ws rm) cc maxL ret e s m args below meth c s₁ → c.maxLocals = maxL → Pc args s →
      W p l e (headSpec ws rm).room s m args below meth c s.heap [] 0 0 (vx_MQ below Qc XC args s mc ms free) (entryFrame m args maxL)) : vx_Met l y ws rm Pc Qc XC mc ms free := by
  refine MetFree.of_bodyS (code := cc) (maxLocals := maxL) (ret := ret) hy ?_ ?_
  · intro args s m h hn
    obtain ⟨m9, meth, c, hn9, h1, h2, h3, h4, -, h5, h6, -⟩ := Cond.codeWith_spec (atoms_spec (ws := ws) h _ (by rw [hw]; exact List.mem_cons_self))
    cases hn.symm.trans hn9
    exact ⟨meth, c, h1, h2, h3, h4, h5, h6⟩
  · intro p e s m args below meth c s₁ B hml hP _
    have hh0 : s₁.heap = s.heap := by rw [B.state]; rfl
    obtain ⟨t, a1, o, b1, b2, b3⟩ := body p e s m args below meth c s₁ B hml hP s₁ hh0 (Stand.of_body B)
    exact ⟨t, o, a1, b1, b2, b3⟩
/-! ===== END ===== -/
end
section
/-! ===== BEGIN printed: names, fields, word lists, decode rows ===== -/
def RX0 : String := "PedalBoard$Pedals"
def TX0 : u_T := fun k => match k with
  | 0 => ("PedalBoard$Pedals", "kinds", "[I", true)
  | 1 => ("PedalBoard$Pedals", "knobs", "[J", true)
  | 2 => ("PedalBoard$Pedals", "on", "[Z", true)
  | _ => ("PedalBoard$Pedals", "count", "I", false)
def tyX0 : Nat → FieldType := fun k => match k with
  | 0 => .array .int
  | 1 => .array .long
  | 2 => .array .boolean
  | _ => .int
abbrev wsX00 : List Cond := u_ws RX0 TX0 4
theorem nmX0 : ∀ a, a < 4 → ∀ b, b < 4 → a ≠ b → (TX0 a).2.1 ≠ (TX0 b).2.1 := by decide +kernel
theorem tyX0_ok : ∀ k, k < 4 → parseFieldDescriptor (TX0 k).2.2.1 = some (tyX0 k) := by decide +kernel
abbrev cX0_init : ByteArray := prog_2_method_1_code
def yX0_init : MethodName := ⟨RX0, "<init>", "()V"⟩
abbrev cX0_has : ByteArray := prog_2_method_2_code
def yX0_has : MethodName := ⟨RX0, "has", "(I)Z"⟩
abbrev cX0_isFull : ByteArray := prog_2_method_3_code
def yX0_isFull : MethodName := ⟨RX0, "isFull", "()Z"⟩
abbrev cX0_append : ByteArray := prog_2_method_4_code
def yX0_append : MethodName := ⟨RX0, "append", "(IJ)I"⟩
abbrev cX0_areUnlike : ByteArray := prog_2_method_5_code
def yX0_areUnlike : MethodName := ⟨RX0, "areUnlike", "(II)Z"⟩
abbrev cX0_exchange : ByteArray := prog_2_method_6_code
def yX0_exchange : MethodName := ⟨RX0, "exchange", "(II)V"⟩
abbrev cX0_become : ByteArray := prog_2_method_7_code
def yX0_become : MethodName := ⟨RX0, "become", "(LPedalBoard$Pedals;)V"⟩
abbrev cX0_countOn : ByteArray := prog_2_method_8_code
def yX0_countOn : MethodName := ⟨RX0, "countOn", "()I"⟩
def RX1 : String := "PedalBoard$Sort"
def TX1 : u_T := fun k => match k with
  | _ => ("", "", "", false)
def tyX1 : Nat → FieldType := fun k => match k with
  | _ => .int
abbrev wsX10 : List Cond := u_ws RX1 TX1 0
theorem nmX1 : ∀ a, a < 0 → ∀ b, b < 0 → a ≠ b → (TX1 a).2.1 ≠ (TX1 b).2.1 := by decide +kernel
theorem tyX1_ok : ∀ k, k < 0 → parseFieldDescriptor (TX1 k).2.2.1 = some (tyX1 k) := by decide +kernel
abbrev cX1_isWhole : ByteArray := prog_3_method_4_code
def yX1_isWhole : MethodName := ⟨RX1, "isWhole", "()Z"⟩
abbrev cX1_infinite : ByteArray := prog_3_method_5_code
def yX1_infinite : MethodName := ⟨RX1, "infinite", "()J"⟩
abbrev cX1_one : ByteArray := prog_3_method_6_code
def yX1_one : MethodName := ⟨RX1, "one", "()J"⟩
abbrev cX1_oneHalf : ByteArray := prog_3_method_7_code
def yX1_oneHalf : MethodName := ⟨RX1, "oneHalf", "()J"⟩
abbrev cX1_codeOf : ByteArray := prog_3_method_8_code
def yX1_codeOf : MethodName := ⟨RX1, "codeOf", "(II)J"⟩
abbrev cX1_isIll : ByteArray := prog_3_method_9_code
def yX1_isIll : MethodName := ⟨RX1, "isIll", "(J)Z"⟩
abbrev cX1_isZero : ByteArray := prog_3_method_10_code
def yX1_isZero : MethodName := ⟨RX1, "isZero", "(J)Z"⟩
abbrev cX1_hasKind : ByteArray := prog_3_method_11_code
def yX1_hasKind : MethodName := ⟨RX1, "hasKind", "(I)Z"⟩
abbrev cX1_isLess : ByteArray := prog_3_method_12_code
def yX1_isLess : MethodName := ⟨RX1, "isLess", "(JJ)Z"⟩
abbrev cX1_rank : ByteArray := prog_3_method_13_code
def yX1_rank : MethodName := ⟨RX1, "rank", "(J)J"⟩
abbrev cX1_through : ByteArray := prog_3_method_14_code
def yX1_through : MethodName := ⟨RX1, "through", "(IJJ)J"⟩
abbrev cX1_withOtherSign : ByteArray := prog_3_method_15_code
def yX1_withOtherSign : MethodName := ⟨RX1, "withOtherSign", "(J)J"⟩
abbrev cX1_withSignOf : ByteArray := prog_3_method_16_code
def yX1_withSignOf : MethodName := ⟨RX1, "withSignOf", "(JJ)J"⟩
abbrev cX1_fitted : ByteArray := prog_3_method_17_code
def yX1_fitted : MethodName := ⟨RX1, "fitted", "(J)J"⟩
abbrev cX1_wholeSize : ByteArray := prog_3_method_18_code
def yX1_wholeSize : MethodName := ⟨RX1, "wholeSize", "(IJ)J"⟩
abbrev cX1_growsAway : ByteArray := prog_3_method_19_code
def yX1_growsAway : MethodName := ⟨RX1, "growsAway", "(IJ)Z"⟩
abbrev cX1_isNearerAway : ByteArray := prog_3_method_20_code
def yX1_isNearerAway : MethodName := ⟨RX1, "isNearerAway", "(JJJ)Z"⟩
abbrev cX1_castTo : ByteArray := prog_3_method_21_code
def yX1_castTo : MethodName := ⟨RX1, "castTo", "(LPedalBoard$Sort;J)J"⟩
abbrev cX1_roundedWhole : ByteArray := prog_3_method_22_code
def yX1_roundedWhole : MethodName := ⟨RX1, "roundedWhole", "(J)J"⟩
abbrev cX1_cutTo : ByteArray := prog_3_method_23_code
def yX1_cutTo : MethodName := ⟨RX1, "cutTo", "(LPedalBoard$Sort;J)J"⟩
abbrev cX1_refit : ByteArray := prog_3_method_24_code
def yX1_refit : MethodName := ⟨RX1, "refit", "(LPedalBoard$Sort;J)J"⟩
abbrev cX1_rounded : ByteArray := prog_3_method_25_code
def yX1_rounded : MethodName := ⟨RX1, "rounded", "(JI)J"⟩
abbrev cX1_isOverHalf : ByteArray := prog_3_method_26_code
def yX1_isOverHalf : MethodName := ⟨RX1, "isOverHalf", "(J)Z"⟩
def RX2 : String := "PedalBoard$Wire"
def TX2 : u_T := fun k => match k with
  | 0 => ("PedalBoard$Wire", "sort", "LPedalBoard$Sort;", true)
  | 1 => ("PedalBoard$Wire", "pedals", "LPedalBoard$Pedals;", true)
  | 2 => ("PedalBoard$Wire", "presets", "[LPedalBoard$Pedals;", true)
  | 3 => ("PedalBoard$Wire", "outs", "[J", true)
  | 4 => ("PedalBoard$Wire", "lights", "[Z", true)
  | 5 => ("PedalBoard$Wire", "traced", "Z", false)
  | 6 => ("PedalBoard$Wire", "dry", "J", false)
  | 7 => ("PedalBoard$Wire", "wet", "J", false)
  | 8 => ("PedalBoard$Wire", "rounds", "I", false)
  | 9 => ("PedalBoard$Wire", "greatest", "J", false)
  | _ => ("PedalBoard$Wire", "least", "J", false)
def tyX2 : Nat → FieldType := fun k => match k with
  | 0 => .object "PedalBoard$Sort"
  | 1 => .object "PedalBoard$Pedals"
  | 2 => .array (.object "PedalBoard$Pedals")
  | 3 => .array .long
  | 4 => .array .boolean
  | 5 => .boolean
  | 6 => .long
  | 7 => .long
  | 8 => .int
  | 9 => .long
  | _ => .long
abbrev wsX20 : List Cond := u_ws RX2 TX2 11
theorem nmX2 : ∀ a, a < 11 → ∀ b, b < 11 → a ≠ b → (TX2 a).2.1 ≠ (TX2 b).2.1 := by decide +kernel
theorem tyX2_ok : ∀ k, k < 11 → parseFieldDescriptor (TX2 k).2.2.1 = some (tyX2 k) := by decide +kernel
abbrev cX2_init : ByteArray := prog_4_method_1_code
def yX2_init : MethodName := ⟨RX2, "<init>", "(LPedalBoard$Sort;)V"⟩
abbrev cX2_takeDry : ByteArray := prog_4_method_2_code
def yX2_takeDry : MethodName := ⟨RX2, "takeDry", "(J)Z"⟩
abbrev cX2_runRound : ByteArray := prog_4_method_3_code
def yX2_runRound : MethodName := ⟨RX2, "runRound", "()I"⟩
abbrev cX2_hasPeaks : ByteArray := prog_4_method_4_code
def yX2_hasPeaks : MethodName := ⟨RX2, "hasPeaks", "()Z"⟩
abbrev cX2_keepPeaks : ByteArray := prog_4_method_5_code
def yX2_keepPeaks : MethodName := ⟨RX2, "keepPeaks", "()V"⟩
abbrev cX2_isLit : ByteArray := prog_4_method_6_code
def yX2_isLit : MethodName := ⟨RX2, "isLit", "(I)Z"⟩
abbrev cX2_countLit : ByteArray := prog_4_method_7_code
def yX2_countLit : MethodName := ⟨RX2, "countLit", "()I"⟩
def RX3 : String := "PedalBoard"
def TX3 : u_T := fun k => match k with
  | _ => ("PedalBoard", "wires", "[LPedalBoard$Wire;", true)
def tyX3 : Nat → FieldType := fun k => match k with
  | _ => .array (.object "PedalBoard$Wire")
abbrev wsX30 : List Cond := u_ws RX3 TX3 1
theorem nmX3 : ∀ a, a < 1 → ∀ b, b < 1 → a ≠ b → (TX3 a).2.1 ≠ (TX3 b).2.1 := by decide +kernel
theorem tyX3_ok : ∀ k, k < 1 → parseFieldDescriptor (TX3 k).2.2.1 = some (tyX3 k) := by decide +kernel
abbrev cX3_init : ByteArray := prog_1_method_1_code
def yX3_init : MethodName := ⟨RX3, "<init>", "()V"⟩
abbrev cX3_put : ByteArray := prog_1_method_2_code
def yX3_put : MethodName := ⟨RX3, "put", "(III)Z"⟩
abbrev cX3_pedal : ByteArray := prog_1_method_3_code
def yX3_pedal : MethodName := ⟨RX3, "pedal", "(IIII)I"⟩
abbrev cX3_turn : ByteArray := prog_1_method_4_code
def yX3_turn : MethodName := ⟨RX3, "turn", "(IIII)Z"⟩
abbrev cX3_tap : ByteArray := prog_1_method_5_code
def yX3_tap : MethodName := ⟨RX3, "tap", "(II)Z"⟩
abbrev cX3_swap : ByteArray := prog_1_method_6_code
def yX3_swap : MethodName := ⟨RX3, "swap", "(III)Z"⟩
abbrev cX3_play : ByteArray := prog_1_method_7_code
def yX3_play : MethodName := ⟨RX3, "play", "(II)I"⟩
abbrev cX3_code : ByteArray := prog_1_method_8_code
def yX3_code : MethodName := ⟨RX3, "code", "(II)J"⟩
abbrev cX3_trace : ByteArray := prog_1_method_9_code
def yX3_trace : MethodName := ⟨RX3, "trace", "(II)J"⟩
abbrev cX3_light : ByteArray := prog_1_method_10_code
def yX3_light : MethodName := ⟨RX3, "light", "(II)Z"⟩
abbrev cX3_against : ByteArray := prog_1_method_11_code
def yX3_against : MethodName := ⟨RX3, "against", "(I)I"⟩
abbrev cX3_save : ByteArray := prog_1_method_12_code
def yX3_save : MethodName := ⟨RX3, "save", "(II)I"⟩
abbrev cX3_recall : ByteArray := prog_1_method_13_code
def yX3_recall : MethodName := ⟨RX3, "recall", "(II)I"⟩
abbrev cX3_patch : ByteArray := prog_1_method_14_code
def yX3_patch : MethodName := ⟨RX3, "patch", "(II)J"⟩
abbrev cX3_about : ByteArray := prog_1_method_15_code
def yX3_about : MethodName := ⟨RX3, "about", "(II)I"⟩
abbrev cX3_isWire : ByteArray := prog_1_method_16_code
def yX3_isWire : MethodName := ⟨RX3, "isWire", "(I)Z"⟩
abbrev cX3_wireAt : ByteArray := prog_1_method_17_code
def yX3_wireAt : MethodName := ⟨RX3, "wireAt", "(I)LPedalBoard$Wire;"⟩
abbrev cX3_needPedal : ByteArray := prog_1_method_18_code
def yX3_needPedal : MethodName := ⟨RX3, "needPedal", "(LPedalBoard$Wire;I)V"⟩
abbrev cX3_presetOf : ByteArray := prog_1_method_19_code
def yX3_presetOf : MethodName := ⟨RX3, "presetOf", "(LPedalBoard$Wire;I)LPedalBoard$Pedals;"⟩
abbrev cX3_numberOn : ByteArray := prog_1_method_20_code
def yX3_numberOn : MethodName := ⟨RX3, "numberOn", "(LPedalBoard$Wire;II)J"⟩
def RX4 : String := "PedalBoardModel"
def TX4 : u_T := fun k => match k with
  | 0 => ("PedalBoardModel", "dry", "[J", true)
  | 1 => ("PedalBoardModel", "wet", "[J", true)
  | 2 => ("PedalBoardModel", "most", "[J", true)
  | 3 => ("PedalBoardModel", "least", "[J", true)
  | 4 => ("PedalBoardModel", "played", "[I", true)
  | 5 => ("PedalBoardModel", "many", "[I", true)
  | 6 => ("PedalBoardModel", "traced", "[Z", true)
  | 7 => ("PedalBoardModel", "peaked", "[Z", true)
  | 8 => ("PedalBoardModel", "sort", "[I", true)
  | 9 => ("PedalBoardModel", "knob", "[J", true)
  | 10 => ("PedalBoardModel", "out", "[J", true)
  | 11 => ("PedalBoardModel", "on", "[Z", true)
  | 12 => ("PedalBoardModel", "lit", "[Z", true)
  | 13 => ("PedalBoardModel", "keptMany", "[I", true)
  | 14 => ("PedalBoardModel", "keptKind", "[I", true)
  | 15 => ("PedalBoardModel", "keptKnob", "[J", true)
  | 16 => ("PedalBoardModel", "keptOn", "[Z", true)
  | _ => ("PedalBoardModel", "code", "I", false)
def tyX4 : Nat → FieldType := fun k => match k with
  | 0 => .array .long
  | 1 => .array .long
  | 2 => .array .long
  | 3 => .array .long
  | 4 => .array .int
  | 5 => .array .int
  | 6 => .array .boolean
  | 7 => .array .boolean
  | 8 => .array .int
  | 9 => .array .long
  | 10 => .array .long
  | 11 => .array .boolean
  | 12 => .array .boolean
  | 13 => .array .int
  | 14 => .array .int
  | 15 => .array .long
  | 16 => .array .boolean
  | _ => .int
abbrev wsX40 : List Cond := u_ws RX4 TX4 18
theorem nmX4 : ∀ a, a < 18 → ∀ b, b < 18 → a ≠ b → (TX4 a).2.1 ≠ (TX4 b).2.1 := by decide +kernel
theorem tyX4_ok : ∀ k, k < 18 → parseFieldDescriptor (TX4 k).2.2.1 = some (tyX4 k) := by decide +kernel
abbrev cX4_init : ByteArray := prog_6_method_1_code
def yX4_init : MethodName := ⟨RX4, "<init>", "()V"⟩
abbrev cX4_thrown : ByteArray := prog_6_method_2_code
def yX4_thrown : MethodName := ⟨RX4, "thrown", "()I"⟩
abbrev cX4_isWire : ByteArray := prog_6_method_3_code
def yX4_isWire : MethodName := ⟨RX4, "isWire", "(I)Z"⟩
abbrev cX4_fractionBits : ByteArray := prog_6_method_4_code
def yX4_fractionBits : MethodName := ⟨RX4, "fractionBits", "(I)I"⟩
abbrev cX4_signBit : ByteArray := prog_6_method_5_code
def yX4_signBit : MethodName := ⟨RX4, "signBit", "(I)J"⟩
abbrev cX4_endless : ByteArray := prog_6_method_6_code
def yX4_endless : MethodName := ⟨RX4, "endless", "(I)J"⟩
abbrev cX4_bare : ByteArray := prog_6_method_7_code
def yX4_bare : MethodName := ⟨RX4, "bare", "(IJ)J"⟩
abbrev cX4_asCode : ByteArray := prog_6_method_8_code
def yX4_asCode : MethodName := ⟨RX4, "asCode", "(IJ)J"⟩
abbrev cX4_size : ByteArray := prog_6_method_9_code
def yX4_size : MethodName := ⟨RX4, "size", "(IJ)J"⟩
abbrev cX4_below : ByteArray := prog_6_method_10_code
def yX4_below : MethodName := ⟨RX4, "below", "(IJ)Z"⟩
abbrev cX4_coded : ByteArray := prog_6_method_11_code
def yX4_coded : MethodName := ⟨RX4, "coded", "(III)J"⟩
abbrev cX4_isIll : ByteArray := prog_6_method_12_code
def yX4_isIll : MethodName := ⟨RX4, "isIll", "(IJ)Z"⟩
abbrev cX4_order : ByteArray := prog_6_method_13_code
def yX4_order : MethodName := ⟨RX4, "order", "(IJJ)I"⟩
abbrev cX4_negative : ByteArray := prog_6_method_14_code
def yX4_negative : MethodName := ⟨RX4, "negative", "(IJ)J"⟩
abbrev cX4_upright : ByteArray := prog_6_method_15_code
def yX4_upright : MethodName := ⟨RX4, "upright", "(IJ)J"⟩
abbrev cX4_whole : ByteArray := prog_6_method_16_code
def yX4_whole : MethodName := ⟨RX4, "whole", "(IJI)J"⟩
abbrev cX4_signOf : ByteArray := prog_6_method_17_code
def yX4_signOf : MethodName := ⟨RX4, "signOf", "(IJ)J"⟩
abbrev cX4_works : ByteArray := prog_6_method_18_code
def yX4_works : MethodName := ⟨RX4, "works", "(IIJJ)J"⟩
abbrev cX4_bitsOf : ByteArray := prog_6_method_19_code
def yX4_bitsOf : MethodName := ⟨RX4, "bitsOf", "(J)I"⟩
abbrev cX4_near : ByteArray := prog_6_method_20_code
def yX4_near : MethodName := ⟨RX4, "near", "(IZJI)J"⟩
abbrev cX4_held : ByteArray := prog_6_method_21_code
def yX4_held : MethodName := ⟨RX4, "held", "(IZJI)J"⟩
abbrev cX4_castTo : ByteArray := prog_6_method_22_code
def yX4_castTo : MethodName := ⟨RX4, "castTo", "(IIJ)J"⟩
abbrev cX4_refuses : ByteArray := prog_6_method_23_code
def yX4_refuses : MethodName := ⟨RX4, "refuses", "(ZZ)Z"⟩
abbrev cX4_isPedal : ByteArray := prog_6_method_24_code
def yX4_isPedal : MethodName := ⟨RX4, "isPedal", "(II)Z"⟩
abbrev cX4_come : ByteArray := prog_6_method_25_code
def yX4_come : MethodName := ⟨RX4, "come", "(IJ)Z"⟩
abbrev cX4_put : ByteArray := prog_6_method_26_code
def yX4_put : MethodName := ⟨RX4, "put", "(III)Z"⟩
abbrev cX4_patch : ByteArray := prog_6_method_27_code
def yX4_patch : MethodName := ⟨RX4, "patch", "(II)J"⟩
abbrev cX4_isKind : ByteArray := prog_6_method_28_code
def yX4_isKind : MethodName := ⟨RX4, "isKind", "(II)Z"⟩
abbrev cX4_pedal : ByteArray := prog_6_method_29_code
def yX4_pedal : MethodName := ⟨RX4, "pedal", "(IIII)I"⟩
abbrev cX4_turn : ByteArray := prog_6_method_30_code
def yX4_turn : MethodName := ⟨RX4, "turn", "(IIII)Z"⟩
abbrev cX4_tap : ByteArray := prog_6_method_31_code
def yX4_tap : MethodName := ⟨RX4, "tap", "(II)Z"⟩
abbrev cX4_swap : ByteArray := prog_6_method_32_code
def yX4_swap : MethodName := ⟨RX4, "swap", "(III)Z"⟩
abbrev cX4_round : ByteArray := prog_6_method_33_code
def yX4_round : MethodName := ⟨RX4, "round", "(I)I"⟩
abbrev cX4_play : ByteArray := prog_6_method_34_code
def yX4_play : MethodName := ⟨RX4, "play", "(II)I"⟩
abbrev cX4_code : ByteArray := prog_6_method_35_code
def yX4_code : MethodName := ⟨RX4, "code", "(II)J"⟩
abbrev cX4_trace : ByteArray := prog_6_method_36_code
def yX4_trace : MethodName := ⟨RX4, "trace", "(II)J"⟩
abbrev cX4_light : ByteArray := prog_6_method_37_code
def yX4_light : MethodName := ⟨RX4, "light", "(II)Z"⟩
abbrev cX4_against : ByteArray := prog_6_method_38_code
def yX4_against : MethodName := ⟨RX4, "against", "(I)I"⟩
abbrev cX4_save : ByteArray := prog_6_method_39_code
def yX4_save : MethodName := ⟨RX4, "save", "(II)I"⟩
abbrev cX4_recall : ByteArray := prog_6_method_40_code
def yX4_recall : MethodName := ⟨RX4, "recall", "(II)I"⟩
abbrev cX4_about : ByteArray := prog_6_method_41_code
def yX4_about : MethodName := ⟨RX4, "about", "(II)I"⟩
def RJx29ce0 : String := "java/lang/Enum"
def TJx29ce0 : u_T := fun k => match k with
  | _ => ("", "", "", false)
def tyJx29ce0 : Nat → FieldType := fun k => match k with
  | _ => .int
abbrev wsJx29ce00 : List Cond := u_ws RJx29ce0 TJx29ce0 0
theorem nmJx29ce0 : ∀ a, a < 0 → ∀ b, b < 0 → a ≠ b → (TJx29ce0 a).2.1 ≠ (TJx29ce0 b).2.1 := by decide +kernel
theorem tyJx29ce0_ok : ∀ k, k < 0 → parseFieldDescriptor (TJx29ce0 k).2.2.1 = some (tyJx29ce0 k) := by decide +kernel
def RJ9 : String := "java/lang/Math"
def TJ9 : u_T := fun k => match k with
  | _ => ("", "", "", false)
def tyJ9 : Nat → FieldType := fun k => match k with
  | _ => .int
abbrev wsJ90 : List Cond := u_ws RJ9 TJ9 0
theorem nmJ9 : ∀ a, a < 0 → ∀ b, b < 0 → a ≠ b → (TJ9 a).2.1 ≠ (TJ9 b).2.1 := by decide +kernel
theorem tyJ9_ok : ∀ k, k < 0 → parseFieldDescriptor (TJ9 k).2.2.1 = some (tyJ9 k) := by decide +kernel
abbrev cJ9_max_7cf53 : ByteArray := prog_11_method_65_code
def yJ9_max_7cf53 : MethodName := ⟨RJ9, "max", "(II)I"⟩
abbrev cJ9_min_f86c9 : ByteArray := prog_11_method_70_code
def yJ9_min_f86c9 : MethodName := ⟨RJ9, "min", "(JJ)J"⟩
def RJ0 : String := "java/lang/String"
def TJ0 : u_T := fun k => match k with
  | _ => ("", "", "", false)
def tyJ0 : Nat → FieldType := fun k => match k with
  | _ => .int
abbrev wsJ00 : List Cond := u_ws RJ0 TJ0 0
theorem nmJ0 : ∀ a, a < 0 → ∀ b, b < 0 → a ≠ b → (TJ0 a).2.1 ≠ (TJ0 b).2.1 := by decide +kernel
theorem tyJ0_ok : ∀ k, k < 0 → parseFieldDescriptor (TJ0 k).2.2.1 = some (tyJ0 k) := by decide +kernel
def RL : String := "PedalBoardLaw"
abbrev cL_put : ByteArray := method_3_code
def yL_put : MethodName := ⟨RL, "put", "(LPedalBoard;III[J)I"⟩
abbrev cL_pedal : ByteArray := method_4_code
def yL_pedal : MethodName := ⟨RL, "pedal", "(LPedalBoard;IIII[J)I"⟩
abbrev cL_turn : ByteArray := method_5_code
def yL_turn : MethodName := ⟨RL, "turn", "(LPedalBoard;IIII[J)I"⟩
abbrev cL_tap : ByteArray := method_6_code
def yL_tap : MethodName := ⟨RL, "tap", "(LPedalBoard;II[J)I"⟩
abbrev cL_swap : ByteArray := method_7_code
def yL_swap : MethodName := ⟨RL, "swap", "(LPedalBoard;III[J)I"⟩
abbrev cL_play : ByteArray := method_8_code
def yL_play : MethodName := ⟨RL, "play", "(LPedalBoard;II[J)I"⟩
abbrev cL_code : ByteArray := method_9_code
def yL_code : MethodName := ⟨RL, "code", "(LPedalBoard;II[J)I"⟩
abbrev cL_trace : ByteArray := method_10_code
def yL_trace : MethodName := ⟨RL, "trace", "(LPedalBoard;II[J)I"⟩
abbrev cL_against : ByteArray := method_11_code
def yL_against : MethodName := ⟨RL, "against", "(LPedalBoard;I[J)I"⟩
abbrev cL_save : ByteArray := method_12_code
def yL_save : MethodName := ⟨RL, "save", "(LPedalBoard;II[J)I"⟩
abbrev cL_recall : ByteArray := method_13_code
def yL_recall : MethodName := ⟨RL, "recall", "(LPedalBoard;II[J)I"⟩
abbrev cL_patch : ByteArray := method_14_code
def yL_patch : MethodName := ⟨RL, "patch", "(LPedalBoard;II[J)I"⟩
abbrev cL_law : ByteArray := code
def yL_law : MethodName := ⟨RL, "law", "([I)Z"⟩
def wsX0_init : List Cond := .code yX0_init cX0_init 1 none :: ([.methodLink RX0 3 objectInit, .instanceMethod objectInit, .code objectInit ⟨#[0xb1]⟩ 1 none, .arrayClass .int, .fieldLink RX0 9 "PedalBoard$Pedals" "kinds" "[I", .arrayClass .long, .fieldLink RX0 15 "PedalBoard$Pedals" "knobs" "[J", .arrayClass .boolean, .fieldLink RX0 19 "PedalBoard$Pedals" "on" "[Z"] ++ wsX00)
def wsX0_has : List Cond := .code yX0_has cX0_has 2 (some .boolean) :: ([.fieldLink RX0 23 "PedalBoard$Pedals" "count" "I"] ++ wsX00)
def wsX0_isFull : List Cond := .code yX0_isFull cX0_isFull 1 (some .boolean) :: ([.fieldLink RX0 23 "PedalBoard$Pedals" "count" "I"] ++ wsX00)
def wsX0_append : List Cond := .code yX0_append cX0_append 4 (some .int) :: ([.fieldLink RX0 9 "PedalBoard$Pedals" "kinds" "[I", .fieldLink RX0 23 "PedalBoard$Pedals" "count" "I", .fieldLink RX0 15 "PedalBoard$Pedals" "knobs" "[J", .fieldLink RX0 19 "PedalBoard$Pedals" "on" "[Z", .methodLink RX0 27 yX0_isFull, .instanceMethod yX0_isFull, .selects RX0 yX0_isFull yX0_isFull, .initialized RX0, .code yX0_isFull cX0_isFull 1 (some .boolean)] ++ wsX00)
def wsX0_areUnlike : List Cond := .code yX0_areUnlike cX0_areUnlike 3 (some .boolean) :: ([.fieldLink RX0 9 "PedalBoard$Pedals" "kinds" "[I", .fieldLink RX0 15 "PedalBoard$Pedals" "knobs" "[J", .fieldLink RX0 19 "PedalBoard$Pedals" "on" "[Z"] ++ wsX00)
def wsX0_exchange : List Cond := .code yX0_exchange cX0_exchange 7 none :: ([.fieldLink RX0 9 "PedalBoard$Pedals" "kinds" "[I", .fieldLink RX0 15 "PedalBoard$Pedals" "knobs" "[J", .fieldLink RX0 19 "PedalBoard$Pedals" "on" "[Z"] ++ wsX00)
def wsX0_become : List Cond := .code yX0_become cX0_become 3 none :: ([.fieldLink RX0 23 "PedalBoard$Pedals" "count" "I", .fieldLink RX0 9 "PedalBoard$Pedals" "kinds" "[I", .fieldLink RX0 15 "PedalBoard$Pedals" "knobs" "[J", .fieldLink RX0 19 "PedalBoard$Pedals" "on" "[Z"] ++ wsX00)
def wsX0_countOn : List Cond := .code yX0_countOn cX0_countOn 3 (some .int) :: ([.fieldLink RX0 23 "PedalBoard$Pedals" "count" "I", .fieldLink RX0 19 "PedalBoard$Pedals" "on" "[Z"] ++ wsX00)
def wsX1_isWhole : List Cond := .code yX1_isWhole cX1_isWhole 1 (some .boolean) :: ([.fieldLink RX1 41 "PedalBoard$Sort" "fraction" "I"])
def wsX1_infinite : List Cond := .code yX1_infinite cX1_infinite 1 (some .long) :: ([.constantLong RX1 51 (2), .fieldLink RX1 44 "PedalBoard$Sort" "bias" "I", .fieldLink RX1 41 "PedalBoard$Sort" "fraction" "I"])
def wsX1_one : List Cond := .code yX1_one cX1_one 1 (some .long) :: ([.fieldLink RX1 44 "PedalBoard$Sort" "bias" "I", .fieldLink RX1 41 "PedalBoard$Sort" "fraction" "I"])
def wsX1_oneHalf : List Cond := .code yX1_oneHalf cX1_oneHalf 1 (some .long) :: ([.fieldLink RX1 44 "PedalBoard$Sort" "bias" "I", .fieldLink RX1 41 "PedalBoard$Sort" "fraction" "I"])
def wsX1_codeOf : List Cond := .code yX1_codeOf cX1_codeOf 3 (some .long) :: ([.fieldLink RX1 37 "PedalBoard$Sort" "bits" "I", .constantLong RX1 53 (4294967295)])
def wsX1_isIll : List Cond := .code yX1_isIll cX1_isIll 3 (some .boolean) :: ([.fieldLink RX1 47 "PedalBoard$Sort" "sizeMask" "J", .methodLink RX1 55 yX1_isWhole, .instanceMethod yX1_isWhole, .selects RX1 yX1_isWhole yX1_isWhole, .initialized RX1, .code yX1_isWhole cX1_isWhole 1 (some .boolean), .fieldLink RX1 41 "PedalBoard$Sort" "fraction" "I", .methodLink RX1 59 yX1_infinite, .instanceMethod yX1_infinite, .selects RX1 yX1_infinite yX1_infinite, .code yX1_infinite cX1_infinite 1 (some .long), .constantLong RX1 51 (2), .fieldLink RX1 44 "PedalBoard$Sort" "bias" "I"])
def wsX1_isZero : List Cond := .code yX1_isZero cX1_isZero 3 (some .boolean) :: ([.fieldLink RX1 47 "PedalBoard$Sort" "sizeMask" "J", .methodLink RX1 55 yX1_isWhole, .instanceMethod yX1_isWhole, .selects RX1 yX1_isWhole yX1_isWhole, .initialized RX1, .code yX1_isWhole cX1_isWhole 1 (some .boolean), .fieldLink RX1 41 "PedalBoard$Sort" "fraction" "I"])
def wsX1_hasKind : List Cond := .code yX1_hasKind cX1_hasKind 2 (some .boolean) :: ([.methodLink RX1 55 yX1_isWhole, .instanceMethod yX1_isWhole, .selects RX1 yX1_isWhole yX1_isWhole, .initialized RX1, .code yX1_isWhole cX1_isWhole 1 (some .boolean), .fieldLink RX1 41 "PedalBoard$Sort" "fraction" "I"])
def wsX1_rank : List Cond := .code yX1_rank cX1_rank 3 (some .long) :: ([.fieldLink RX1 47 "PedalBoard$Sort" "sizeMask" "J", .methodLink RX1 55 yX1_isWhole, .instanceMethod yX1_isWhole, .selects RX1 yX1_isWhole yX1_isWhole, .initialized RX1, .code yX1_isWhole cX1_isWhole 1 (some .boolean), .fieldLink RX1 41 "PedalBoard$Sort" "fraction" "I"])
def wsX1_isLess : List Cond := .code yX1_isLess cX1_isLess 5 (some .boolean) :: ([.methodLink RX1 63 yX1_rank, .instanceMethod yX1_rank, .selects RX1 yX1_rank yX1_rank, .initialized RX1, .code yX1_rank cX1_rank 3 (some .long), .fieldLink RX1 47 "PedalBoard$Sort" "sizeMask" "J", .methodLink RX1 55 yX1_isWhole, .instanceMethod yX1_isWhole, .selects RX1 yX1_isWhole yX1_isWhole, .code yX1_isWhole cX1_isWhole 1 (some .boolean), .fieldLink RX1 41 "PedalBoard$Sort" "fraction" "I"])
def wsX1_fitted : List Cond := .code yX1_fitted cX1_fitted 3 (some .long) :: ([.fieldLink RX1 37 "PedalBoard$Sort" "bits" "I"])
def wsX1_withOtherSign : List Cond := .code yX1_withOtherSign cX1_withOtherSign 3 (some .long) :: ([.fieldLink RX1 47 "PedalBoard$Sort" "sizeMask" "J", .constantLong RX1 92 (-1), .methodLink RX1 55 yX1_isWhole, .instanceMethod yX1_isWhole, .selects RX1 yX1_isWhole yX1_isWhole, .initialized RX1, .code yX1_isWhole cX1_isWhole 1 (some .boolean), .fieldLink RX1 41 "PedalBoard$Sort" "fraction" "I", .methodLink RX1 89 yX1_fitted, .instanceMethod yX1_fitted, .selects RX1 yX1_fitted yX1_fitted, .code yX1_fitted cX1_fitted 3 (some .long), .fieldLink RX1 37 "PedalBoard$Sort" "bits" "I"])
def wsX1_growsAway : List Cond := .code yX1_growsAway cX1_growsAway 3 (some .boolean) :: ([])
def wsX1_isNearerAway : List Cond := .code yX1_isNearerAway cX1_isNearerAway 8 (some .boolean) :: ([])
def wsX1_wholeSize : List Cond := .code yX1_wholeSize cX1_wholeSize 14 (some .long) :: ([.fieldLink RX1 47 "PedalBoard$Sort" "sizeMask" "J", .fieldLink RX1 41 "PedalBoard$Sort" "fraction" "I", .fieldLink RX1 44 "PedalBoard$Sort" "bias" "I", .methodLink RX1 94 yX1_oneHalf, .instanceMethod yX1_oneHalf, .selects RX1 yX1_oneHalf yX1_oneHalf, .initialized RX1, .code yX1_oneHalf cX1_oneHalf 1 (some .long), .methodLink RX1 97 yX1_growsAway, .static yX1_growsAway, .code yX1_growsAway cX1_growsAway 3 (some .boolean), .methodLink RX1 86 yX1_one, .instanceMethod yX1_one, .selects RX1 yX1_one yX1_one, .code yX1_one cX1_one 1 (some .long), .methodLink RX1 101 yX1_isNearerAway, .static yX1_isNearerAway, .code yX1_isNearerAway cX1_isNearerAway 8 (some .boolean)])
def wsX1_withSignOf : List Cond := .code yX1_withSignOf cX1_withSignOf 5 (some .long) :: ([.fieldLink RX1 47 "PedalBoard$Sort" "sizeMask" "J", .constantLong RX1 92 (-1)])
def wsX1_through_r1 : List Cond := [Cond.methodLink RX1 67 yX1_withOtherSign, Cond.instanceMethod yX1_withOtherSign, Cond.selects RX1 yX1_withOtherSign yX1_withOtherSign, Cond.initialized RX1, Cond.code yX1_withOtherSign cX1_withOtherSign 3 (some .long), Cond.fieldLink RX1 47 "PedalBoard$Sort" "sizeMask" "J", Cond.constantLong RX1 92 (-1), Cond.methodLink RX1 55 yX1_isWhole, Cond.instanceMethod yX1_isWhole, Cond.selects RX1 yX1_isWhole yX1_isWhole, Cond.code yX1_isWhole cX1_isWhole 1 (some .boolean), Cond.fieldLink RX1 41 "PedalBoard$Sort" "fraction" "I", Cond.methodLink RX1 89 yX1_fitted, Cond.instanceMethod yX1_fitted, Cond.selects RX1 yX1_fitted yX1_fitted, Cond.code yX1_fitted cX1_fitted 3 (some .long), Cond.fieldLink RX1 37 "PedalBoard$Sort" "bits" "I", Cond.methodLink RX1 70 yX1_isLess, Cond.instanceMethod yX1_isLess, Cond.selects RX1 yX1_isLess yX1_isLess, Cond.code yX1_isLess cX1_isLess 5 (some .boolean), Cond.methodLink RX1 63 yX1_rank, Cond.instanceMethod yX1_rank, Cond.selects RX1 yX1_rank yX1_rank]
def wsX1_through_r2 : List Cond := [Cond.code yX1_rank cX1_rank 3 (some .long), Cond.methodLink RX1 74 yX1_wholeSize, Cond.instanceMethod yX1_wholeSize, Cond.selects RX1 yX1_wholeSize yX1_wholeSize, Cond.code yX1_wholeSize cX1_wholeSize 14 (some .long), Cond.fieldLink RX1 44 "PedalBoard$Sort" "bias" "I", Cond.methodLink RX1 94 yX1_oneHalf, Cond.instanceMethod yX1_oneHalf, Cond.selects RX1 yX1_oneHalf yX1_oneHalf, Cond.code yX1_oneHalf cX1_oneHalf 1 (some .long), Cond.methodLink RX1 97 yX1_growsAway, Cond.static yX1_growsAway, Cond.code yX1_growsAway cX1_growsAway 3 (some .boolean), Cond.methodLink RX1 86 yX1_one, Cond.instanceMethod yX1_one, Cond.selects RX1 yX1_one yX1_one, Cond.code yX1_one cX1_one 1 (some .long), Cond.methodLink RX1 101 yX1_isNearerAway, Cond.static yX1_isNearerAway, Cond.code yX1_isNearerAway cX1_isNearerAway 8 (some .boolean), Cond.methodLink RX1 78 yX1_withSignOf, Cond.instanceMethod yX1_withSignOf, Cond.selects RX1 yX1_withSignOf yX1_withSignOf, Cond.code yX1_withSignOf cX1_withSignOf 5 (some .long)]
def wsX1_through_r3 : List Cond := [Cond.methodLink RX1 82 yX1_isZero, Cond.instanceMethod yX1_isZero, Cond.selects RX1 yX1_isZero yX1_isZero, Cond.code yX1_isZero cX1_isZero 3 (some .boolean)]
def wsX1_through : List Cond := .code yX1_through cX1_through 6 (some .long) :: ((wsX1_through_r1 ++ (wsX1_through_r2 ++ wsX1_through_r3)))
def wsX1_isOverHalf : List Cond := .code yX1_isOverHalf cX1_isOverHalf 2 (some .boolean) :: ([.constantLong RX1 130 (-9223372036854775808)])
def wsX1_rounded : List Cond := .code yX1_rounded cX1_rounded 15 (some .long) :: ([.fieldLink RX1 44 "PedalBoard$Sort" "bias" "I", .fieldLink RX1 41 "PedalBoard$Sort" "fraction" "I", .methodLink RX1 119 Lib.Math.max.name, .static Lib.Math.max.name, .initialized "java/lang/Math", .code Lib.Math.max.name Lib.Math.max.code 2 (some .int), .constantLong RX1 130 (-9223372036854775808), .methodLink RX1 132 Lib.MathLoose.min_long.x, .static Lib.MathLoose.min_long.x, .code Lib.MathLoose.min_long.x Lib.MathLoose.min_long.code 4 (some .long), .methodLink RX1 125 yX1_isOverHalf, .static yX1_isOverHalf, .initialized RX1, .code yX1_isOverHalf cX1_isOverHalf 2 (some .boolean), .methodLink RX1 59 yX1_infinite, .instanceMethod yX1_infinite, .selects RX1 yX1_infinite yX1_infinite, .code yX1_infinite cX1_infinite 1 (some .long), .constantLong RX1 51 (2)])
def wsX1_roundedWhole_r1 : List Cond := [Cond.methodLink RX1 115 yX1_rounded, Cond.instanceMethod yX1_rounded, Cond.selects RX1 yX1_rounded yX1_rounded, Cond.initialized RX1, Cond.code yX1_rounded cX1_rounded 15 (some .long), Cond.fieldLink RX1 44 "PedalBoard$Sort" "bias" "I", Cond.fieldLink RX1 41 "PedalBoard$Sort" "fraction" "I", Cond.methodLink RX1 119 Lib.Math.max.name, Cond.static Lib.Math.max.name, Cond.initialized "java/lang/Math", Cond.code Lib.Math.max.name Lib.Math.max.code 2 (some .int), Cond.constantLong RX1 130 (-9223372036854775808), Cond.methodLink RX1 132 Lib.MathLoose.min_long.x, Cond.static Lib.MathLoose.min_long.x, Cond.code Lib.MathLoose.min_long.x Lib.MathLoose.min_long.code 4 (some .long), Cond.methodLink RX1 125 yX1_isOverHalf, Cond.static yX1_isOverHalf, Cond.code yX1_isOverHalf cX1_isOverHalf 2 (some .boolean), Cond.methodLink RX1 59 yX1_infinite, Cond.instanceMethod yX1_infinite, Cond.selects RX1 yX1_infinite yX1_infinite, Cond.code yX1_infinite cX1_infinite 1 (some .long), Cond.constantLong RX1 51 (2), Cond.methodLink RX1 78 yX1_withSignOf]
def wsX1_roundedWhole_r2 : List Cond := [Cond.instanceMethod yX1_withSignOf, Cond.selects RX1 yX1_withSignOf yX1_withSignOf, Cond.code yX1_withSignOf cX1_withSignOf 5 (some .long), Cond.fieldLink RX1 47 "PedalBoard$Sort" "sizeMask" "J", Cond.constantLong RX1 92 (-1)]
def wsX1_roundedWhole : List Cond := .code yX1_roundedWhole cX1_roundedWhole 3 (some .long) :: ((wsX1_roundedWhole_r1 ++ wsX1_roundedWhole_r2))
def wsX1_cutTo : List Cond := .code yX1_cutTo cX1_cutTo 14 (some .long) :: ([.fieldLink RX1 47 "PedalBoard$Sort" "sizeMask" "J", .fieldLink RX1 41 "PedalBoard$Sort" "fraction" "I", .fieldLink RX1 44 "PedalBoard$Sort" "bias" "I", .fieldLink RX1 37 "PedalBoard$Sort" "bits" "I", .constantLong RX1 92 (-1)])
def wsX1_refit_r1 : List Cond := [Cond.fieldLink RX1 47 "PedalBoard$Sort" "sizeMask" "J", Cond.fieldLink RX1 41 "PedalBoard$Sort" "fraction" "I", Cond.methodLink RX1 119 Lib.Math.max.name, Cond.static Lib.Math.max.name, Cond.initialized "java/lang/Math", Cond.code Lib.Math.max.name Lib.Math.max.code 2 (some .int), Cond.fieldLink RX1 44 "PedalBoard$Sort" "bias" "I", Cond.methodLink RX1 78 yX1_withSignOf, Cond.instanceMethod yX1_withSignOf, Cond.selects RX1 yX1_withSignOf yX1_withSignOf, Cond.initialized RX1, Cond.code yX1_withSignOf cX1_withSignOf 5 (some .long), Cond.constantLong RX1 92 (-1), Cond.methodLink RX1 59 yX1_infinite, Cond.instanceMethod yX1_infinite, Cond.selects RX1 yX1_infinite yX1_infinite, Cond.code yX1_infinite cX1_infinite 1 (some .long), Cond.constantLong RX1 51 (2), Cond.methodLink RX1 115 yX1_rounded, Cond.instanceMethod yX1_rounded, Cond.selects RX1 yX1_rounded yX1_rounded, Cond.code yX1_rounded cX1_rounded 15 (some .long), Cond.constantLong RX1 130 (-9223372036854775808), Cond.methodLink RX1 132 Lib.MathLoose.min_long.x]
def wsX1_refit_r2 : List Cond := [Cond.static Lib.MathLoose.min_long.x, Cond.code Lib.MathLoose.min_long.x Lib.MathLoose.min_long.code 4 (some .long), Cond.methodLink RX1 125 yX1_isOverHalf, Cond.static yX1_isOverHalf, Cond.code yX1_isOverHalf cX1_isOverHalf 2 (some .boolean)]
def wsX1_refit : List Cond := .code yX1_refit cX1_refit 12 (some .long) :: ((wsX1_refit_r1 ++ wsX1_refit_r2))
def wsX1_castTo_r1 : List Cond := [Cond.methodLink RX1 55 yX1_isWhole, Cond.instanceMethod yX1_isWhole, Cond.selects RX1 yX1_isWhole yX1_isWhole, Cond.initialized RX1, Cond.code yX1_isWhole cX1_isWhole 1 (some .boolean), Cond.fieldLink RX1 41 "PedalBoard$Sort" "fraction" "I", Cond.methodLink RX1 89 yX1_fitted, Cond.instanceMethod yX1_fitted, Cond.selects RX1 yX1_fitted yX1_fitted, Cond.code yX1_fitted cX1_fitted 3 (some .long), Cond.fieldLink RX1 37 "PedalBoard$Sort" "bits" "I", Cond.methodLink RX1 105 yX1_roundedWhole, Cond.instanceMethod yX1_roundedWhole, Cond.selects RX1 yX1_roundedWhole yX1_roundedWhole, Cond.code yX1_roundedWhole cX1_roundedWhole 3 (some .long), Cond.methodLink RX1 115 yX1_rounded, Cond.instanceMethod yX1_rounded, Cond.selects RX1 yX1_rounded yX1_rounded, Cond.code yX1_rounded cX1_rounded 15 (some .long), Cond.fieldLink RX1 44 "PedalBoard$Sort" "bias" "I", Cond.methodLink RX1 119 Lib.Math.max.name, Cond.static Lib.Math.max.name, Cond.initialized "java/lang/Math", Cond.code Lib.Math.max.name Lib.Math.max.code 2 (some .int)]
def wsX1_castTo_r2 : List Cond := [Cond.constantLong RX1 130 (-9223372036854775808), Cond.methodLink RX1 132 Lib.MathLoose.min_long.x, Cond.static Lib.MathLoose.min_long.x, Cond.code Lib.MathLoose.min_long.x Lib.MathLoose.min_long.code 4 (some .long), Cond.methodLink RX1 125 yX1_isOverHalf, Cond.static yX1_isOverHalf, Cond.code yX1_isOverHalf cX1_isOverHalf 2 (some .boolean), Cond.methodLink RX1 59 yX1_infinite, Cond.instanceMethod yX1_infinite, Cond.selects RX1 yX1_infinite yX1_infinite, Cond.code yX1_infinite cX1_infinite 1 (some .long), Cond.constantLong RX1 51 (2), Cond.methodLink RX1 78 yX1_withSignOf, Cond.instanceMethod yX1_withSignOf, Cond.selects RX1 yX1_withSignOf yX1_withSignOf, Cond.code yX1_withSignOf cX1_withSignOf 5 (some .long), Cond.fieldLink RX1 47 "PedalBoard$Sort" "sizeMask" "J", Cond.constantLong RX1 92 (-1), Cond.methodLink RX1 108 yX1_cutTo, Cond.instanceMethod yX1_cutTo, Cond.selects RX1 yX1_cutTo yX1_cutTo, Cond.code yX1_cutTo cX1_cutTo 14 (some .long), Cond.methodLink RX1 112 yX1_refit, Cond.instanceMethod yX1_refit]
def wsX1_castTo_r3 : List Cond := [Cond.selects RX1 yX1_refit yX1_refit, Cond.code yX1_refit cX1_refit 12 (some .long)]
def wsX1_castTo : List Cond := .code yX1_castTo cX1_castTo 4 (some .long) :: ((wsX1_castTo_r1 ++ (wsX1_castTo_r2 ++ wsX1_castTo_r3)))
def wsX2_init : List Cond := .code yX2_init cX2_init 3 none :: ([.methodLink RX2 3 objectInit, .instanceMethod objectInit, .code objectInit ⟨#[0xb1]⟩ 1 none, .fieldLink RX2 9 "PedalBoard$Wire" "sort" "LPedalBoard$Sort;", .classLink RX2 15 RX0, .instantiable RX0 4, .initialized RX0, .fieldLink RX2 18 "PedalBoard$Wire" "pedals" "LPedalBoard$Pedals;", .fieldLink RX2 22 "PedalBoard$Wire" "presets" "[LPedalBoard$Pedals;", .arrayClass .long, .fieldLink RX2 26 "PedalBoard$Wire" "outs" "[J", .arrayClass .boolean, .fieldLink RX2 30 "PedalBoard$Wire" "lights" "[Z", .methodLink RX2 17 yX0_init, .instanceMethod yX0_init, .code yX0_init cX0_init 1 none, .methodLink RX0 3 objectInit, .arrayClass .int, .fieldLink RX0 9 "PedalBoard$Pedals" "kinds" "[I", .fieldLink RX0 15 "PedalBoard$Pedals" "knobs" "[J", .fieldLink RX0 19 "PedalBoard$Pedals" "on" "[Z"] ++ wsX20 ++ wsX00)
def wsX2_takeDry : List Cond := .code yX2_takeDry cX2_takeDry 4 (some .boolean) :: ([.fieldLink RX2 34 "PedalBoard$Wire" "dry" "J", .fieldLink RX2 38 "PedalBoard$Wire" "wet" "J", .fieldLink RX2 41 "PedalBoard$Wire" "rounds" "I", .fieldLink RX2 45 "PedalBoard$Wire" "traced" "Z"] ++ wsX20)
def wsX2_hasPeaks : List Cond := .code yX2_hasPeaks cX2_hasPeaks 1 (some .boolean) :: ([.fieldLink RX2 41 "PedalBoard$Wire" "rounds" "I"] ++ wsX20)
def wsX2_keepPeaks_r1 : List Cond := [Cond.fieldLink RX2 9 "PedalBoard$Wire" "sort" "LPedalBoard$Sort;", Cond.fieldLink RX2 75 "PedalBoard$Wire" "greatest" "J", Cond.fieldLink RX2 38 "PedalBoard$Wire" "wet" "J", Cond.fieldLink RX2 82 "PedalBoard$Wire" "least" "J", Cond.methodLink RX2 71 yX2_hasPeaks, Cond.instanceMethod yX2_hasPeaks, Cond.selects RX2 yX2_hasPeaks yX2_hasPeaks, Cond.initialized RX2, Cond.code yX2_hasPeaks cX2_hasPeaks 1 (some .boolean), Cond.fieldLink RX2 41 "PedalBoard$Wire" "rounds" "I", Cond.methodLink RX2 78 yX1_isLess, Cond.instanceMethod yX1_isLess, Cond.selects RX1 yX1_isLess yX1_isLess, Cond.initialized RX1, Cond.code yX1_isLess cX1_isLess 5 (some .boolean), Cond.methodLink RX1 63 yX1_rank, Cond.instanceMethod yX1_rank, Cond.selects RX1 yX1_rank yX1_rank, Cond.code yX1_rank cX1_rank 3 (some .long), Cond.fieldLink RX1 47 "PedalBoard$Sort" "sizeMask" "J", Cond.methodLink RX1 55 yX1_isWhole, Cond.instanceMethod yX1_isWhole, Cond.selects RX1 yX1_isWhole yX1_isWhole, Cond.code yX1_isWhole cX1_isWhole 1 (some .boolean)]
def wsX2_keepPeaks_r2 : List Cond := [Cond.fieldLink RX1 41 "PedalBoard$Sort" "fraction" "I"]
def wsX2_keepPeaks : List Cond := .code yX2_keepPeaks cX2_keepPeaks 1 none :: ((wsX2_keepPeaks_r1 ++ wsX2_keepPeaks_r2) ++ wsX20)
def wsX2_runRound_r1 : List Cond := [Cond.fieldLink RX2 18 "PedalBoard$Wire" "pedals" "LPedalBoard$Pedals;", Cond.fieldLink RX2 49 "PedalBoard$Pedals" "count" "I", Cond.fieldLink RX2 38 "PedalBoard$Wire" "wet" "J", Cond.fieldLink RX2 52 "PedalBoard$Pedals" "on" "[Z", Cond.fieldLink RX2 9 "PedalBoard$Wire" "sort" "LPedalBoard$Sort;", Cond.fieldLink RX2 55 "PedalBoard$Pedals" "kinds" "[I", Cond.fieldLink RX2 59 "PedalBoard$Pedals" "knobs" "[J", Cond.fieldLink RX2 26 "PedalBoard$Wire" "outs" "[J", Cond.fieldLink RX2 30 "PedalBoard$Wire" "lights" "[Z", Cond.fieldLink RX2 45 "PedalBoard$Wire" "traced" "Z", Cond.fieldLink RX2 41 "PedalBoard$Wire" "rounds" "I", Cond.methodLink RX2 62 yX1_through, Cond.instanceMethod yX1_through, Cond.selects RX1 yX1_through yX1_through, Cond.initialized RX1, Cond.code yX1_through cX1_through 6 (some .long), Cond.methodLink RX1 67 yX1_withOtherSign, Cond.instanceMethod yX1_withOtherSign, Cond.selects RX1 yX1_withOtherSign yX1_withOtherSign, Cond.code yX1_withOtherSign cX1_withOtherSign 3 (some .long), Cond.fieldLink RX1 47 "PedalBoard$Sort" "sizeMask" "J", Cond.constantLong RX1 92 (-1), Cond.methodLink RX1 55 yX1_isWhole, Cond.instanceMethod yX1_isWhole]
def wsX2_runRound_r2 : List Cond := [Cond.selects RX1 yX1_isWhole yX1_isWhole, Cond.code yX1_isWhole cX1_isWhole 1 (some .boolean), Cond.fieldLink RX1 41 "PedalBoard$Sort" "fraction" "I", Cond.methodLink RX1 89 yX1_fitted, Cond.instanceMethod yX1_fitted, Cond.selects RX1 yX1_fitted yX1_fitted, Cond.code yX1_fitted cX1_fitted 3 (some .long), Cond.fieldLink RX1 37 "PedalBoard$Sort" "bits" "I", Cond.methodLink RX1 70 yX1_isLess, Cond.instanceMethod yX1_isLess, Cond.selects RX1 yX1_isLess yX1_isLess, Cond.code yX1_isLess cX1_isLess 5 (some .boolean), Cond.methodLink RX1 63 yX1_rank, Cond.instanceMethod yX1_rank, Cond.selects RX1 yX1_rank yX1_rank, Cond.code yX1_rank cX1_rank 3 (some .long), Cond.methodLink RX1 74 yX1_wholeSize, Cond.instanceMethod yX1_wholeSize, Cond.selects RX1 yX1_wholeSize yX1_wholeSize, Cond.code yX1_wholeSize cX1_wholeSize 14 (some .long), Cond.fieldLink RX1 44 "PedalBoard$Sort" "bias" "I", Cond.methodLink RX1 94 yX1_oneHalf, Cond.instanceMethod yX1_oneHalf, Cond.selects RX1 yX1_oneHalf yX1_oneHalf]
def wsX2_runRound_r3 : List Cond := [Cond.code yX1_oneHalf cX1_oneHalf 1 (some .long), Cond.methodLink RX1 97 yX1_growsAway, Cond.static yX1_growsAway, Cond.code yX1_growsAway cX1_growsAway 3 (some .boolean), Cond.methodLink RX1 86 yX1_one, Cond.instanceMethod yX1_one, Cond.selects RX1 yX1_one yX1_one, Cond.code yX1_one cX1_one 1 (some .long), Cond.methodLink RX1 101 yX1_isNearerAway, Cond.static yX1_isNearerAway, Cond.code yX1_isNearerAway cX1_isNearerAway 8 (some .boolean), Cond.methodLink RX1 78 yX1_withSignOf, Cond.instanceMethod yX1_withSignOf, Cond.selects RX1 yX1_withSignOf yX1_withSignOf, Cond.code yX1_withSignOf cX1_withSignOf 5 (some .long), Cond.methodLink RX1 82 yX1_isZero, Cond.instanceMethod yX1_isZero, Cond.selects RX1 yX1_isZero yX1_isZero, Cond.code yX1_isZero cX1_isZero 3 (some .boolean), Cond.methodLink RX2 68 yX2_keepPeaks, Cond.instanceMethod yX2_keepPeaks, Cond.selects RX2 yX2_keepPeaks yX2_keepPeaks, Cond.initialized RX2, Cond.code yX2_keepPeaks cX2_keepPeaks 1 none]
def wsX2_runRound_r4 : List Cond := [Cond.fieldLink RX2 75 "PedalBoard$Wire" "greatest" "J", Cond.fieldLink RX2 82 "PedalBoard$Wire" "least" "J", Cond.methodLink RX2 71 yX2_hasPeaks, Cond.instanceMethod yX2_hasPeaks, Cond.selects RX2 yX2_hasPeaks yX2_hasPeaks, Cond.code yX2_hasPeaks cX2_hasPeaks 1 (some .boolean), Cond.methodLink RX2 78 yX1_isLess]
def wsX2_runRound : List Cond := .code yX2_runRound cX2_runRound 5 (some .int) :: ((wsX2_runRound_r1 ++ (wsX2_runRound_r2 ++ (wsX2_runRound_r3 ++ wsX2_runRound_r4))) ++ wsX20 ++ wsX00)
def wsX2_isLit : List Cond := .code yX2_isLit cX2_isLit 2 (some .boolean) :: ([.fieldLink RX2 45 "PedalBoard$Wire" "traced" "Z", .fieldLink RX2 18 "PedalBoard$Wire" "pedals" "LPedalBoard$Pedals;", .fieldLink RX2 30 "PedalBoard$Wire" "lights" "[Z", .methodLink RX2 85 yX0_has, .instanceMethod yX0_has, .selects RX0 yX0_has yX0_has, .initialized RX0, .code yX0_has cX0_has 2 (some .boolean), .fieldLink RX0 23 "PedalBoard$Pedals" "count" "I"] ++ wsX20 ++ wsX00)
def wsX2_countLit : List Cond := .code yX2_countLit cX2_countLit 3 (some .int) :: ([.fieldLink RX2 18 "PedalBoard$Wire" "pedals" "LPedalBoard$Pedals;", .fieldLink RX2 49 "PedalBoard$Pedals" "count" "I", .methodLink RX2 89 yX2_isLit, .instanceMethod yX2_isLit, .selects RX2 yX2_isLit yX2_isLit, .initialized RX2, .code yX2_isLit cX2_isLit 2 (some .boolean), .fieldLink RX2 45 "PedalBoard$Wire" "traced" "Z", .fieldLink RX2 30 "PedalBoard$Wire" "lights" "[Z", .methodLink RX2 85 yX0_has, .instanceMethod yX0_has, .selects RX0 yX0_has yX0_has, .initialized RX0, .code yX0_has cX0_has 2 (some .boolean), .fieldLink RX0 23 "PedalBoard$Pedals" "count" "I"] ++ wsX20 ++ wsX00)
def wsX3_init_r1 : List Cond := [Cond.methodLink RX3 1 objectInit, Cond.instanceMethod objectInit, Cond.code objectInit ⟨#[0xb1]⟩ 1 none, Cond.classLink RX3 9 RX2, Cond.fieldLink RX3 11 "PedalBoard" "wires" "[LPedalBoard$Wire;", Cond.instantiable RX2 11, Cond.initialized RX2, Cond.fieldLink RX3 15 "PedalBoard" "SORTS" "[LPedalBoard$Sort;", Cond.methodLink RX3 19 yX2_init, Cond.instanceMethod yX2_init, Cond.code yX2_init cX2_init 3 none, Cond.methodLink RX2 3 objectInit, Cond.fieldLink RX2 9 "PedalBoard$Wire" "sort" "LPedalBoard$Sort;", Cond.classLink RX2 15 RX0, Cond.instantiable RX0 4, Cond.initialized RX0, Cond.fieldLink RX2 18 "PedalBoard$Wire" "pedals" "LPedalBoard$Pedals;", Cond.fieldLink RX2 22 "PedalBoard$Wire" "presets" "[LPedalBoard$Pedals;", Cond.arrayClass .long, Cond.fieldLink RX2 26 "PedalBoard$Wire" "outs" "[J", Cond.arrayClass .boolean, Cond.fieldLink RX2 30 "PedalBoard$Wire" "lights" "[Z", Cond.methodLink RX2 17 yX0_init, Cond.instanceMethod yX0_init]
def wsX3_init_r2 : List Cond := [Cond.code yX0_init cX0_init 1 none, Cond.methodLink RX0 3 objectInit, Cond.arrayClass .int, Cond.fieldLink RX0 9 "PedalBoard$Pedals" "kinds" "[I", Cond.fieldLink RX0 15 "PedalBoard$Pedals" "knobs" "[J", Cond.fieldLink RX0 19 "PedalBoard$Pedals" "on" "[Z"]
def wsX3_init : List Cond := .code yX3_init cX3_init 2 none :: ((wsX3_init_r1 ++ wsX3_init_r2) ++ wsX30 ++ wsX20 ++ wsX00)
def wsX3_isWire : List Cond := .code yX3_isWire cX3_isWire 1 (some .boolean) :: ([])
def wsX3_wireAt : List Cond := .code yX3_wireAt cX3_wireAt 2 (some (.object "PedalBoard$Wire")) :: ([.classLink RX3 44 "java/lang/IllegalArgumentException", .initialized "java/lang/IllegalArgumentException", .fieldLink RX3 11 "PedalBoard" "wires" "[LPedalBoard$Wire;", .methodLink RX3 125 yX3_isWire, .static yX3_isWire, .initialized RX3, .code yX3_isWire cX3_isWire 1 (some .boolean)] ++ wsX30 ++ (vx_atS RX3 48 "java/lang/IllegalArgumentException" ["java/lang/RuntimeException", "java/lang/Exception"]).filter goodWord)
def wsX3_numberOn_r1 : List Cond := [Cond.classLink RX3 44 "java/lang/IllegalArgumentException", Cond.initialized "java/lang/IllegalArgumentException", Cond.fieldLink RX3 34 "PedalBoard$Wire" "sort" "LPedalBoard$Sort;", Cond.methodLink RX3 176 yX1_codeOf, Cond.instanceMethod yX1_codeOf, Cond.selects RX1 yX1_codeOf yX1_codeOf, Cond.initialized RX1, Cond.code yX1_codeOf cX1_codeOf 3 (some .long), Cond.fieldLink RX1 37 "PedalBoard$Sort" "bits" "I", Cond.constantLong RX1 53 (4294967295), Cond.methodLink RX3 180 yX1_isIll, Cond.instanceMethod yX1_isIll, Cond.selects RX1 yX1_isIll yX1_isIll, Cond.code yX1_isIll cX1_isIll 3 (some .boolean), Cond.fieldLink RX1 47 "PedalBoard$Sort" "sizeMask" "J", Cond.methodLink RX1 55 yX1_isWhole, Cond.instanceMethod yX1_isWhole, Cond.selects RX1 yX1_isWhole yX1_isWhole, Cond.code yX1_isWhole cX1_isWhole 1 (some .boolean), Cond.fieldLink RX1 41 "PedalBoard$Sort" "fraction" "I", Cond.methodLink RX1 59 yX1_infinite, Cond.instanceMethod yX1_infinite, Cond.selects RX1 yX1_infinite yX1_infinite, Cond.code yX1_infinite cX1_infinite 1 (some .long)]
def wsX3_numberOn_r2 : List Cond := [Cond.constantLong RX1 51 (2), Cond.fieldLink RX1 44 "PedalBoard$Sort" "bias" "I"]
def wsX3_numberOn : List Cond := .code yX3_numberOn cX3_numberOn 5 (some .long) :: ((wsX3_numberOn_r1 ++ wsX3_numberOn_r2) ++ wsX20 ++ (vx_atS RX3 48 "java/lang/IllegalArgumentException" ["java/lang/RuntimeException", "java/lang/Exception"]).filter goodWord)
def wsX3_put_r1 : List Cond := [Cond.methodLink RX3 22 yX3_wireAt, Cond.instanceMethod yX3_wireAt, Cond.selects RX3 yX3_wireAt yX3_wireAt, Cond.initialized RX3, Cond.code yX3_wireAt cX3_wireAt 2 (some (.object "PedalBoard$Wire")), Cond.classLink RX3 44 "java/lang/IllegalArgumentException", Cond.initialized "java/lang/IllegalArgumentException", Cond.fieldLink RX3 11 "PedalBoard" "wires" "[LPedalBoard$Wire;", Cond.methodLink RX3 125 yX3_isWire, Cond.static yX3_isWire, Cond.code yX3_isWire cX3_isWire 1 (some .boolean), Cond.methodLink RX3 26 yX3_numberOn, Cond.static yX3_numberOn, Cond.code yX3_numberOn cX3_numberOn 5 (some .long), Cond.fieldLink RX3 34 "PedalBoard$Wire" "sort" "LPedalBoard$Sort;", Cond.methodLink RX3 176 yX1_codeOf, Cond.instanceMethod yX1_codeOf, Cond.selects RX1 yX1_codeOf yX1_codeOf, Cond.initialized RX1, Cond.code yX1_codeOf cX1_codeOf 3 (some .long), Cond.fieldLink RX1 37 "PedalBoard$Sort" "bits" "I", Cond.constantLong RX1 53 (4294967295), Cond.methodLink RX3 180 yX1_isIll, Cond.instanceMethod yX1_isIll]
def wsX3_put_r2 : List Cond := [Cond.selects RX1 yX1_isIll yX1_isIll, Cond.code yX1_isIll cX1_isIll 3 (some .boolean), Cond.fieldLink RX1 47 "PedalBoard$Sort" "sizeMask" "J", Cond.methodLink RX1 55 yX1_isWhole, Cond.instanceMethod yX1_isWhole, Cond.selects RX1 yX1_isWhole yX1_isWhole, Cond.code yX1_isWhole cX1_isWhole 1 (some .boolean), Cond.fieldLink RX1 41 "PedalBoard$Sort" "fraction" "I", Cond.methodLink RX1 59 yX1_infinite, Cond.instanceMethod yX1_infinite, Cond.selects RX1 yX1_infinite yX1_infinite, Cond.code yX1_infinite cX1_infinite 1 (some .long), Cond.constantLong RX1 51 (2), Cond.fieldLink RX1 44 "PedalBoard$Sort" "bias" "I", Cond.methodLink RX3 30 yX2_takeDry, Cond.instanceMethod yX2_takeDry, Cond.selects RX2 yX2_takeDry yX2_takeDry, Cond.initialized RX2, Cond.code yX2_takeDry cX2_takeDry 4 (some .boolean), Cond.fieldLink RX2 34 "PedalBoard$Wire" "dry" "J", Cond.fieldLink RX2 38 "PedalBoard$Wire" "wet" "J", Cond.fieldLink RX2 41 "PedalBoard$Wire" "rounds" "I", Cond.fieldLink RX2 45 "PedalBoard$Wire" "traced" "Z"]
def wsX3_put : List Cond := .code yX3_put cX3_put 5 (some .boolean) :: ((wsX3_put_r1 ++ wsX3_put_r2) ++ wsX30 ++ wsX20 ++ (vx_atS RX3 48 "java/lang/IllegalArgumentException" ["java/lang/RuntimeException", "java/lang/Exception"]).filter goodWord)
def wsX3_pedal_r1 : List Cond := [Cond.classLink RX3 44 "java/lang/IllegalArgumentException", Cond.initialized "java/lang/IllegalArgumentException", Cond.classLink RX3 61 "java/lang/IllegalStateException", Cond.initialized "java/lang/IllegalStateException", Cond.fieldLink RX3 34 "PedalBoard$Wire" "sort" "LPedalBoard$Sort;", Cond.fieldLink RX3 51 "PedalBoard$Wire" "pedals" "LPedalBoard$Pedals;", Cond.fieldLink RX3 66 "PedalBoard$Wire" "traced" "Z", Cond.methodLink RX3 22 yX3_wireAt, Cond.instanceMethod yX3_wireAt, Cond.selects RX3 yX3_wireAt yX3_wireAt, Cond.initialized RX3, Cond.code yX3_wireAt cX3_wireAt 2 (some (.object "PedalBoard$Wire")), Cond.fieldLink RX3 11 "PedalBoard" "wires" "[LPedalBoard$Wire;", Cond.methodLink RX3 125 yX3_isWire, Cond.static yX3_isWire, Cond.code yX3_isWire cX3_isWire 1 (some .boolean), Cond.methodLink RX3 38 yX1_hasKind, Cond.instanceMethod yX1_hasKind, Cond.selects RX1 yX1_hasKind yX1_hasKind, Cond.initialized RX1, Cond.code yX1_hasKind cX1_hasKind 2 (some .boolean), Cond.methodLink RX1 55 yX1_isWhole, Cond.instanceMethod yX1_isWhole, Cond.selects RX1 yX1_isWhole yX1_isWhole]
def wsX3_pedal_r2 : List Cond := [Cond.code yX1_isWhole cX1_isWhole 1 (some .boolean), Cond.fieldLink RX1 41 "PedalBoard$Sort" "fraction" "I", Cond.methodLink RX3 26 yX3_numberOn, Cond.static yX3_numberOn, Cond.code yX3_numberOn cX3_numberOn 5 (some .long), Cond.methodLink RX3 176 yX1_codeOf, Cond.instanceMethod yX1_codeOf, Cond.selects RX1 yX1_codeOf yX1_codeOf, Cond.code yX1_codeOf cX1_codeOf 3 (some .long), Cond.fieldLink RX1 37 "PedalBoard$Sort" "bits" "I", Cond.constantLong RX1 53 (4294967295), Cond.methodLink RX3 180 yX1_isIll, Cond.instanceMethod yX1_isIll, Cond.selects RX1 yX1_isIll yX1_isIll, Cond.code yX1_isIll cX1_isIll 3 (some .boolean), Cond.fieldLink RX1 47 "PedalBoard$Sort" "sizeMask" "J", Cond.methodLink RX1 59 yX1_infinite, Cond.instanceMethod yX1_infinite, Cond.selects RX1 yX1_infinite yX1_infinite, Cond.code yX1_infinite cX1_infinite 1 (some .long), Cond.constantLong RX1 51 (2), Cond.fieldLink RX1 44 "PedalBoard$Sort" "bias" "I", Cond.methodLink RX3 55 yX0_isFull, Cond.instanceMethod yX0_isFull]
def wsX3_pedal_r3 : List Cond := [Cond.selects RX0 yX0_isFull yX0_isFull, Cond.initialized RX0, Cond.code yX0_isFull cX0_isFull 1 (some .boolean), Cond.fieldLink RX0 23 "PedalBoard$Pedals" "count" "I", Cond.methodLink RX3 70 yX0_append, Cond.instanceMethod yX0_append, Cond.selects RX0 yX0_append yX0_append, Cond.code yX0_append cX0_append 4 (some .int), Cond.fieldLink RX0 9 "PedalBoard$Pedals" "kinds" "[I", Cond.fieldLink RX0 15 "PedalBoard$Pedals" "knobs" "[J", Cond.fieldLink RX0 19 "PedalBoard$Pedals" "on" "[Z", Cond.methodLink RX0 27 yX0_isFull]
def wsX3_pedal : List Cond := .code yX3_pedal cX3_pedal 8 (some .int) :: ((wsX3_pedal_r1 ++ (wsX3_pedal_r2 ++ wsX3_pedal_r3)) ++ wsX20 ++ wsX30 ++ wsX00 ++ (vx_atS RX3 48 "java/lang/IllegalArgumentException" ["java/lang/RuntimeException", "java/lang/Exception"]).filter goodWord ++ (vx_atS RX3 65 "java/lang/IllegalStateException" ["java/lang/RuntimeException", "java/lang/Exception"]).filter goodWord)
def wsX3_needPedal : List Cond := .code yX3_needPedal cX3_needPedal 2 none :: ([.classLink RX3 44 "java/lang/IllegalArgumentException", .initialized "java/lang/IllegalArgumentException", .fieldLink RX3 51 "PedalBoard$Wire" "pedals" "LPedalBoard$Pedals;", .methodLink RX3 165 yX0_has, .instanceMethod yX0_has, .selects RX0 yX0_has yX0_has, .initialized RX0, .code yX0_has cX0_has 2 (some .boolean), .fieldLink RX0 23 "PedalBoard$Pedals" "count" "I"] ++ wsX20 ++ wsX00 ++ (vx_atS RX3 48 "java/lang/IllegalArgumentException" ["java/lang/RuntimeException", "java/lang/Exception"]).filter goodWord)
def wsX3_turn_r1 : List Cond := [Cond.fieldLink RX3 51 "PedalBoard$Wire" "pedals" "LPedalBoard$Pedals;", Cond.fieldLink RX3 78 "PedalBoard$Pedals" "knobs" "[J", Cond.methodLink RX3 22 yX3_wireAt, Cond.instanceMethod yX3_wireAt, Cond.selects RX3 yX3_wireAt yX3_wireAt, Cond.initialized RX3, Cond.code yX3_wireAt cX3_wireAt 2 (some (.object "PedalBoard$Wire")), Cond.classLink RX3 44 "java/lang/IllegalArgumentException", Cond.initialized "java/lang/IllegalArgumentException", Cond.fieldLink RX3 11 "PedalBoard" "wires" "[LPedalBoard$Wire;", Cond.methodLink RX3 125 yX3_isWire, Cond.static yX3_isWire, Cond.code yX3_isWire cX3_isWire 1 (some .boolean), Cond.methodLink RX3 74 yX3_needPedal, Cond.static yX3_needPedal, Cond.code yX3_needPedal cX3_needPedal 2 none, Cond.methodLink RX3 165 yX0_has, Cond.instanceMethod yX0_has, Cond.selects RX0 yX0_has yX0_has, Cond.initialized RX0, Cond.code yX0_has cX0_has 2 (some .boolean), Cond.fieldLink RX0 23 "PedalBoard$Pedals" "count" "I", Cond.methodLink RX3 26 yX3_numberOn, Cond.static yX3_numberOn]
def wsX3_turn_r2 : List Cond := [Cond.code yX3_numberOn cX3_numberOn 5 (some .long), Cond.fieldLink RX3 34 "PedalBoard$Wire" "sort" "LPedalBoard$Sort;", Cond.methodLink RX3 176 yX1_codeOf, Cond.instanceMethod yX1_codeOf, Cond.selects RX1 yX1_codeOf yX1_codeOf, Cond.initialized RX1, Cond.code yX1_codeOf cX1_codeOf 3 (some .long), Cond.fieldLink RX1 37 "PedalBoard$Sort" "bits" "I", Cond.constantLong RX1 53 (4294967295), Cond.methodLink RX3 180 yX1_isIll, Cond.instanceMethod yX1_isIll, Cond.selects RX1 yX1_isIll yX1_isIll, Cond.code yX1_isIll cX1_isIll 3 (some .boolean), Cond.fieldLink RX1 47 "PedalBoard$Sort" "sizeMask" "J", Cond.methodLink RX1 55 yX1_isWhole, Cond.instanceMethod yX1_isWhole, Cond.selects RX1 yX1_isWhole yX1_isWhole, Cond.code yX1_isWhole cX1_isWhole 1 (some .boolean), Cond.fieldLink RX1 41 "PedalBoard$Sort" "fraction" "I", Cond.methodLink RX1 59 yX1_infinite, Cond.instanceMethod yX1_infinite, Cond.selects RX1 yX1_infinite yX1_infinite, Cond.code yX1_infinite cX1_infinite 1 (some .long), Cond.constantLong RX1 51 (2)]
def wsX3_turn_r3 : List Cond := [Cond.fieldLink RX1 44 "PedalBoard$Sort" "bias" "I"]
def wsX3_turn : List Cond := .code yX3_turn cX3_turn 9 (some .boolean) :: ((wsX3_turn_r1 ++ (wsX3_turn_r2 ++ wsX3_turn_r3)) ++ wsX20 ++ wsX00 ++ wsX30 ++ (vx_atS RX3 48 "java/lang/IllegalArgumentException" ["java/lang/RuntimeException", "java/lang/Exception"]).filter goodWord)
def wsX3_tap : List Cond := .code yX3_tap cX3_tap 4 (some .boolean) :: ([.fieldLink RX3 51 "PedalBoard$Wire" "pedals" "LPedalBoard$Pedals;", .fieldLink RX3 82 "PedalBoard$Pedals" "on" "[Z", .methodLink RX3 22 yX3_wireAt, .instanceMethod yX3_wireAt, .selects RX3 yX3_wireAt yX3_wireAt, .initialized RX3, .code yX3_wireAt cX3_wireAt 2 (some (.object "PedalBoard$Wire")), .classLink RX3 44 "java/lang/IllegalArgumentException", .initialized "java/lang/IllegalArgumentException", .fieldLink RX3 11 "PedalBoard" "wires" "[LPedalBoard$Wire;", .methodLink RX3 125 yX3_isWire, .static yX3_isWire, .code yX3_isWire cX3_isWire 1 (some .boolean), .methodLink RX3 74 yX3_needPedal, .static yX3_needPedal, .code yX3_needPedal cX3_needPedal 2 none, .methodLink RX3 165 yX0_has, .instanceMethod yX0_has, .selects RX0 yX0_has yX0_has, .initialized RX0, .code yX0_has cX0_has 2 (some .boolean), .fieldLink RX0 23 "PedalBoard$Pedals" "count" "I"] ++ wsX20 ++ wsX00 ++ wsX30 ++ (vx_atS RX3 48 "java/lang/IllegalArgumentException" ["java/lang/RuntimeException", "java/lang/Exception"]).filter goodWord)
def wsX3_swap_r1 : List Cond := [Cond.fieldLink RX3 66 "PedalBoard$Wire" "traced" "Z", Cond.fieldLink RX3 51 "PedalBoard$Wire" "pedals" "LPedalBoard$Pedals;", Cond.methodLink RX3 22 yX3_wireAt, Cond.instanceMethod yX3_wireAt, Cond.selects RX3 yX3_wireAt yX3_wireAt, Cond.initialized RX3, Cond.code yX3_wireAt cX3_wireAt 2 (some (.object "PedalBoard$Wire")), Cond.classLink RX3 44 "java/lang/IllegalArgumentException", Cond.initialized "java/lang/IllegalArgumentException", Cond.fieldLink RX3 11 "PedalBoard" "wires" "[LPedalBoard$Wire;", Cond.methodLink RX3 125 yX3_isWire, Cond.static yX3_isWire, Cond.code yX3_isWire cX3_isWire 1 (some .boolean), Cond.methodLink RX3 74 yX3_needPedal, Cond.static yX3_needPedal, Cond.code yX3_needPedal cX3_needPedal 2 none, Cond.methodLink RX3 165 yX0_has, Cond.instanceMethod yX0_has, Cond.selects RX0 yX0_has yX0_has, Cond.initialized RX0, Cond.code yX0_has cX0_has 2 (some .boolean), Cond.fieldLink RX0 23 "PedalBoard$Pedals" "count" "I", Cond.methodLink RX3 86 yX0_areUnlike, Cond.instanceMethod yX0_areUnlike]
def wsX3_swap_r2 : List Cond := [Cond.selects RX0 yX0_areUnlike yX0_areUnlike, Cond.code yX0_areUnlike cX0_areUnlike 3 (some .boolean), Cond.fieldLink RX0 9 "PedalBoard$Pedals" "kinds" "[I", Cond.fieldLink RX0 15 "PedalBoard$Pedals" "knobs" "[J", Cond.fieldLink RX0 19 "PedalBoard$Pedals" "on" "[Z", Cond.methodLink RX3 90 yX0_exchange, Cond.instanceMethod yX0_exchange, Cond.selects RX0 yX0_exchange yX0_exchange, Cond.code yX0_exchange cX0_exchange 7 none]
def wsX3_swap : List Cond := .code yX3_swap cX3_swap 6 (some .boolean) :: ((wsX3_swap_r1 ++ wsX3_swap_r2) ++ wsX20 ++ wsX30 ++ wsX00 ++ (vx_atS RX3 48 "java/lang/IllegalArgumentException" ["java/lang/RuntimeException", "java/lang/Exception"]).filter goodWord)
def wsX3_play_r1 : List Cond := [Cond.classLink RX3 44 "java/lang/IllegalArgumentException", Cond.initialized "java/lang/IllegalArgumentException", Cond.methodLink RX3 22 yX3_wireAt, Cond.instanceMethod yX3_wireAt, Cond.selects RX3 yX3_wireAt yX3_wireAt, Cond.initialized RX3, Cond.code yX3_wireAt cX3_wireAt 2 (some (.object "PedalBoard$Wire")), Cond.fieldLink RX3 11 "PedalBoard" "wires" "[LPedalBoard$Wire;", Cond.methodLink RX3 125 yX3_isWire, Cond.static yX3_isWire, Cond.code yX3_isWire cX3_isWire 1 (some .boolean), Cond.methodLink RX3 96 yX2_runRound, Cond.instanceMethod yX2_runRound, Cond.selects RX2 yX2_runRound yX2_runRound, Cond.initialized RX2, Cond.code yX2_runRound cX2_runRound 5 (some .int), Cond.fieldLink RX2 18 "PedalBoard$Wire" "pedals" "LPedalBoard$Pedals;", Cond.fieldLink RX2 49 "PedalBoard$Pedals" "count" "I", Cond.fieldLink RX2 38 "PedalBoard$Wire" "wet" "J", Cond.fieldLink RX2 52 "PedalBoard$Pedals" "on" "[Z", Cond.fieldLink RX2 9 "PedalBoard$Wire" "sort" "LPedalBoard$Sort;", Cond.fieldLink RX2 55 "PedalBoard$Pedals" "kinds" "[I", Cond.fieldLink RX2 59 "PedalBoard$Pedals" "knobs" "[J", Cond.fieldLink RX2 26 "PedalBoard$Wire" "outs" "[J"]
def wsX3_play_r2 : List Cond := [Cond.fieldLink RX2 30 "PedalBoard$Wire" "lights" "[Z", Cond.fieldLink RX2 45 "PedalBoard$Wire" "traced" "Z", Cond.fieldLink RX2 41 "PedalBoard$Wire" "rounds" "I", Cond.methodLink RX2 62 yX1_through, Cond.instanceMethod yX1_through, Cond.selects RX1 yX1_through yX1_through, Cond.initialized RX1, Cond.code yX1_through cX1_through 6 (some .long), Cond.methodLink RX1 67 yX1_withOtherSign, Cond.instanceMethod yX1_withOtherSign, Cond.selects RX1 yX1_withOtherSign yX1_withOtherSign, Cond.code yX1_withOtherSign cX1_withOtherSign 3 (some .long), Cond.fieldLink RX1 47 "PedalBoard$Sort" "sizeMask" "J", Cond.constantLong RX1 92 (-1), Cond.methodLink RX1 55 yX1_isWhole, Cond.instanceMethod yX1_isWhole, Cond.selects RX1 yX1_isWhole yX1_isWhole, Cond.code yX1_isWhole cX1_isWhole 1 (some .boolean), Cond.fieldLink RX1 41 "PedalBoard$Sort" "fraction" "I", Cond.methodLink RX1 89 yX1_fitted, Cond.instanceMethod yX1_fitted, Cond.selects RX1 yX1_fitted yX1_fitted, Cond.code yX1_fitted cX1_fitted 3 (some .long), Cond.fieldLink RX1 37 "PedalBoard$Sort" "bits" "I"]
def wsX3_play_r3 : List Cond := [Cond.methodLink RX1 70 yX1_isLess, Cond.instanceMethod yX1_isLess, Cond.selects RX1 yX1_isLess yX1_isLess, Cond.code yX1_isLess cX1_isLess 5 (some .boolean), Cond.methodLink RX1 63 yX1_rank, Cond.instanceMethod yX1_rank, Cond.selects RX1 yX1_rank yX1_rank, Cond.code yX1_rank cX1_rank 3 (some .long), Cond.methodLink RX1 74 yX1_wholeSize, Cond.instanceMethod yX1_wholeSize, Cond.selects RX1 yX1_wholeSize yX1_wholeSize, Cond.code yX1_wholeSize cX1_wholeSize 14 (some .long), Cond.fieldLink RX1 44 "PedalBoard$Sort" "bias" "I", Cond.methodLink RX1 94 yX1_oneHalf, Cond.instanceMethod yX1_oneHalf, Cond.selects RX1 yX1_oneHalf yX1_oneHalf, Cond.code yX1_oneHalf cX1_oneHalf 1 (some .long), Cond.methodLink RX1 97 yX1_growsAway, Cond.static yX1_growsAway, Cond.code yX1_growsAway cX1_growsAway 3 (some .boolean), Cond.methodLink RX1 86 yX1_one, Cond.instanceMethod yX1_one, Cond.selects RX1 yX1_one yX1_one, Cond.code yX1_one cX1_one 1 (some .long)]
def wsX3_play_r4 : List Cond := [Cond.methodLink RX1 101 yX1_isNearerAway, Cond.static yX1_isNearerAway, Cond.code yX1_isNearerAway cX1_isNearerAway 8 (some .boolean), Cond.methodLink RX1 78 yX1_withSignOf, Cond.instanceMethod yX1_withSignOf, Cond.selects RX1 yX1_withSignOf yX1_withSignOf, Cond.code yX1_withSignOf cX1_withSignOf 5 (some .long), Cond.methodLink RX1 82 yX1_isZero, Cond.instanceMethod yX1_isZero, Cond.selects RX1 yX1_isZero yX1_isZero, Cond.code yX1_isZero cX1_isZero 3 (some .boolean), Cond.methodLink RX2 68 yX2_keepPeaks, Cond.instanceMethod yX2_keepPeaks, Cond.selects RX2 yX2_keepPeaks yX2_keepPeaks, Cond.code yX2_keepPeaks cX2_keepPeaks 1 none, Cond.fieldLink RX2 75 "PedalBoard$Wire" "greatest" "J", Cond.fieldLink RX2 82 "PedalBoard$Wire" "least" "J", Cond.methodLink RX2 71 yX2_hasPeaks, Cond.instanceMethod yX2_hasPeaks, Cond.selects RX2 yX2_hasPeaks yX2_hasPeaks, Cond.code yX2_hasPeaks cX2_hasPeaks 1 (some .boolean), Cond.methodLink RX2 78 yX1_isLess]
def wsX3_play : List Cond := .code yX3_play cX3_play 6 (some .int) :: ((wsX3_play_r1 ++ (wsX3_play_r2 ++ (wsX3_play_r3 ++ wsX3_play_r4))) ++ wsX30 ++ wsX20 ++ wsX00 ++ (vx_atS RX3 48 "java/lang/IllegalArgumentException" ["java/lang/RuntimeException", "java/lang/Exception"]).filter goodWord)
def wsX3_code : List Cond := .code yX3_code cX3_code 4 (some .long) :: ([.classLink RX3 44 "java/lang/IllegalArgumentException", .initialized "java/lang/IllegalArgumentException", .classLink RX3 61 "java/lang/IllegalStateException", .initialized "java/lang/IllegalStateException", .fieldLink RX3 102 "PedalBoard$Wire" "dry" "J", .fieldLink RX3 106 "PedalBoard$Wire" "wet" "J", .fieldLink RX3 114 "PedalBoard$Wire" "greatest" "J", .fieldLink RX3 117 "PedalBoard$Wire" "least" "J", .methodLink RX3 22 yX3_wireAt, .instanceMethod yX3_wireAt, .selects RX3 yX3_wireAt yX3_wireAt, .initialized RX3, .code yX3_wireAt cX3_wireAt 2 (some (.object "PedalBoard$Wire")), .fieldLink RX3 11 "PedalBoard" "wires" "[LPedalBoard$Wire;", .methodLink RX3 125 yX3_isWire, .static yX3_isWire, .code yX3_isWire cX3_isWire 1 (some .boolean), .methodLink RX3 109 yX2_hasPeaks, .instanceMethod yX2_hasPeaks, .selects RX2 yX2_hasPeaks yX2_hasPeaks, .initialized RX2, .code yX2_hasPeaks cX2_hasPeaks 1 (some .boolean), .fieldLink RX2 41 "PedalBoard$Wire" "rounds" "I"] ++ wsX20 ++ wsX30 ++ (vx_atS RX3 48 "java/lang/IllegalArgumentException" ["java/lang/RuntimeException", "java/lang/Exception"]).filter goodWord ++ (vx_atS RX3 65 "java/lang/IllegalStateException" ["java/lang/RuntimeException", "java/lang/Exception"]).filter goodWord)
def wsX3_trace_r1 : List Cond := [Cond.classLink RX3 61 "java/lang/IllegalStateException", Cond.initialized "java/lang/IllegalStateException", Cond.fieldLink RX3 66 "PedalBoard$Wire" "traced" "Z", Cond.fieldLink RX3 122 "PedalBoard$Wire" "outs" "[J", Cond.methodLink RX3 22 yX3_wireAt, Cond.instanceMethod yX3_wireAt, Cond.selects RX3 yX3_wireAt yX3_wireAt, Cond.initialized RX3, Cond.code yX3_wireAt cX3_wireAt 2 (some (.object "PedalBoard$Wire")), Cond.classLink RX3 44 "java/lang/IllegalArgumentException", Cond.initialized "java/lang/IllegalArgumentException", Cond.fieldLink RX3 11 "PedalBoard" "wires" "[LPedalBoard$Wire;", Cond.methodLink RX3 125 yX3_isWire, Cond.static yX3_isWire, Cond.code yX3_isWire cX3_isWire 1 (some .boolean), Cond.methodLink RX3 74 yX3_needPedal, Cond.static yX3_needPedal, Cond.code yX3_needPedal cX3_needPedal 2 none, Cond.fieldLink RX3 51 "PedalBoard$Wire" "pedals" "LPedalBoard$Pedals;", Cond.methodLink RX3 165 yX0_has, Cond.instanceMethod yX0_has, Cond.selects RX0 yX0_has yX0_has, Cond.initialized RX0, Cond.code yX0_has cX0_has 2 (some .boolean)]
def wsX3_trace_r2 : List Cond := [Cond.fieldLink RX0 23 "PedalBoard$Pedals" "count" "I"]
def wsX3_trace : List Cond := .code yX3_trace cX3_trace 4 (some .long) :: ((wsX3_trace_r1 ++ wsX3_trace_r2) ++ wsX20 ++ wsX30 ++ wsX00 ++ (vx_atS RX3 65 "java/lang/IllegalStateException" ["java/lang/RuntimeException", "java/lang/Exception"]).filter goodWord ++ (vx_atS RX3 48 "java/lang/IllegalArgumentException" ["java/lang/RuntimeException", "java/lang/Exception"]).filter goodWord)
def wsX3_light : List Cond := .code yX3_light cX3_light 3 (some .boolean) :: ([.fieldLink RX3 11 "PedalBoard" "wires" "[LPedalBoard$Wire;", .methodLink RX3 125 yX3_isWire, .static yX3_isWire, .initialized RX3, .code yX3_isWire cX3_isWire 1 (some .boolean), .methodLink RX3 128 yX2_isLit, .instanceMethod yX2_isLit, .selects RX2 yX2_isLit yX2_isLit, .initialized RX2, .code yX2_isLit cX2_isLit 2 (some .boolean), .fieldLink RX2 45 "PedalBoard$Wire" "traced" "Z", .fieldLink RX2 18 "PedalBoard$Wire" "pedals" "LPedalBoard$Pedals;", .fieldLink RX2 30 "PedalBoard$Wire" "lights" "[Z", .methodLink RX2 85 yX0_has, .instanceMethod yX0_has, .selects RX0 yX0_has yX0_has, .initialized RX0, .code yX0_has cX0_has 2 (some .boolean), .fieldLink RX0 23 "PedalBoard$Pedals" "count" "I"] ++ wsX30 ++ wsX20 ++ wsX00)
def wsX3_against_r1 : List Cond := [Cond.fieldLink RX3 106 "PedalBoard$Wire" "wet" "J", Cond.fieldLink RX3 102 "PedalBoard$Wire" "dry" "J", Cond.fieldLink RX3 34 "PedalBoard$Wire" "sort" "LPedalBoard$Sort;", Cond.methodLink RX3 22 yX3_wireAt, Cond.instanceMethod yX3_wireAt, Cond.selects RX3 yX3_wireAt yX3_wireAt, Cond.initialized RX3, Cond.code yX3_wireAt cX3_wireAt 2 (some (.object "PedalBoard$Wire")), Cond.classLink RX3 44 "java/lang/IllegalArgumentException", Cond.initialized "java/lang/IllegalArgumentException", Cond.fieldLink RX3 11 "PedalBoard" "wires" "[LPedalBoard$Wire;", Cond.methodLink RX3 125 yX3_isWire, Cond.static yX3_isWire, Cond.code yX3_isWire cX3_isWire 1 (some .boolean), Cond.methodLink RX3 131 yX1_isZero, Cond.instanceMethod yX1_isZero, Cond.selects RX1 yX1_isZero yX1_isZero, Cond.initialized RX1, Cond.code yX1_isZero cX1_isZero 3 (some .boolean), Cond.fieldLink RX1 47 "PedalBoard$Sort" "sizeMask" "J", Cond.methodLink RX1 55 yX1_isWhole, Cond.instanceMethod yX1_isWhole, Cond.selects RX1 yX1_isWhole yX1_isWhole, Cond.code yX1_isWhole cX1_isWhole 1 (some .boolean)]
def wsX3_against_r2 : List Cond := [Cond.fieldLink RX1 41 "PedalBoard$Sort" "fraction" "I", Cond.methodLink RX3 134 yX1_isLess, Cond.instanceMethod yX1_isLess, Cond.selects RX1 yX1_isLess yX1_isLess, Cond.code yX1_isLess cX1_isLess 5 (some .boolean), Cond.methodLink RX1 63 yX1_rank, Cond.instanceMethod yX1_rank, Cond.selects RX1 yX1_rank yX1_rank, Cond.code yX1_rank cX1_rank 3 (some .long)]
def wsX3_against : List Cond := .code yX3_against cX3_against 3 (some .int) :: ((wsX3_against_r1 ++ wsX3_against_r2) ++ wsX20 ++ wsX30 ++ (vx_atS RX3 48 "java/lang/IllegalArgumentException" ["java/lang/RuntimeException", "java/lang/Exception"]).filter goodWord)
def wsX3_presetOf : List Cond := .code yX3_presetOf cX3_presetOf 2 (some (.object "PedalBoard$Pedals")) :: ([.classLink RX3 44 "java/lang/IllegalArgumentException", .initialized "java/lang/IllegalArgumentException", .fieldLink RX3 172 "PedalBoard$Wire" "presets" "[LPedalBoard$Pedals;"] ++ wsX20 ++ (vx_atS RX3 48 "java/lang/IllegalArgumentException" ["java/lang/RuntimeException", "java/lang/Exception"]).filter goodWord)
def wsX3_save_r1 : List Cond := [Cond.fieldLink RX3 51 "PedalBoard$Wire" "pedals" "LPedalBoard$Pedals;", Cond.fieldLink RX3 146 "PedalBoard$Pedals" "count" "I", Cond.methodLink RX3 22 yX3_wireAt, Cond.instanceMethod yX3_wireAt, Cond.selects RX3 yX3_wireAt yX3_wireAt, Cond.initialized RX3, Cond.code yX3_wireAt cX3_wireAt 2 (some (.object "PedalBoard$Wire")), Cond.classLink RX3 44 "java/lang/IllegalArgumentException", Cond.initialized "java/lang/IllegalArgumentException", Cond.fieldLink RX3 11 "PedalBoard" "wires" "[LPedalBoard$Wire;", Cond.methodLink RX3 125 yX3_isWire, Cond.static yX3_isWire, Cond.code yX3_isWire cX3_isWire 1 (some .boolean), Cond.methodLink RX3 138 yX3_presetOf, Cond.static yX3_presetOf, Cond.code yX3_presetOf cX3_presetOf 2 (some (.object "PedalBoard$Pedals")), Cond.fieldLink RX3 172 "PedalBoard$Wire" "presets" "[LPedalBoard$Pedals;", Cond.methodLink RX3 142 yX0_become, Cond.instanceMethod yX0_become, Cond.selects RX0 yX0_become yX0_become, Cond.initialized RX0, Cond.code yX0_become cX0_become 3 none, Cond.fieldLink RX0 23 "PedalBoard$Pedals" "count" "I", Cond.fieldLink RX0 9 "PedalBoard$Pedals" "kinds" "[I"]
def wsX3_save_r2 : List Cond := [Cond.fieldLink RX0 15 "PedalBoard$Pedals" "knobs" "[J", Cond.fieldLink RX0 19 "PedalBoard$Pedals" "on" "[Z"]
def wsX3_save : List Cond := .code yX3_save cX3_save 5 (some .int) :: ((wsX3_save_r1 ++ wsX3_save_r2) ++ wsX20 ++ wsX00 ++ wsX30 ++ (vx_atS RX3 48 "java/lang/IllegalArgumentException" ["java/lang/RuntimeException", "java/lang/Exception"]).filter goodWord)
def wsX3_recall_r1 : List Cond := [Cond.fieldLink RX3 51 "PedalBoard$Wire" "pedals" "LPedalBoard$Pedals;", Cond.fieldLink RX3 66 "PedalBoard$Wire" "traced" "Z", Cond.fieldLink RX3 146 "PedalBoard$Pedals" "count" "I", Cond.methodLink RX3 22 yX3_wireAt, Cond.instanceMethod yX3_wireAt, Cond.selects RX3 yX3_wireAt yX3_wireAt, Cond.initialized RX3, Cond.code yX3_wireAt cX3_wireAt 2 (some (.object "PedalBoard$Wire")), Cond.classLink RX3 44 "java/lang/IllegalArgumentException", Cond.initialized "java/lang/IllegalArgumentException", Cond.fieldLink RX3 11 "PedalBoard" "wires" "[LPedalBoard$Wire;", Cond.methodLink RX3 125 yX3_isWire, Cond.static yX3_isWire, Cond.code yX3_isWire cX3_isWire 1 (some .boolean), Cond.methodLink RX3 138 yX3_presetOf, Cond.static yX3_presetOf, Cond.code yX3_presetOf cX3_presetOf 2 (some (.object "PedalBoard$Pedals")), Cond.fieldLink RX3 172 "PedalBoard$Wire" "presets" "[LPedalBoard$Pedals;", Cond.methodLink RX3 142 yX0_become, Cond.instanceMethod yX0_become, Cond.selects RX0 yX0_become yX0_become, Cond.initialized RX0, Cond.code yX0_become cX0_become 3 none, Cond.fieldLink RX0 23 "PedalBoard$Pedals" "count" "I"]
def wsX3_recall_r2 : List Cond := [Cond.fieldLink RX0 9 "PedalBoard$Pedals" "kinds" "[I", Cond.fieldLink RX0 15 "PedalBoard$Pedals" "knobs" "[J", Cond.fieldLink RX0 19 "PedalBoard$Pedals" "on" "[Z"]
def wsX3_recall : List Cond := .code yX3_recall cX3_recall 5 (some .int) :: ((wsX3_recall_r1 ++ wsX3_recall_r2) ++ wsX20 ++ wsX00 ++ wsX30 ++ (vx_atS RX3 48 "java/lang/IllegalArgumentException" ["java/lang/RuntimeException", "java/lang/Exception"]).filter goodWord)
def wsX3_patch_r1 : List Cond := [Cond.fieldLink RX3 34 "PedalBoard$Wire" "sort" "LPedalBoard$Sort;", Cond.fieldLink RX3 106 "PedalBoard$Wire" "wet" "J", Cond.methodLink RX3 22 yX3_wireAt, Cond.instanceMethod yX3_wireAt, Cond.selects RX3 yX3_wireAt yX3_wireAt, Cond.initialized RX3, Cond.code yX3_wireAt cX3_wireAt 2 (some (.object "PedalBoard$Wire")), Cond.classLink RX3 44 "java/lang/IllegalArgumentException", Cond.initialized "java/lang/IllegalArgumentException", Cond.fieldLink RX3 11 "PedalBoard" "wires" "[LPedalBoard$Wire;", Cond.methodLink RX3 125 yX3_isWire, Cond.static yX3_isWire, Cond.code yX3_isWire cX3_isWire 1 (some .boolean), Cond.methodLink RX3 150 yX1_castTo, Cond.instanceMethod yX1_castTo, Cond.selects RX1 yX1_castTo yX1_castTo, Cond.initialized RX1, Cond.code yX1_castTo cX1_castTo 4 (some .long), Cond.methodLink RX1 55 yX1_isWhole, Cond.instanceMethod yX1_isWhole, Cond.selects RX1 yX1_isWhole yX1_isWhole, Cond.code yX1_isWhole cX1_isWhole 1 (some .boolean), Cond.fieldLink RX1 41 "PedalBoard$Sort" "fraction" "I", Cond.methodLink RX1 89 yX1_fitted]
def wsX3_patch_r2 : List Cond := [Cond.instanceMethod yX1_fitted, Cond.selects RX1 yX1_fitted yX1_fitted, Cond.code yX1_fitted cX1_fitted 3 (some .long), Cond.fieldLink RX1 37 "PedalBoard$Sort" "bits" "I", Cond.methodLink RX1 105 yX1_roundedWhole, Cond.instanceMethod yX1_roundedWhole, Cond.selects RX1 yX1_roundedWhole yX1_roundedWhole, Cond.code yX1_roundedWhole cX1_roundedWhole 3 (some .long), Cond.methodLink RX1 115 yX1_rounded, Cond.instanceMethod yX1_rounded, Cond.selects RX1 yX1_rounded yX1_rounded, Cond.code yX1_rounded cX1_rounded 15 (some .long), Cond.fieldLink RX1 44 "PedalBoard$Sort" "bias" "I", Cond.methodLink RX1 119 Lib.Math.max.name, Cond.static Lib.Math.max.name, Cond.initialized "java/lang/Math", Cond.code Lib.Math.max.name Lib.Math.max.code 2 (some .int), Cond.constantLong RX1 130 (-9223372036854775808), Cond.methodLink RX1 132 Lib.MathLoose.min_long.x, Cond.static Lib.MathLoose.min_long.x, Cond.code Lib.MathLoose.min_long.x Lib.MathLoose.min_long.code 4 (some .long), Cond.methodLink RX1 125 yX1_isOverHalf, Cond.static yX1_isOverHalf, Cond.code yX1_isOverHalf cX1_isOverHalf 2 (some .boolean)]
def wsX3_patch_r3 : List Cond := [Cond.methodLink RX1 59 yX1_infinite, Cond.instanceMethod yX1_infinite, Cond.selects RX1 yX1_infinite yX1_infinite, Cond.code yX1_infinite cX1_infinite 1 (some .long), Cond.constantLong RX1 51 (2), Cond.methodLink RX1 78 yX1_withSignOf, Cond.instanceMethod yX1_withSignOf, Cond.selects RX1 yX1_withSignOf yX1_withSignOf, Cond.code yX1_withSignOf cX1_withSignOf 5 (some .long), Cond.fieldLink RX1 47 "PedalBoard$Sort" "sizeMask" "J", Cond.constantLong RX1 92 (-1), Cond.methodLink RX1 108 yX1_cutTo, Cond.instanceMethod yX1_cutTo, Cond.selects RX1 yX1_cutTo yX1_cutTo, Cond.code yX1_cutTo cX1_cutTo 14 (some .long), Cond.methodLink RX1 112 yX1_refit, Cond.instanceMethod yX1_refit, Cond.selects RX1 yX1_refit yX1_refit, Cond.code yX1_refit cX1_refit 12 (some .long), Cond.methodLink RX3 30 yX2_takeDry, Cond.instanceMethod yX2_takeDry, Cond.selects RX2 yX2_takeDry yX2_takeDry, Cond.initialized RX2, Cond.code yX2_takeDry cX2_takeDry 4 (some .boolean)]
def wsX3_patch_r4 : List Cond := [Cond.fieldLink RX2 34 "PedalBoard$Wire" "dry" "J", Cond.fieldLink RX2 38 "PedalBoard$Wire" "wet" "J", Cond.fieldLink RX2 41 "PedalBoard$Wire" "rounds" "I", Cond.fieldLink RX2 45 "PedalBoard$Wire" "traced" "Z"]
def wsX3_patch : List Cond := .code yX3_patch cX3_patch 7 (some .long) :: ((wsX3_patch_r1 ++ (wsX3_patch_r2 ++ (wsX3_patch_r3 ++ wsX3_patch_r4))) ++ wsX20 ++ wsX30 ++ (vx_atS RX3 48 "java/lang/IllegalArgumentException" ["java/lang/RuntimeException", "java/lang/Exception"]).filter goodWord)
def wsX3_about_r1 : List Cond := [Cond.fieldLink RX3 11 "PedalBoard" "wires" "[LPedalBoard$Wire;", Cond.fieldLink RX3 51 "PedalBoard$Wire" "pedals" "LPedalBoard$Pedals;", Cond.fieldLink RX3 146 "PedalBoard$Pedals" "count" "I", Cond.fieldLink RX3 160 "PedalBoard$Wire" "rounds" "I", Cond.methodLink RX3 125 yX3_isWire, Cond.static yX3_isWire, Cond.initialized RX3, Cond.code yX3_isWire cX3_isWire 1 (some .boolean), Cond.methodLink RX3 154 yX0_countOn, Cond.instanceMethod yX0_countOn, Cond.selects RX0 yX0_countOn yX0_countOn, Cond.initialized RX0, Cond.code yX0_countOn cX0_countOn 3 (some .int), Cond.fieldLink RX0 23 "PedalBoard$Pedals" "count" "I", Cond.fieldLink RX0 19 "PedalBoard$Pedals" "on" "[Z", Cond.methodLink RX3 157 yX2_countLit, Cond.instanceMethod yX2_countLit, Cond.selects RX2 yX2_countLit yX2_countLit, Cond.initialized RX2, Cond.code yX2_countLit cX2_countLit 3 (some .int), Cond.fieldLink RX2 18 "PedalBoard$Wire" "pedals" "LPedalBoard$Pedals;", Cond.fieldLink RX2 49 "PedalBoard$Pedals" "count" "I", Cond.methodLink RX2 89 yX2_isLit, Cond.instanceMethod yX2_isLit]
def wsX3_about_r2 : List Cond := [Cond.selects RX2 yX2_isLit yX2_isLit, Cond.code yX2_isLit cX2_isLit 2 (some .boolean), Cond.fieldLink RX2 45 "PedalBoard$Wire" "traced" "Z", Cond.fieldLink RX2 30 "PedalBoard$Wire" "lights" "[Z", Cond.methodLink RX2 85 yX0_has, Cond.instanceMethod yX0_has, Cond.selects RX0 yX0_has yX0_has, Cond.code yX0_has cX0_has 2 (some .boolean)]
def wsX3_about : List Cond := .code yX3_about cX3_about 4 (some .int) :: ((wsX3_about_r1 ++ wsX3_about_r2) ++ wsX30 ++ wsX20 ++ wsX00)
def wsX4_init : List Cond := .code yX4_init cX4_init 1 none :: ([.methodLink RX4 1 objectInit, .instanceMethod objectInit, .code objectInit ⟨#[0xb1]⟩ 1 none, .arrayClass .long, .fieldLink RX4 7 "PedalBoardModel" "dry" "[J", .fieldLink RX4 13 "PedalBoardModel" "wet" "[J", .fieldLink RX4 16 "PedalBoardModel" "most" "[J", .fieldLink RX4 19 "PedalBoardModel" "least" "[J", .arrayClass .int, .fieldLink RX4 22 "PedalBoardModel" "played" "[I", .fieldLink RX4 26 "PedalBoardModel" "many" "[I", .arrayClass .boolean, .fieldLink RX4 29 "PedalBoardModel" "traced" "[Z", .fieldLink RX4 33 "PedalBoardModel" "peaked" "[Z", .fieldLink RX4 36 "PedalBoardModel" "sort" "[I", .fieldLink RX4 39 "PedalBoardModel" "knob" "[J", .fieldLink RX4 42 "PedalBoardModel" "out" "[J", .fieldLink RX4 45 "PedalBoardModel" "on" "[Z", .fieldLink RX4 48 "PedalBoardModel" "lit" "[Z", .fieldLink RX4 51 "PedalBoardModel" "keptMany" "[I", .fieldLink RX4 54 "PedalBoardModel" "keptKind" "[I", .fieldLink RX4 57 "PedalBoardModel" "keptKnob" "[J", .fieldLink RX4 60 "PedalBoardModel" "keptOn" "[Z"] ++ wsX40)
def wsX4_thrown : List Cond := .code yX4_thrown cX4_thrown 1 (some .int) :: ([.fieldLink RX4 63 "PedalBoardModel" "code" "I"] ++ wsX40)
def wsX4_isWire : List Cond := .code yX4_isWire cX4_isWire 1 (some .boolean) :: ([])
def wsX4_fractionBits : List Cond := .code yX4_fractionBits cX4_fractionBits 1 (some .int) :: ([])
def wsX4_signBit : List Cond := .code yX4_signBit cX4_signBit 1 (some .long) :: ([.constantLong RX4 67 (2147483648), .constantLong RX4 69 (-9223372036854775808)])
def wsX4_endless : List Cond := .code yX4_endless cX4_endless 1 (some .long) :: ([.constantLong RX4 71 (2139095040), .constantLong RX4 73 (9218868437227405312)])
def wsX4_bare : List Cond := .code yX4_bare cX4_bare 3 (some .long) :: ([.constantLong RX4 75 (4294967295)])
def wsX4_asCode : List Cond := .code yX4_asCode cX4_asCode 3 (some .long) :: ([])
def wsX4_size : List Cond := .code yX4_size cX4_size 3 (some .long) :: ([.constantLong RX4 85 (-1), .methodLink RX4 77 yX4_bare, .static yX4_bare, .initialized RX4, .code yX4_bare cX4_bare 3 (some .long), .constantLong RX4 75 (4294967295), .methodLink RX4 81 yX4_signBit, .static yX4_signBit, .code yX4_signBit cX4_signBit 1 (some .long), .constantLong RX4 67 (2147483648), .constantLong RX4 69 (-9223372036854775808)])
def wsX4_below : List Cond := .code yX4_below cX4_below 3 (some .boolean) :: ([.methodLink RX4 81 yX4_signBit, .static yX4_signBit, .initialized RX4, .code yX4_signBit cX4_signBit 1 (some .long), .constantLong RX4 67 (2147483648), .constantLong RX4 69 (-9223372036854775808)])
def wsX4_coded : List Cond := .code yX4_coded cX4_coded 3 (some .long) :: ([.constantLong RX4 75 (4294967295)])
def wsX4_isIll : List Cond := .code yX4_isIll cX4_isIll 3 (some .boolean) :: ([.methodLink RX4 87 yX4_size, .static yX4_size, .initialized RX4, .code yX4_size cX4_size 3 (some .long), .constantLong RX4 85 (-1), .methodLink RX4 77 yX4_bare, .static yX4_bare, .code yX4_bare cX4_bare 3 (some .long), .constantLong RX4 75 (4294967295), .methodLink RX4 81 yX4_signBit, .static yX4_signBit, .code yX4_signBit cX4_signBit 1 (some .long), .constantLong RX4 67 (2147483648), .constantLong RX4 69 (-9223372036854775808), .methodLink RX4 90 yX4_endless, .static yX4_endless, .code yX4_endless cX4_endless 1 (some .long), .constantLong RX4 71 (2139095040), .constantLong RX4 73 (9218868437227405312)])
def wsX4_order : List Cond := .code yX4_order cX4_order 11 (some .int) :: ([.methodLink RX4 93 yX4_below, .static yX4_below, .initialized RX4, .code yX4_below cX4_below 3 (some .boolean), .methodLink RX4 81 yX4_signBit, .static yX4_signBit, .code yX4_signBit cX4_signBit 1 (some .long), .constantLong RX4 67 (2147483648), .constantLong RX4 69 (-9223372036854775808), .methodLink RX4 87 yX4_size, .static yX4_size, .code yX4_size cX4_size 3 (some .long), .constantLong RX4 85 (-1), .methodLink RX4 77 yX4_bare, .static yX4_bare, .code yX4_bare cX4_bare 3 (some .long), .constantLong RX4 75 (4294967295)])
def wsX4_negative : List Cond := .code yX4_negative cX4_negative 3 (some .long) :: ([.methodLink RX4 77 yX4_bare, .static yX4_bare, .initialized RX4, .code yX4_bare cX4_bare 3 (some .long), .constantLong RX4 75 (4294967295), .methodLink RX4 81 yX4_signBit, .static yX4_signBit, .code yX4_signBit cX4_signBit 1 (some .long), .constantLong RX4 67 (2147483648), .constantLong RX4 69 (-9223372036854775808), .methodLink RX4 97 yX4_asCode, .static yX4_asCode, .code yX4_asCode cX4_asCode 3 (some .long)])
def wsX4_upright : List Cond := .code yX4_upright cX4_upright 3 (some .long) :: ([.methodLink RX4 100 yX4_negative, .static yX4_negative, .initialized RX4, .code yX4_negative cX4_negative 3 (some .long), .methodLink RX4 77 yX4_bare, .static yX4_bare, .code yX4_bare cX4_bare 3 (some .long), .constantLong RX4 75 (4294967295), .methodLink RX4 81 yX4_signBit, .static yX4_signBit, .code yX4_signBit cX4_signBit 1 (some .long), .constantLong RX4 67 (2147483648), .constantLong RX4 69 (-9223372036854775808), .methodLink RX4 97 yX4_asCode, .static yX4_asCode, .code yX4_asCode cX4_asCode 3 (some .long), .methodLink RX4 87 yX4_size, .static yX4_size, .code yX4_size cX4_size 3 (some .long), .constantLong RX4 85 (-1)])
def wsX4_whole_r1 : List Cond := [Cond.constantLong RX4 107 (1065353216), Cond.constantLong RX4 109 (4607182418800017408), Cond.constantLong RX4 111 (2), Cond.methodLink RX4 87 yX4_size, Cond.static yX4_size, Cond.initialized RX4, Cond.code yX4_size cX4_size 3 (some .long), Cond.constantLong RX4 85 (-1), Cond.methodLink RX4 77 yX4_bare, Cond.static yX4_bare, Cond.code yX4_bare cX4_bare 3 (some .long), Cond.constantLong RX4 75 (4294967295), Cond.methodLink RX4 81 yX4_signBit, Cond.static yX4_signBit, Cond.code yX4_signBit cX4_signBit 1 (some .long), Cond.constantLong RX4 67 (2147483648), Cond.constantLong RX4 69 (-9223372036854775808), Cond.methodLink RX4 103 yX4_fractionBits, Cond.static yX4_fractionBits, Cond.code yX4_fractionBits cX4_fractionBits 1 (some .int), Cond.methodLink RX4 93 yX4_below, Cond.static yX4_below, Cond.code yX4_below cX4_below 3 (some .boolean), Cond.methodLink RX4 97 yX4_asCode]
def wsX4_whole_r2 : List Cond := [Cond.static yX4_asCode, Cond.code yX4_asCode cX4_asCode 3 (some .long)]
def wsX4_whole : List Cond := .code yX4_whole cX4_whole 19 (some .long) :: ((wsX4_whole_r1 ++ wsX4_whole_r2))
def wsX4_signOf : List Cond := .code yX4_signOf cX4_signOf 5 (some .long) :: ([.constantLong RX4 107 (1065353216), .constantLong RX4 109 (4607182418800017408), .methodLink RX4 87 yX4_size, .static yX4_size, .initialized RX4, .code yX4_size cX4_size 3 (some .long), .constantLong RX4 85 (-1), .methodLink RX4 77 yX4_bare, .static yX4_bare, .code yX4_bare cX4_bare 3 (some .long), .constantLong RX4 75 (4294967295), .methodLink RX4 81 yX4_signBit, .static yX4_signBit, .code yX4_signBit cX4_signBit 1 (some .long), .constantLong RX4 67 (2147483648), .constantLong RX4 69 (-9223372036854775808), .methodLink RX4 93 yX4_below, .static yX4_below, .code yX4_below cX4_below 3 (some .boolean), .methodLink RX4 97 yX4_asCode, .static yX4_asCode, .code yX4_asCode cX4_asCode 3 (some .long)])
def wsX4_works_r1 : List Cond := [Cond.methodLink RX4 113 yX4_upright, Cond.static yX4_upright, Cond.initialized RX4, Cond.code yX4_upright cX4_upright 3 (some .long), Cond.methodLink RX4 100 yX4_negative, Cond.static yX4_negative, Cond.code yX4_negative cX4_negative 3 (some .long), Cond.methodLink RX4 77 yX4_bare, Cond.static yX4_bare, Cond.code yX4_bare cX4_bare 3 (some .long), Cond.constantLong RX4 75 (4294967295), Cond.methodLink RX4 81 yX4_signBit, Cond.static yX4_signBit, Cond.code yX4_signBit cX4_signBit 1 (some .long), Cond.constantLong RX4 67 (2147483648), Cond.constantLong RX4 69 (-9223372036854775808), Cond.methodLink RX4 97 yX4_asCode, Cond.static yX4_asCode, Cond.code yX4_asCode cX4_asCode 3 (some .long), Cond.methodLink RX4 87 yX4_size, Cond.static yX4_size, Cond.code yX4_size cX4_size 3 (some .long), Cond.constantLong RX4 85 (-1), Cond.methodLink RX4 116 yX4_order]
def wsX4_works_r2 : List Cond := [Cond.static yX4_order, Cond.code yX4_order cX4_order 11 (some .int), Cond.methodLink RX4 93 yX4_below, Cond.static yX4_below, Cond.code yX4_below cX4_below 3 (some .boolean), Cond.methodLink RX4 120 yX4_whole, Cond.static yX4_whole, Cond.code yX4_whole cX4_whole 19 (some .long), Cond.constantLong RX4 107 (1065353216), Cond.constantLong RX4 109 (4607182418800017408), Cond.constantLong RX4 111 (2), Cond.methodLink RX4 103 yX4_fractionBits, Cond.static yX4_fractionBits, Cond.code yX4_fractionBits cX4_fractionBits 1 (some .int), Cond.methodLink RX4 124 yX4_signOf, Cond.static yX4_signOf, Cond.code yX4_signOf cX4_signOf 5 (some .long)]
def wsX4_works : List Cond := .code yX4_works cX4_works 6 (some .long) :: ((wsX4_works_r1 ++ wsX4_works_r2))
def wsX4_bitsOf : List Cond := .code yX4_bitsOf cX4_bitsOf 4 (some .int) :: ([])
def wsX4_near : List Cond := .code yX4_near cX4_near 17 (some .long) :: ([.methodLink RX4 81 yX4_signBit, .static yX4_signBit, .initialized RX4, .code yX4_signBit cX4_signBit 1 (some .long), .constantLong RX4 67 (2147483648), .constantLong RX4 69 (-9223372036854775808), .methodLink RX4 97 yX4_asCode, .static yX4_asCode, .code yX4_asCode cX4_asCode 3 (some .long), .methodLink RX4 103 yX4_fractionBits, .static yX4_fractionBits, .code yX4_fractionBits cX4_fractionBits 1 (some .int), .methodLink RX4 127 yX4_bitsOf, .static yX4_bitsOf, .code yX4_bitsOf cX4_bitsOf 4 (some .int), .methodLink RX4 90 yX4_endless, .static yX4_endless, .code yX4_endless cX4_endless 1 (some .long), .constantLong RX4 71 (2139095040), .constantLong RX4 73 (9218868437227405312)])
def wsX4_held : List Cond := .code yX4_held cX4_held 10 (some .long) :: ([.constantLong RX4 131 (2147483647), .constantLong RX4 133 (9223372036854775807), .methodLink RX4 127 yX4_bitsOf, .static yX4_bitsOf, .initialized RX4, .code yX4_bitsOf cX4_bitsOf 4 (some .int)])
def wsX4_castTo_r1 : List Cond := [Cond.methodLink RX4 135 yX4_near, Cond.static yX4_near, Cond.initialized RX4, Cond.code yX4_near cX4_near 17 (some .long), Cond.methodLink RX4 81 yX4_signBit, Cond.static yX4_signBit, Cond.code yX4_signBit cX4_signBit 1 (some .long), Cond.constantLong RX4 67 (2147483648), Cond.constantLong RX4 69 (-9223372036854775808), Cond.methodLink RX4 97 yX4_asCode, Cond.static yX4_asCode, Cond.code yX4_asCode cX4_asCode 3 (some .long), Cond.methodLink RX4 103 yX4_fractionBits, Cond.static yX4_fractionBits, Cond.code yX4_fractionBits cX4_fractionBits 1 (some .int), Cond.methodLink RX4 127 yX4_bitsOf, Cond.static yX4_bitsOf, Cond.code yX4_bitsOf cX4_bitsOf 4 (some .int), Cond.methodLink RX4 90 yX4_endless, Cond.static yX4_endless, Cond.code yX4_endless cX4_endless 1 (some .long), Cond.constantLong RX4 71 (2139095040), Cond.constantLong RX4 73 (9218868437227405312), Cond.methodLink RX4 87 yX4_size]
def wsX4_castTo_r2 : List Cond := [Cond.static yX4_size, Cond.code yX4_size cX4_size 3 (some .long), Cond.constantLong RX4 85 (-1), Cond.methodLink RX4 77 yX4_bare, Cond.static yX4_bare, Cond.code yX4_bare cX4_bare 3 (some .long), Cond.constantLong RX4 75 (4294967295), Cond.methodLink RX4 93 yX4_below, Cond.static yX4_below, Cond.code yX4_below cX4_below 3 (some .boolean), Cond.methodLink RX4 139 yX4_held, Cond.static yX4_held, Cond.code yX4_held cX4_held 10 (some .long), Cond.constantLong RX4 131 (2147483647), Cond.constantLong RX4 133 (9223372036854775807)]
def wsX4_castTo : List Cond := .code yX4_castTo cX4_castTo 13 (some .long) :: ((wsX4_castTo_r1 ++ wsX4_castTo_r2))
def wsX4_refuses : List Cond := .code yX4_refuses cX4_refuses 3 (some .boolean) :: ([.fieldLink RX4 63 "PedalBoardModel" "code" "I"] ++ wsX40)
def wsX4_isPedal : List Cond := .code yX4_isPedal cX4_isPedal 3 (some .boolean) :: ([.fieldLink RX4 26 "PedalBoardModel" "many" "[I", .methodLink RX4 142 yX4_isWire, .static yX4_isWire, .initialized RX4, .code yX4_isWire cX4_isWire 1 (some .boolean)] ++ wsX40)
def wsX4_come : List Cond := .code yX4_come cX4_come 5 (some .boolean) :: ([.fieldLink RX4 7 "PedalBoardModel" "dry" "[J", .fieldLink RX4 13 "PedalBoardModel" "wet" "[J", .fieldLink RX4 22 "PedalBoardModel" "played" "[I", .fieldLink RX4 33 "PedalBoardModel" "peaked" "[Z", .fieldLink RX4 29 "PedalBoardModel" "traced" "[Z"] ++ wsX40)
def wsX4_put_r1 : List Cond := [Cond.methodLink RX4 142 yX4_isWire, Cond.static yX4_isWire, Cond.initialized RX4, Cond.code yX4_isWire cX4_isWire 1 (some .boolean), Cond.methodLink RX4 146 yX4_coded, Cond.static yX4_coded, Cond.code yX4_coded cX4_coded 3 (some .long), Cond.constantLong RX4 75 (4294967295), Cond.methodLink RX4 150 yX4_isIll, Cond.static yX4_isIll, Cond.code yX4_isIll cX4_isIll 3 (some .boolean), Cond.methodLink RX4 87 yX4_size, Cond.static yX4_size, Cond.code yX4_size cX4_size 3 (some .long), Cond.constantLong RX4 85 (-1), Cond.methodLink RX4 77 yX4_bare, Cond.static yX4_bare, Cond.code yX4_bare cX4_bare 3 (some .long), Cond.methodLink RX4 81 yX4_signBit, Cond.static yX4_signBit, Cond.code yX4_signBit cX4_signBit 1 (some .long), Cond.constantLong RX4 67 (2147483648), Cond.constantLong RX4 69 (-9223372036854775808), Cond.methodLink RX4 90 yX4_endless]
def wsX4_put_r2 : List Cond := [Cond.static yX4_endless, Cond.code yX4_endless cX4_endless 1 (some .long), Cond.constantLong RX4 71 (2139095040), Cond.constantLong RX4 73 (9218868437227405312), Cond.methodLink RX4 153 yX4_refuses, Cond.instanceMethod yX4_refuses, Cond.selects RX4 yX4_refuses yX4_refuses, Cond.code yX4_refuses cX4_refuses 3 (some .boolean), Cond.fieldLink RX4 63 "PedalBoardModel" "code" "I", Cond.methodLink RX4 157 yX4_come, Cond.instanceMethod yX4_come, Cond.selects RX4 yX4_come yX4_come, Cond.code yX4_come cX4_come 5 (some .boolean), Cond.fieldLink RX4 7 "PedalBoardModel" "dry" "[J", Cond.fieldLink RX4 13 "PedalBoardModel" "wet" "[J", Cond.fieldLink RX4 22 "PedalBoardModel" "played" "[I", Cond.fieldLink RX4 33 "PedalBoardModel" "peaked" "[Z", Cond.fieldLink RX4 29 "PedalBoardModel" "traced" "[Z"]
def wsX4_put : List Cond := .code yX4_put cX4_put 4 (some .boolean) :: ((wsX4_put_r1 ++ wsX4_put_r2) ++ wsX40)
def wsX4_patch_r1 : List Cond := [Cond.fieldLink RX4 13 "PedalBoardModel" "wet" "[J", Cond.methodLink RX4 142 yX4_isWire, Cond.static yX4_isWire, Cond.initialized RX4, Cond.code yX4_isWire cX4_isWire 1 (some .boolean), Cond.methodLink RX4 153 yX4_refuses, Cond.instanceMethod yX4_refuses, Cond.selects RX4 yX4_refuses yX4_refuses, Cond.code yX4_refuses cX4_refuses 3 (some .boolean), Cond.fieldLink RX4 63 "PedalBoardModel" "code" "I", Cond.methodLink RX4 160 yX4_castTo, Cond.static yX4_castTo, Cond.code yX4_castTo cX4_castTo 13 (some .long), Cond.methodLink RX4 135 yX4_near, Cond.static yX4_near, Cond.code yX4_near cX4_near 17 (some .long), Cond.methodLink RX4 81 yX4_signBit, Cond.static yX4_signBit, Cond.code yX4_signBit cX4_signBit 1 (some .long), Cond.constantLong RX4 67 (2147483648), Cond.constantLong RX4 69 (-9223372036854775808), Cond.methodLink RX4 97 yX4_asCode, Cond.static yX4_asCode, Cond.code yX4_asCode cX4_asCode 3 (some .long)]
def wsX4_patch_r2 : List Cond := [Cond.methodLink RX4 103 yX4_fractionBits, Cond.static yX4_fractionBits, Cond.code yX4_fractionBits cX4_fractionBits 1 (some .int), Cond.methodLink RX4 127 yX4_bitsOf, Cond.static yX4_bitsOf, Cond.code yX4_bitsOf cX4_bitsOf 4 (some .int), Cond.methodLink RX4 90 yX4_endless, Cond.static yX4_endless, Cond.code yX4_endless cX4_endless 1 (some .long), Cond.constantLong RX4 71 (2139095040), Cond.constantLong RX4 73 (9218868437227405312), Cond.methodLink RX4 87 yX4_size, Cond.static yX4_size, Cond.code yX4_size cX4_size 3 (some .long), Cond.constantLong RX4 85 (-1), Cond.methodLink RX4 77 yX4_bare, Cond.static yX4_bare, Cond.code yX4_bare cX4_bare 3 (some .long), Cond.constantLong RX4 75 (4294967295), Cond.methodLink RX4 93 yX4_below, Cond.static yX4_below, Cond.code yX4_below cX4_below 3 (some .boolean), Cond.methodLink RX4 139 yX4_held, Cond.static yX4_held]
def wsX4_patch_r3 : List Cond := [Cond.code yX4_held cX4_held 10 (some .long), Cond.constantLong RX4 131 (2147483647), Cond.constantLong RX4 133 (9223372036854775807), Cond.methodLink RX4 157 yX4_come, Cond.instanceMethod yX4_come, Cond.selects RX4 yX4_come yX4_come, Cond.code yX4_come cX4_come 5 (some .boolean), Cond.fieldLink RX4 7 "PedalBoardModel" "dry" "[J", Cond.fieldLink RX4 22 "PedalBoardModel" "played" "[I", Cond.fieldLink RX4 33 "PedalBoardModel" "peaked" "[Z", Cond.fieldLink RX4 29 "PedalBoardModel" "traced" "[Z"]
def wsX4_patch : List Cond := .code yX4_patch cX4_patch 6 (some .long) :: ((wsX4_patch_r1 ++ (wsX4_patch_r2 ++ wsX4_patch_r3)) ++ wsX40)
def wsX4_isKind : List Cond := .code yX4_isKind cX4_isKind 2 (some .boolean) :: ([])
def wsX4_pedal_r1 : List Cond := [Cond.fieldLink RX4 26 "PedalBoardModel" "many" "[I", Cond.fieldLink RX4 36 "PedalBoardModel" "sort" "[I", Cond.fieldLink RX4 39 "PedalBoardModel" "knob" "[J", Cond.fieldLink RX4 45 "PedalBoardModel" "on" "[Z", Cond.fieldLink RX4 29 "PedalBoardModel" "traced" "[Z", Cond.methodLink RX4 142 yX4_isWire, Cond.static yX4_isWire, Cond.initialized RX4, Cond.code yX4_isWire cX4_isWire 1 (some .boolean), Cond.methodLink RX4 164 yX4_isKind, Cond.static yX4_isKind, Cond.code yX4_isKind cX4_isKind 2 (some .boolean), Cond.methodLink RX4 146 yX4_coded, Cond.static yX4_coded, Cond.code yX4_coded cX4_coded 3 (some .long), Cond.constantLong RX4 75 (4294967295), Cond.methodLink RX4 150 yX4_isIll, Cond.static yX4_isIll, Cond.code yX4_isIll cX4_isIll 3 (some .boolean), Cond.methodLink RX4 87 yX4_size, Cond.static yX4_size, Cond.code yX4_size cX4_size 3 (some .long), Cond.constantLong RX4 85 (-1), Cond.methodLink RX4 77 yX4_bare]
def wsX4_pedal_r2 : List Cond := [Cond.static yX4_bare, Cond.code yX4_bare cX4_bare 3 (some .long), Cond.methodLink RX4 81 yX4_signBit, Cond.static yX4_signBit, Cond.code yX4_signBit cX4_signBit 1 (some .long), Cond.constantLong RX4 67 (2147483648), Cond.constantLong RX4 69 (-9223372036854775808), Cond.methodLink RX4 90 yX4_endless, Cond.static yX4_endless, Cond.code yX4_endless cX4_endless 1 (some .long), Cond.constantLong RX4 71 (2139095040), Cond.constantLong RX4 73 (9218868437227405312), Cond.methodLink RX4 153 yX4_refuses, Cond.instanceMethod yX4_refuses, Cond.selects RX4 yX4_refuses yX4_refuses, Cond.code yX4_refuses cX4_refuses 3 (some .boolean), Cond.fieldLink RX4 63 "PedalBoardModel" "code" "I"]
def wsX4_pedal : List Cond := .code yX4_pedal cX4_pedal 7 (some .int) :: ((wsX4_pedal_r1 ++ wsX4_pedal_r2) ++ wsX40)
def wsX4_turn_r1 : List Cond := [Cond.fieldLink RX4 39 "PedalBoardModel" "knob" "[J", Cond.methodLink RX4 168 yX4_isPedal, Cond.instanceMethod yX4_isPedal, Cond.selects RX4 yX4_isPedal yX4_isPedal, Cond.initialized RX4, Cond.code yX4_isPedal cX4_isPedal 3 (some .boolean), Cond.fieldLink RX4 26 "PedalBoardModel" "many" "[I", Cond.methodLink RX4 142 yX4_isWire, Cond.static yX4_isWire, Cond.code yX4_isWire cX4_isWire 1 (some .boolean), Cond.methodLink RX4 146 yX4_coded, Cond.static yX4_coded, Cond.code yX4_coded cX4_coded 3 (some .long), Cond.constantLong RX4 75 (4294967295), Cond.methodLink RX4 150 yX4_isIll, Cond.static yX4_isIll, Cond.code yX4_isIll cX4_isIll 3 (some .boolean), Cond.methodLink RX4 87 yX4_size, Cond.static yX4_size, Cond.code yX4_size cX4_size 3 (some .long), Cond.constantLong RX4 85 (-1), Cond.methodLink RX4 77 yX4_bare, Cond.static yX4_bare, Cond.code yX4_bare cX4_bare 3 (some .long)]
def wsX4_turn_r2 : List Cond := [Cond.methodLink RX4 81 yX4_signBit, Cond.static yX4_signBit, Cond.code yX4_signBit cX4_signBit 1 (some .long), Cond.constantLong RX4 67 (2147483648), Cond.constantLong RX4 69 (-9223372036854775808), Cond.methodLink RX4 90 yX4_endless, Cond.static yX4_endless, Cond.code yX4_endless cX4_endless 1 (some .long), Cond.constantLong RX4 71 (2139095040), Cond.constantLong RX4 73 (9218868437227405312), Cond.methodLink RX4 153 yX4_refuses, Cond.instanceMethod yX4_refuses, Cond.selects RX4 yX4_refuses yX4_refuses, Cond.code yX4_refuses cX4_refuses 3 (some .boolean), Cond.fieldLink RX4 63 "PedalBoardModel" "code" "I"]
def wsX4_turn : List Cond := .code yX4_turn cX4_turn 7 (some .boolean) :: ((wsX4_turn_r1 ++ wsX4_turn_r2) ++ wsX40)
def wsX4_tap : List Cond := .code yX4_tap cX4_tap 3 (some .boolean) :: ([.fieldLink RX4 45 "PedalBoardModel" "on" "[Z", .methodLink RX4 168 yX4_isPedal, .instanceMethod yX4_isPedal, .selects RX4 yX4_isPedal yX4_isPedal, .initialized RX4, .code yX4_isPedal cX4_isPedal 3 (some .boolean), .fieldLink RX4 26 "PedalBoardModel" "many" "[I", .methodLink RX4 142 yX4_isWire, .static yX4_isWire, .code yX4_isWire cX4_isWire 1 (some .boolean), .methodLink RX4 153 yX4_refuses, .instanceMethod yX4_refuses, .selects RX4 yX4_refuses yX4_refuses, .code yX4_refuses cX4_refuses 3 (some .boolean), .fieldLink RX4 63 "PedalBoardModel" "code" "I"] ++ wsX40)
def wsX4_swap : List Cond := .code yX4_swap cX4_swap 11 (some .boolean) :: ([.fieldLink RX4 36 "PedalBoardModel" "sort" "[I", .fieldLink RX4 39 "PedalBoardModel" "knob" "[J", .fieldLink RX4 45 "PedalBoardModel" "on" "[Z", .fieldLink RX4 29 "PedalBoardModel" "traced" "[Z", .methodLink RX4 168 yX4_isPedal, .instanceMethod yX4_isPedal, .selects RX4 yX4_isPedal yX4_isPedal, .initialized RX4, .code yX4_isPedal cX4_isPedal 3 (some .boolean), .fieldLink RX4 26 "PedalBoardModel" "many" "[I", .methodLink RX4 142 yX4_isWire, .static yX4_isWire, .code yX4_isWire cX4_isWire 1 (some .boolean), .methodLink RX4 153 yX4_refuses, .instanceMethod yX4_refuses, .selects RX4 yX4_refuses yX4_refuses, .code yX4_refuses cX4_refuses 3 (some .boolean), .fieldLink RX4 63 "PedalBoardModel" "code" "I"] ++ wsX40)
def wsX4_round_r1 : List Cond := [Cond.fieldLink RX4 13 "PedalBoardModel" "wet" "[J", Cond.fieldLink RX4 26 "PedalBoardModel" "many" "[I", Cond.fieldLink RX4 45 "PedalBoardModel" "on" "[Z", Cond.fieldLink RX4 36 "PedalBoardModel" "sort" "[I", Cond.fieldLink RX4 39 "PedalBoardModel" "knob" "[J", Cond.fieldLink RX4 48 "PedalBoardModel" "lit" "[Z", Cond.fieldLink RX4 42 "PedalBoardModel" "out" "[J", Cond.fieldLink RX4 33 "PedalBoardModel" "peaked" "[Z", Cond.fieldLink RX4 16 "PedalBoardModel" "most" "[J", Cond.fieldLink RX4 19 "PedalBoardModel" "least" "[J", Cond.fieldLink RX4 29 "PedalBoardModel" "traced" "[Z", Cond.fieldLink RX4 22 "PedalBoardModel" "played" "[I", Cond.methodLink RX4 171 yX4_works, Cond.static yX4_works, Cond.initialized RX4, Cond.code yX4_works cX4_works 6 (some .long), Cond.methodLink RX4 113 yX4_upright, Cond.static yX4_upright, Cond.code yX4_upright cX4_upright 3 (some .long), Cond.methodLink RX4 100 yX4_negative, Cond.static yX4_negative, Cond.code yX4_negative cX4_negative 3 (some .long), Cond.methodLink RX4 77 yX4_bare, Cond.static yX4_bare]
def wsX4_round_r2 : List Cond := [Cond.code yX4_bare cX4_bare 3 (some .long), Cond.constantLong RX4 75 (4294967295), Cond.methodLink RX4 81 yX4_signBit, Cond.static yX4_signBit, Cond.code yX4_signBit cX4_signBit 1 (some .long), Cond.constantLong RX4 67 (2147483648), Cond.constantLong RX4 69 (-9223372036854775808), Cond.methodLink RX4 97 yX4_asCode, Cond.static yX4_asCode, Cond.code yX4_asCode cX4_asCode 3 (some .long), Cond.methodLink RX4 87 yX4_size, Cond.static yX4_size, Cond.code yX4_size cX4_size 3 (some .long), Cond.constantLong RX4 85 (-1), Cond.methodLink RX4 116 yX4_order, Cond.static yX4_order, Cond.code yX4_order cX4_order 11 (some .int), Cond.methodLink RX4 93 yX4_below, Cond.static yX4_below, Cond.code yX4_below cX4_below 3 (some .boolean), Cond.methodLink RX4 120 yX4_whole, Cond.static yX4_whole, Cond.code yX4_whole cX4_whole 19 (some .long), Cond.constantLong RX4 107 (1065353216)]
def wsX4_round_r3 : List Cond := [Cond.constantLong RX4 109 (4607182418800017408), Cond.constantLong RX4 111 (2), Cond.methodLink RX4 103 yX4_fractionBits, Cond.static yX4_fractionBits, Cond.code yX4_fractionBits cX4_fractionBits 1 (some .int), Cond.methodLink RX4 124 yX4_signOf, Cond.static yX4_signOf, Cond.code yX4_signOf cX4_signOf 5 (some .long)]
def wsX4_round : List Cond := .code yX4_round cX4_round 8 (some .int) :: ((wsX4_round_r1 ++ (wsX4_round_r2 ++ wsX4_round_r3)) ++ wsX40)
def wsX4_play_r1 : List Cond := [Cond.methodLink RX4 142 yX4_isWire, Cond.static yX4_isWire, Cond.initialized RX4, Cond.code yX4_isWire cX4_isWire 1 (some .boolean), Cond.methodLink RX4 153 yX4_refuses, Cond.instanceMethod yX4_refuses, Cond.selects RX4 yX4_refuses yX4_refuses, Cond.code yX4_refuses cX4_refuses 3 (some .boolean), Cond.fieldLink RX4 63 "PedalBoardModel" "code" "I", Cond.methodLink RX4 175 yX4_round, Cond.instanceMethod yX4_round, Cond.selects RX4 yX4_round yX4_round, Cond.code yX4_round cX4_round 8 (some .int), Cond.fieldLink RX4 13 "PedalBoardModel" "wet" "[J", Cond.fieldLink RX4 26 "PedalBoardModel" "many" "[I", Cond.fieldLink RX4 45 "PedalBoardModel" "on" "[Z", Cond.fieldLink RX4 36 "PedalBoardModel" "sort" "[I", Cond.fieldLink RX4 39 "PedalBoardModel" "knob" "[J", Cond.fieldLink RX4 48 "PedalBoardModel" "lit" "[Z", Cond.fieldLink RX4 42 "PedalBoardModel" "out" "[J", Cond.fieldLink RX4 33 "PedalBoardModel" "peaked" "[Z", Cond.fieldLink RX4 16 "PedalBoardModel" "most" "[J", Cond.fieldLink RX4 19 "PedalBoardModel" "least" "[J", Cond.fieldLink RX4 29 "PedalBoardModel" "traced" "[Z"]
def wsX4_play_r2 : List Cond := [Cond.fieldLink RX4 22 "PedalBoardModel" "played" "[I", Cond.methodLink RX4 171 yX4_works, Cond.static yX4_works, Cond.code yX4_works cX4_works 6 (some .long), Cond.methodLink RX4 113 yX4_upright, Cond.static yX4_upright, Cond.code yX4_upright cX4_upright 3 (some .long), Cond.methodLink RX4 100 yX4_negative, Cond.static yX4_negative, Cond.code yX4_negative cX4_negative 3 (some .long), Cond.methodLink RX4 77 yX4_bare, Cond.static yX4_bare, Cond.code yX4_bare cX4_bare 3 (some .long), Cond.constantLong RX4 75 (4294967295), Cond.methodLink RX4 81 yX4_signBit, Cond.static yX4_signBit, Cond.code yX4_signBit cX4_signBit 1 (some .long), Cond.constantLong RX4 67 (2147483648), Cond.constantLong RX4 69 (-9223372036854775808), Cond.methodLink RX4 97 yX4_asCode, Cond.static yX4_asCode, Cond.code yX4_asCode cX4_asCode 3 (some .long), Cond.methodLink RX4 87 yX4_size, Cond.static yX4_size]
def wsX4_play_r3 : List Cond := [Cond.code yX4_size cX4_size 3 (some .long), Cond.constantLong RX4 85 (-1), Cond.methodLink RX4 116 yX4_order, Cond.static yX4_order, Cond.code yX4_order cX4_order 11 (some .int), Cond.methodLink RX4 93 yX4_below, Cond.static yX4_below, Cond.code yX4_below cX4_below 3 (some .boolean), Cond.methodLink RX4 120 yX4_whole, Cond.static yX4_whole, Cond.code yX4_whole cX4_whole 19 (some .long), Cond.constantLong RX4 107 (1065353216), Cond.constantLong RX4 109 (4607182418800017408), Cond.constantLong RX4 111 (2), Cond.methodLink RX4 103 yX4_fractionBits, Cond.static yX4_fractionBits, Cond.code yX4_fractionBits cX4_fractionBits 1 (some .int), Cond.methodLink RX4 124 yX4_signOf, Cond.static yX4_signOf, Cond.code yX4_signOf cX4_signOf 5 (some .long)]
def wsX4_play : List Cond := .code yX4_play cX4_play 5 (some .int) :: ((wsX4_play_r1 ++ (wsX4_play_r2 ++ wsX4_play_r3)) ++ wsX40)
def wsX4_code : List Cond := .code yX4_code cX4_code 4 (some .long) :: ([.fieldLink RX4 33 "PedalBoardModel" "peaked" "[Z", .fieldLink RX4 7 "PedalBoardModel" "dry" "[J", .fieldLink RX4 13 "PedalBoardModel" "wet" "[J", .fieldLink RX4 16 "PedalBoardModel" "most" "[J", .fieldLink RX4 19 "PedalBoardModel" "least" "[J", .methodLink RX4 142 yX4_isWire, .static yX4_isWire, .initialized RX4, .code yX4_isWire cX4_isWire 1 (some .boolean), .methodLink RX4 153 yX4_refuses, .instanceMethod yX4_refuses, .selects RX4 yX4_refuses yX4_refuses, .code yX4_refuses cX4_refuses 3 (some .boolean), .fieldLink RX4 63 "PedalBoardModel" "code" "I"] ++ wsX40)
def wsX4_trace : List Cond := .code yX4_trace cX4_trace 4 (some .long) :: ([.fieldLink RX4 29 "PedalBoardModel" "traced" "[Z", .fieldLink RX4 42 "PedalBoardModel" "out" "[J", .methodLink RX4 168 yX4_isPedal, .instanceMethod yX4_isPedal, .selects RX4 yX4_isPedal yX4_isPedal, .initialized RX4, .code yX4_isPedal cX4_isPedal 3 (some .boolean), .fieldLink RX4 26 "PedalBoardModel" "many" "[I", .methodLink RX4 142 yX4_isWire, .static yX4_isWire, .code yX4_isWire cX4_isWire 1 (some .boolean), .methodLink RX4 153 yX4_refuses, .instanceMethod yX4_refuses, .selects RX4 yX4_refuses yX4_refuses, .code yX4_refuses cX4_refuses 3 (some .boolean), .fieldLink RX4 63 "PedalBoardModel" "code" "I"] ++ wsX40)
def wsX4_light : List Cond := .code yX4_light cX4_light 3 (some .boolean) :: ([.fieldLink RX4 63 "PedalBoardModel" "code" "I", .fieldLink RX4 29 "PedalBoardModel" "traced" "[Z", .fieldLink RX4 48 "PedalBoardModel" "lit" "[Z", .methodLink RX4 168 yX4_isPedal, .instanceMethod yX4_isPedal, .selects RX4 yX4_isPedal yX4_isPedal, .initialized RX4, .code yX4_isPedal cX4_isPedal 3 (some .boolean), .fieldLink RX4 26 "PedalBoardModel" "many" "[I", .methodLink RX4 142 yX4_isWire, .static yX4_isWire, .code yX4_isWire cX4_isWire 1 (some .boolean)] ++ wsX40)
def wsX4_against_r1 : List Cond := [Cond.fieldLink RX4 13 "PedalBoardModel" "wet" "[J", Cond.fieldLink RX4 7 "PedalBoardModel" "dry" "[J", Cond.methodLink RX4 142 yX4_isWire, Cond.static yX4_isWire, Cond.initialized RX4, Cond.code yX4_isWire cX4_isWire 1 (some .boolean), Cond.methodLink RX4 153 yX4_refuses, Cond.instanceMethod yX4_refuses, Cond.selects RX4 yX4_refuses yX4_refuses, Cond.code yX4_refuses cX4_refuses 3 (some .boolean), Cond.fieldLink RX4 63 "PedalBoardModel" "code" "I", Cond.methodLink RX4 116 yX4_order, Cond.static yX4_order, Cond.code yX4_order cX4_order 11 (some .int), Cond.methodLink RX4 93 yX4_below, Cond.static yX4_below, Cond.code yX4_below cX4_below 3 (some .boolean), Cond.methodLink RX4 81 yX4_signBit, Cond.static yX4_signBit, Cond.code yX4_signBit cX4_signBit 1 (some .long), Cond.constantLong RX4 67 (2147483648), Cond.constantLong RX4 69 (-9223372036854775808), Cond.methodLink RX4 87 yX4_size, Cond.static yX4_size]
def wsX4_against_r2 : List Cond := [Cond.code yX4_size cX4_size 3 (some .long), Cond.constantLong RX4 85 (-1), Cond.methodLink RX4 77 yX4_bare, Cond.static yX4_bare, Cond.code yX4_bare cX4_bare 3 (some .long), Cond.constantLong RX4 75 (4294967295)]
def wsX4_against : List Cond := .code yX4_against cX4_against 4 (some .int) :: ((wsX4_against_r1 ++ wsX4_against_r2) ++ wsX40)
def wsX4_save : List Cond := .code yX4_save cX4_save 5 (some .int) :: ([.fieldLink RX4 51 "PedalBoardModel" "keptMany" "[I", .fieldLink RX4 26 "PedalBoardModel" "many" "[I", .fieldLink RX4 54 "PedalBoardModel" "keptKind" "[I", .fieldLink RX4 36 "PedalBoardModel" "sort" "[I", .fieldLink RX4 57 "PedalBoardModel" "keptKnob" "[J", .fieldLink RX4 39 "PedalBoardModel" "knob" "[J", .fieldLink RX4 60 "PedalBoardModel" "keptOn" "[Z", .fieldLink RX4 45 "PedalBoardModel" "on" "[Z", .methodLink RX4 142 yX4_isWire, .static yX4_isWire, .initialized RX4, .code yX4_isWire cX4_isWire 1 (some .boolean), .methodLink RX4 153 yX4_refuses, .instanceMethod yX4_refuses, .selects RX4 yX4_refuses yX4_refuses, .code yX4_refuses cX4_refuses 3 (some .boolean), .fieldLink RX4 63 "PedalBoardModel" "code" "I"] ++ wsX40)
def wsX4_recall : List Cond := .code yX4_recall cX4_recall 5 (some .int) :: ([.fieldLink RX4 26 "PedalBoardModel" "many" "[I", .fieldLink RX4 51 "PedalBoardModel" "keptMany" "[I", .fieldLink RX4 36 "PedalBoardModel" "sort" "[I", .fieldLink RX4 54 "PedalBoardModel" "keptKind" "[I", .fieldLink RX4 39 "PedalBoardModel" "knob" "[J", .fieldLink RX4 57 "PedalBoardModel" "keptKnob" "[J", .fieldLink RX4 45 "PedalBoardModel" "on" "[Z", .fieldLink RX4 60 "PedalBoardModel" "keptOn" "[Z", .fieldLink RX4 29 "PedalBoardModel" "traced" "[Z", .methodLink RX4 142 yX4_isWire, .static yX4_isWire, .initialized RX4, .code yX4_isWire cX4_isWire 1 (some .boolean), .methodLink RX4 153 yX4_refuses, .instanceMethod yX4_refuses, .selects RX4 yX4_refuses yX4_refuses, .code yX4_refuses cX4_refuses 3 (some .boolean), .fieldLink RX4 63 "PedalBoardModel" "code" "I"] ++ wsX40)
def wsX4_about : List Cond := .code yX4_about cX4_about 5 (some .int) :: ([.fieldLink RX4 63 "PedalBoardModel" "code" "I", .fieldLink RX4 26 "PedalBoardModel" "many" "[I", .fieldLink RX4 22 "PedalBoardModel" "played" "[I", .fieldLink RX4 45 "PedalBoardModel" "on" "[Z", .fieldLink RX4 29 "PedalBoardModel" "traced" "[Z", .fieldLink RX4 48 "PedalBoardModel" "lit" "[Z", .methodLink RX4 142 yX4_isWire, .static yX4_isWire, .initialized RX4, .code yX4_isWire cX4_isWire 1 (some .boolean)] ++ wsX40)
def wsJ9_max_7cf53 : List Cond := .code yJ9_max_7cf53 cJ9_max_7cf53 2 (some .int) :: ([])
def wsJ9_min_f86c9 : List Cond := .code yJ9_min_f86c9 cJ9_min_f86c9 4 (some .long) :: ([])
def wsL_put_r1 : List Cond := [Cond.classLink RL 13 "java/lang/IllegalArgumentException", Cond.methodLink RL 7 yX3_put, Cond.instanceMethod yX3_put, Cond.selects RX3 yX3_put yX3_put, Cond.initialized RX3, Cond.code yX3_put cX3_put 5 (some .boolean), Cond.methodLink RX3 22 yX3_wireAt, Cond.instanceMethod yX3_wireAt, Cond.selects RX3 yX3_wireAt yX3_wireAt, Cond.code yX3_wireAt cX3_wireAt 2 (some (.object "PedalBoard$Wire")), Cond.classLink RX3 44 "java/lang/IllegalArgumentException", Cond.initialized "java/lang/IllegalArgumentException", Cond.fieldLink RX3 11 "PedalBoard" "wires" "[LPedalBoard$Wire;", Cond.methodLink RX3 125 yX3_isWire, Cond.static yX3_isWire, Cond.code yX3_isWire cX3_isWire 1 (some .boolean), Cond.methodLink RX3 26 yX3_numberOn, Cond.static yX3_numberOn, Cond.code yX3_numberOn cX3_numberOn 5 (some .long), Cond.fieldLink RX3 34 "PedalBoard$Wire" "sort" "LPedalBoard$Sort;", Cond.methodLink RX3 176 yX1_codeOf, Cond.instanceMethod yX1_codeOf, Cond.selects RX1 yX1_codeOf yX1_codeOf, Cond.initialized RX1]
def wsL_put_r2 : List Cond := [Cond.code yX1_codeOf cX1_codeOf 3 (some .long), Cond.fieldLink RX1 37 "PedalBoard$Sort" "bits" "I", Cond.constantLong RX1 53 (4294967295), Cond.methodLink RX3 180 yX1_isIll, Cond.instanceMethod yX1_isIll, Cond.selects RX1 yX1_isIll yX1_isIll, Cond.code yX1_isIll cX1_isIll 3 (some .boolean), Cond.fieldLink RX1 47 "PedalBoard$Sort" "sizeMask" "J", Cond.methodLink RX1 55 yX1_isWhole, Cond.instanceMethod yX1_isWhole, Cond.selects RX1 yX1_isWhole yX1_isWhole, Cond.code yX1_isWhole cX1_isWhole 1 (some .boolean), Cond.fieldLink RX1 41 "PedalBoard$Sort" "fraction" "I", Cond.methodLink RX1 59 yX1_infinite, Cond.instanceMethod yX1_infinite, Cond.selects RX1 yX1_infinite yX1_infinite, Cond.code yX1_infinite cX1_infinite 1 (some .long), Cond.constantLong RX1 51 (2), Cond.fieldLink RX1 44 "PedalBoard$Sort" "bias" "I", Cond.methodLink RX3 30 yX2_takeDry, Cond.instanceMethod yX2_takeDry, Cond.selects RX2 yX2_takeDry yX2_takeDry, Cond.initialized RX2, Cond.code yX2_takeDry cX2_takeDry 4 (some .boolean)]
def wsL_put_r3 : List Cond := [Cond.fieldLink RX2 34 "PedalBoard$Wire" "dry" "J", Cond.fieldLink RX2 38 "PedalBoard$Wire" "wet" "J", Cond.fieldLink RX2 41 "PedalBoard$Wire" "rounds" "I", Cond.fieldLink RX2 45 "PedalBoard$Wire" "traced" "Z"]
def wsL_put : List Cond := .codeWith yL_put cL_put 6 (some .int) [(0, 19, 22, 13)] :: ((wsL_put_r1 ++ (wsL_put_r2 ++ wsL_put_r3)) ++ wsX30 ++ wsX20 ++ (vx_atS RX3 48 "java/lang/IllegalArgumentException" ["java/lang/RuntimeException", "java/lang/Exception"]).filter goodWord)
def wsL_pedal_r1 : List Cond := [Cond.classLink RL 13 "java/lang/IllegalArgumentException", Cond.classLink RL 19 "java/lang/IllegalStateException", Cond.methodLink RL 15 yX3_pedal, Cond.instanceMethod yX3_pedal, Cond.selects RX3 yX3_pedal yX3_pedal, Cond.initialized RX3, Cond.code yX3_pedal cX3_pedal 8 (some .int), Cond.classLink RX3 44 "java/lang/IllegalArgumentException", Cond.initialized "java/lang/IllegalArgumentException", Cond.classLink RX3 61 "java/lang/IllegalStateException", Cond.initialized "java/lang/IllegalStateException", Cond.fieldLink RX3 34 "PedalBoard$Wire" "sort" "LPedalBoard$Sort;", Cond.fieldLink RX3 51 "PedalBoard$Wire" "pedals" "LPedalBoard$Pedals;", Cond.fieldLink RX3 66 "PedalBoard$Wire" "traced" "Z", Cond.methodLink RX3 22 yX3_wireAt, Cond.instanceMethod yX3_wireAt, Cond.selects RX3 yX3_wireAt yX3_wireAt, Cond.code yX3_wireAt cX3_wireAt 2 (some (.object "PedalBoard$Wire")), Cond.fieldLink RX3 11 "PedalBoard" "wires" "[LPedalBoard$Wire;", Cond.methodLink RX3 125 yX3_isWire, Cond.static yX3_isWire, Cond.code yX3_isWire cX3_isWire 1 (some .boolean), Cond.methodLink RX3 38 yX1_hasKind, Cond.instanceMethod yX1_hasKind]
def wsL_pedal_r2 : List Cond := [Cond.selects RX1 yX1_hasKind yX1_hasKind, Cond.initialized RX1, Cond.code yX1_hasKind cX1_hasKind 2 (some .boolean), Cond.methodLink RX1 55 yX1_isWhole, Cond.instanceMethod yX1_isWhole, Cond.selects RX1 yX1_isWhole yX1_isWhole, Cond.code yX1_isWhole cX1_isWhole 1 (some .boolean), Cond.fieldLink RX1 41 "PedalBoard$Sort" "fraction" "I", Cond.methodLink RX3 26 yX3_numberOn, Cond.static yX3_numberOn, Cond.code yX3_numberOn cX3_numberOn 5 (some .long), Cond.methodLink RX3 176 yX1_codeOf, Cond.instanceMethod yX1_codeOf, Cond.selects RX1 yX1_codeOf yX1_codeOf, Cond.code yX1_codeOf cX1_codeOf 3 (some .long), Cond.fieldLink RX1 37 "PedalBoard$Sort" "bits" "I", Cond.constantLong RX1 53 (4294967295), Cond.methodLink RX3 180 yX1_isIll, Cond.instanceMethod yX1_isIll, Cond.selects RX1 yX1_isIll yX1_isIll, Cond.code yX1_isIll cX1_isIll 3 (some .boolean), Cond.fieldLink RX1 47 "PedalBoard$Sort" "sizeMask" "J", Cond.methodLink RX1 59 yX1_infinite, Cond.instanceMethod yX1_infinite]
def wsL_pedal_r3 : List Cond := [Cond.selects RX1 yX1_infinite yX1_infinite, Cond.code yX1_infinite cX1_infinite 1 (some .long), Cond.constantLong RX1 51 (2), Cond.fieldLink RX1 44 "PedalBoard$Sort" "bias" "I", Cond.methodLink RX3 55 yX0_isFull, Cond.instanceMethod yX0_isFull, Cond.selects RX0 yX0_isFull yX0_isFull, Cond.initialized RX0, Cond.code yX0_isFull cX0_isFull 1 (some .boolean), Cond.fieldLink RX0 23 "PedalBoard$Pedals" "count" "I", Cond.methodLink RX3 70 yX0_append, Cond.instanceMethod yX0_append, Cond.selects RX0 yX0_append yX0_append, Cond.code yX0_append cX0_append 4 (some .int), Cond.fieldLink RX0 9 "PedalBoard$Pedals" "kinds" "[I", Cond.fieldLink RX0 15 "PedalBoard$Pedals" "knobs" "[J", Cond.fieldLink RX0 19 "PedalBoard$Pedals" "on" "[Z", Cond.methodLink RX0 27 yX0_isFull]
def wsL_pedal : List Cond := .codeWith yL_pedal cL_pedal 7 (some .int) [(0, 14, 17, 13), (0, 14, 21, 19)] :: ((wsL_pedal_r1 ++ (wsL_pedal_r2 ++ wsL_pedal_r3)) ++ wsX20 ++ wsX30 ++ wsX00 ++ (vx_atS RX3 48 "java/lang/IllegalArgumentException" ["java/lang/RuntimeException", "java/lang/Exception"]).filter goodWord ++ (vx_atS RX3 65 "java/lang/IllegalStateException" ["java/lang/RuntimeException", "java/lang/Exception"]).filter goodWord)
def wsL_turn_r1 : List Cond := [Cond.classLink RL 13 "java/lang/IllegalArgumentException", Cond.methodLink RL 21 yX3_turn, Cond.instanceMethod yX3_turn, Cond.selects RX3 yX3_turn yX3_turn, Cond.initialized RX3, Cond.code yX3_turn cX3_turn 9 (some .boolean), Cond.fieldLink RX3 51 "PedalBoard$Wire" "pedals" "LPedalBoard$Pedals;", Cond.fieldLink RX3 78 "PedalBoard$Pedals" "knobs" "[J", Cond.methodLink RX3 22 yX3_wireAt, Cond.instanceMethod yX3_wireAt, Cond.selects RX3 yX3_wireAt yX3_wireAt, Cond.code yX3_wireAt cX3_wireAt 2 (some (.object "PedalBoard$Wire")), Cond.classLink RX3 44 "java/lang/IllegalArgumentException", Cond.initialized "java/lang/IllegalArgumentException", Cond.fieldLink RX3 11 "PedalBoard" "wires" "[LPedalBoard$Wire;", Cond.methodLink RX3 125 yX3_isWire, Cond.static yX3_isWire, Cond.code yX3_isWire cX3_isWire 1 (some .boolean), Cond.methodLink RX3 74 yX3_needPedal, Cond.static yX3_needPedal, Cond.code yX3_needPedal cX3_needPedal 2 none, Cond.methodLink RX3 165 yX0_has, Cond.instanceMethod yX0_has, Cond.selects RX0 yX0_has yX0_has]
def wsL_turn_r2 : List Cond := [Cond.initialized RX0, Cond.code yX0_has cX0_has 2 (some .boolean), Cond.fieldLink RX0 23 "PedalBoard$Pedals" "count" "I", Cond.methodLink RX3 26 yX3_numberOn, Cond.static yX3_numberOn, Cond.code yX3_numberOn cX3_numberOn 5 (some .long), Cond.fieldLink RX3 34 "PedalBoard$Wire" "sort" "LPedalBoard$Sort;", Cond.methodLink RX3 176 yX1_codeOf, Cond.instanceMethod yX1_codeOf, Cond.selects RX1 yX1_codeOf yX1_codeOf, Cond.initialized RX1, Cond.code yX1_codeOf cX1_codeOf 3 (some .long), Cond.fieldLink RX1 37 "PedalBoard$Sort" "bits" "I", Cond.constantLong RX1 53 (4294967295), Cond.methodLink RX3 180 yX1_isIll, Cond.instanceMethod yX1_isIll, Cond.selects RX1 yX1_isIll yX1_isIll, Cond.code yX1_isIll cX1_isIll 3 (some .boolean), Cond.fieldLink RX1 47 "PedalBoard$Sort" "sizeMask" "J", Cond.methodLink RX1 55 yX1_isWhole, Cond.instanceMethod yX1_isWhole, Cond.selects RX1 yX1_isWhole yX1_isWhole, Cond.code yX1_isWhole cX1_isWhole 1 (some .boolean), Cond.fieldLink RX1 41 "PedalBoard$Sort" "fraction" "I"]
def wsL_turn_r3 : List Cond := [Cond.methodLink RX1 59 yX1_infinite, Cond.instanceMethod yX1_infinite, Cond.selects RX1 yX1_infinite yX1_infinite, Cond.code yX1_infinite cX1_infinite 1 (some .long), Cond.constantLong RX1 51 (2), Cond.fieldLink RX1 44 "PedalBoard$Sort" "bias" "I"]
def wsL_turn : List Cond := .codeWith yL_turn cL_turn 7 (some .int) [(0, 21, 24, 13)] :: ((wsL_turn_r1 ++ (wsL_turn_r2 ++ wsL_turn_r3)) ++ wsX20 ++ wsX00 ++ wsX30 ++ (vx_atS RX3 48 "java/lang/IllegalArgumentException" ["java/lang/RuntimeException", "java/lang/Exception"]).filter goodWord)
def wsL_tap_r1 : List Cond := [Cond.classLink RL 13 "java/lang/IllegalArgumentException", Cond.methodLink RL 25 yX3_tap, Cond.instanceMethod yX3_tap, Cond.selects RX3 yX3_tap yX3_tap, Cond.initialized RX3, Cond.code yX3_tap cX3_tap 4 (some .boolean), Cond.fieldLink RX3 51 "PedalBoard$Wire" "pedals" "LPedalBoard$Pedals;", Cond.fieldLink RX3 82 "PedalBoard$Pedals" "on" "[Z", Cond.methodLink RX3 22 yX3_wireAt, Cond.instanceMethod yX3_wireAt, Cond.selects RX3 yX3_wireAt yX3_wireAt, Cond.code yX3_wireAt cX3_wireAt 2 (some (.object "PedalBoard$Wire")), Cond.classLink RX3 44 "java/lang/IllegalArgumentException", Cond.initialized "java/lang/IllegalArgumentException", Cond.fieldLink RX3 11 "PedalBoard" "wires" "[LPedalBoard$Wire;", Cond.methodLink RX3 125 yX3_isWire, Cond.static yX3_isWire, Cond.code yX3_isWire cX3_isWire 1 (some .boolean), Cond.methodLink RX3 74 yX3_needPedal, Cond.static yX3_needPedal, Cond.code yX3_needPedal cX3_needPedal 2 none, Cond.methodLink RX3 165 yX0_has, Cond.instanceMethod yX0_has, Cond.selects RX0 yX0_has yX0_has]
def wsL_tap_r2 : List Cond := [Cond.initialized RX0, Cond.code yX0_has cX0_has 2 (some .boolean), Cond.fieldLink RX0 23 "PedalBoard$Pedals" "count" "I"]
def wsL_tap : List Cond := .codeWith yL_tap cL_tap 5 (some .int) [(0, 17, 20, 13)] :: ((wsL_tap_r1 ++ wsL_tap_r2) ++ wsX20 ++ wsX00 ++ wsX30 ++ (vx_atS RX3 48 "java/lang/IllegalArgumentException" ["java/lang/RuntimeException", "java/lang/Exception"]).filter goodWord)
def wsL_swap_r1 : List Cond := [Cond.classLink RL 13 "java/lang/IllegalArgumentException", Cond.methodLink RL 29 yX3_swap, Cond.instanceMethod yX3_swap, Cond.selects RX3 yX3_swap yX3_swap, Cond.initialized RX3, Cond.code yX3_swap cX3_swap 6 (some .boolean), Cond.fieldLink RX3 66 "PedalBoard$Wire" "traced" "Z", Cond.fieldLink RX3 51 "PedalBoard$Wire" "pedals" "LPedalBoard$Pedals;", Cond.methodLink RX3 22 yX3_wireAt, Cond.instanceMethod yX3_wireAt, Cond.selects RX3 yX3_wireAt yX3_wireAt, Cond.code yX3_wireAt cX3_wireAt 2 (some (.object "PedalBoard$Wire")), Cond.classLink RX3 44 "java/lang/IllegalArgumentException", Cond.initialized "java/lang/IllegalArgumentException", Cond.fieldLink RX3 11 "PedalBoard" "wires" "[LPedalBoard$Wire;", Cond.methodLink RX3 125 yX3_isWire, Cond.static yX3_isWire, Cond.code yX3_isWire cX3_isWire 1 (some .boolean), Cond.methodLink RX3 74 yX3_needPedal, Cond.static yX3_needPedal, Cond.code yX3_needPedal cX3_needPedal 2 none, Cond.methodLink RX3 165 yX0_has, Cond.instanceMethod yX0_has, Cond.selects RX0 yX0_has yX0_has]
def wsL_swap_r2 : List Cond := [Cond.initialized RX0, Cond.code yX0_has cX0_has 2 (some .boolean), Cond.fieldLink RX0 23 "PedalBoard$Pedals" "count" "I", Cond.methodLink RX3 86 yX0_areUnlike, Cond.instanceMethod yX0_areUnlike, Cond.selects RX0 yX0_areUnlike yX0_areUnlike, Cond.code yX0_areUnlike cX0_areUnlike 3 (some .boolean), Cond.fieldLink RX0 9 "PedalBoard$Pedals" "kinds" "[I", Cond.fieldLink RX0 15 "PedalBoard$Pedals" "knobs" "[J", Cond.fieldLink RX0 19 "PedalBoard$Pedals" "on" "[Z", Cond.methodLink RX3 90 yX0_exchange, Cond.instanceMethod yX0_exchange, Cond.selects RX0 yX0_exchange yX0_exchange, Cond.code yX0_exchange cX0_exchange 7 none]
def wsL_swap : List Cond := .codeWith yL_swap cL_swap 6 (some .int) [(0, 19, 22, 13)] :: ((wsL_swap_r1 ++ wsL_swap_r2) ++ wsX20 ++ wsX30 ++ wsX00 ++ (vx_atS RX3 48 "java/lang/IllegalArgumentException" ["java/lang/RuntimeException", "java/lang/Exception"]).filter goodWord)
def wsL_play_r1 : List Cond := [Cond.classLink RL 13 "java/lang/IllegalArgumentException", Cond.methodLink RL 32 yX3_play, Cond.instanceMethod yX3_play, Cond.selects RX3 yX3_play yX3_play, Cond.initialized RX3, Cond.code yX3_play cX3_play 6 (some .int), Cond.classLink RX3 44 "java/lang/IllegalArgumentException", Cond.initialized "java/lang/IllegalArgumentException", Cond.methodLink RX3 22 yX3_wireAt, Cond.instanceMethod yX3_wireAt, Cond.selects RX3 yX3_wireAt yX3_wireAt, Cond.code yX3_wireAt cX3_wireAt 2 (some (.object "PedalBoard$Wire")), Cond.fieldLink RX3 11 "PedalBoard" "wires" "[LPedalBoard$Wire;", Cond.methodLink RX3 125 yX3_isWire, Cond.static yX3_isWire, Cond.code yX3_isWire cX3_isWire 1 (some .boolean), Cond.methodLink RX3 96 yX2_runRound, Cond.instanceMethod yX2_runRound, Cond.selects RX2 yX2_runRound yX2_runRound, Cond.initialized RX2, Cond.code yX2_runRound cX2_runRound 5 (some .int), Cond.fieldLink RX2 18 "PedalBoard$Wire" "pedals" "LPedalBoard$Pedals;", Cond.fieldLink RX2 49 "PedalBoard$Pedals" "count" "I", Cond.fieldLink RX2 38 "PedalBoard$Wire" "wet" "J"]
def wsL_play_r2 : List Cond := [Cond.fieldLink RX2 52 "PedalBoard$Pedals" "on" "[Z", Cond.fieldLink RX2 9 "PedalBoard$Wire" "sort" "LPedalBoard$Sort;", Cond.fieldLink RX2 55 "PedalBoard$Pedals" "kinds" "[I", Cond.fieldLink RX2 59 "PedalBoard$Pedals" "knobs" "[J", Cond.fieldLink RX2 26 "PedalBoard$Wire" "outs" "[J", Cond.fieldLink RX2 30 "PedalBoard$Wire" "lights" "[Z", Cond.fieldLink RX2 45 "PedalBoard$Wire" "traced" "Z", Cond.fieldLink RX2 41 "PedalBoard$Wire" "rounds" "I", Cond.methodLink RX2 62 yX1_through, Cond.instanceMethod yX1_through, Cond.selects RX1 yX1_through yX1_through, Cond.initialized RX1, Cond.code yX1_through cX1_through 6 (some .long), Cond.methodLink RX1 67 yX1_withOtherSign, Cond.instanceMethod yX1_withOtherSign, Cond.selects RX1 yX1_withOtherSign yX1_withOtherSign, Cond.code yX1_withOtherSign cX1_withOtherSign 3 (some .long), Cond.fieldLink RX1 47 "PedalBoard$Sort" "sizeMask" "J", Cond.constantLong RX1 92 (-1), Cond.methodLink RX1 55 yX1_isWhole, Cond.instanceMethod yX1_isWhole, Cond.selects RX1 yX1_isWhole yX1_isWhole, Cond.code yX1_isWhole cX1_isWhole 1 (some .boolean), Cond.fieldLink RX1 41 "PedalBoard$Sort" "fraction" "I"]
def wsL_play_r3 : List Cond := [Cond.methodLink RX1 89 yX1_fitted, Cond.instanceMethod yX1_fitted, Cond.selects RX1 yX1_fitted yX1_fitted, Cond.code yX1_fitted cX1_fitted 3 (some .long), Cond.fieldLink RX1 37 "PedalBoard$Sort" "bits" "I", Cond.methodLink RX1 70 yX1_isLess, Cond.instanceMethod yX1_isLess, Cond.selects RX1 yX1_isLess yX1_isLess, Cond.code yX1_isLess cX1_isLess 5 (some .boolean), Cond.methodLink RX1 63 yX1_rank, Cond.instanceMethod yX1_rank, Cond.selects RX1 yX1_rank yX1_rank, Cond.code yX1_rank cX1_rank 3 (some .long), Cond.methodLink RX1 74 yX1_wholeSize, Cond.instanceMethod yX1_wholeSize, Cond.selects RX1 yX1_wholeSize yX1_wholeSize, Cond.code yX1_wholeSize cX1_wholeSize 14 (some .long), Cond.fieldLink RX1 44 "PedalBoard$Sort" "bias" "I", Cond.methodLink RX1 94 yX1_oneHalf, Cond.instanceMethod yX1_oneHalf, Cond.selects RX1 yX1_oneHalf yX1_oneHalf, Cond.code yX1_oneHalf cX1_oneHalf 1 (some .long), Cond.methodLink RX1 97 yX1_growsAway, Cond.static yX1_growsAway]
def wsL_play_r4 : List Cond := [Cond.code yX1_growsAway cX1_growsAway 3 (some .boolean), Cond.methodLink RX1 86 yX1_one, Cond.instanceMethod yX1_one, Cond.selects RX1 yX1_one yX1_one, Cond.code yX1_one cX1_one 1 (some .long), Cond.methodLink RX1 101 yX1_isNearerAway, Cond.static yX1_isNearerAway, Cond.code yX1_isNearerAway cX1_isNearerAway 8 (some .boolean), Cond.methodLink RX1 78 yX1_withSignOf, Cond.instanceMethod yX1_withSignOf, Cond.selects RX1 yX1_withSignOf yX1_withSignOf, Cond.code yX1_withSignOf cX1_withSignOf 5 (some .long), Cond.methodLink RX1 82 yX1_isZero, Cond.instanceMethod yX1_isZero, Cond.selects RX1 yX1_isZero yX1_isZero, Cond.code yX1_isZero cX1_isZero 3 (some .boolean), Cond.methodLink RX2 68 yX2_keepPeaks, Cond.instanceMethod yX2_keepPeaks, Cond.selects RX2 yX2_keepPeaks yX2_keepPeaks, Cond.code yX2_keepPeaks cX2_keepPeaks 1 none, Cond.fieldLink RX2 75 "PedalBoard$Wire" "greatest" "J", Cond.fieldLink RX2 82 "PedalBoard$Wire" "least" "J", Cond.methodLink RX2 71 yX2_hasPeaks, Cond.instanceMethod yX2_hasPeaks]
def wsL_play_r5 : List Cond := [Cond.selects RX2 yX2_hasPeaks yX2_hasPeaks, Cond.code yX2_hasPeaks cX2_hasPeaks 1 (some .boolean), Cond.methodLink RX2 78 yX1_isLess]
def wsL_play : List Cond := .codeWith yL_play cL_play 5 (some .int) [(0, 10, 13, 13)] :: ((wsL_play_r1 ++ (wsL_play_r2 ++ (wsL_play_r3 ++ (wsL_play_r4 ++ wsL_play_r5)))) ++ wsX30 ++ wsX20 ++ wsX00 ++ (vx_atS RX3 48 "java/lang/IllegalArgumentException" ["java/lang/RuntimeException", "java/lang/Exception"]).filter goodWord)
def wsL_code_r1 : List Cond := [Cond.classLink RL 13 "java/lang/IllegalArgumentException", Cond.classLink RL 19 "java/lang/IllegalStateException", Cond.methodLink RL 36 yX3_code, Cond.instanceMethod yX3_code, Cond.selects RX3 yX3_code yX3_code, Cond.initialized RX3, Cond.code yX3_code cX3_code 4 (some .long), Cond.classLink RX3 44 "java/lang/IllegalArgumentException", Cond.initialized "java/lang/IllegalArgumentException", Cond.classLink RX3 61 "java/lang/IllegalStateException", Cond.initialized "java/lang/IllegalStateException", Cond.fieldLink RX3 102 "PedalBoard$Wire" "dry" "J", Cond.fieldLink RX3 106 "PedalBoard$Wire" "wet" "J", Cond.fieldLink RX3 114 "PedalBoard$Wire" "greatest" "J", Cond.fieldLink RX3 117 "PedalBoard$Wire" "least" "J", Cond.methodLink RX3 22 yX3_wireAt, Cond.instanceMethod yX3_wireAt, Cond.selects RX3 yX3_wireAt yX3_wireAt, Cond.code yX3_wireAt cX3_wireAt 2 (some (.object "PedalBoard$Wire")), Cond.fieldLink RX3 11 "PedalBoard" "wires" "[LPedalBoard$Wire;", Cond.methodLink RX3 125 yX3_isWire, Cond.static yX3_isWire, Cond.code yX3_isWire cX3_isWire 1 (some .boolean), Cond.methodLink RX3 109 yX2_hasPeaks]
def wsL_code_r2 : List Cond := [Cond.instanceMethod yX2_hasPeaks, Cond.selects RX2 yX2_hasPeaks yX2_hasPeaks, Cond.initialized RX2, Cond.code yX2_hasPeaks cX2_hasPeaks 1 (some .boolean), Cond.fieldLink RX2 41 "PedalBoard$Wire" "rounds" "I"]
def wsL_code : List Cond := .codeWith yL_code cL_code 5 (some .int) [(0, 9, 12, 13), (0, 9, 16, 19)] :: ((wsL_code_r1 ++ wsL_code_r2) ++ wsX20 ++ wsX30 ++ (vx_atS RX3 48 "java/lang/IllegalArgumentException" ["java/lang/RuntimeException", "java/lang/Exception"]).filter goodWord ++ (vx_atS RX3 65 "java/lang/IllegalStateException" ["java/lang/RuntimeException", "java/lang/Exception"]).filter goodWord)
def wsL_trace_r1 : List Cond := [Cond.classLink RL 13 "java/lang/IllegalArgumentException", Cond.classLink RL 19 "java/lang/IllegalStateException", Cond.methodLink RL 40 yX3_trace, Cond.instanceMethod yX3_trace, Cond.selects RX3 yX3_trace yX3_trace, Cond.initialized RX3, Cond.code yX3_trace cX3_trace 4 (some .long), Cond.classLink RX3 61 "java/lang/IllegalStateException", Cond.initialized "java/lang/IllegalStateException", Cond.fieldLink RX3 66 "PedalBoard$Wire" "traced" "Z", Cond.fieldLink RX3 122 "PedalBoard$Wire" "outs" "[J", Cond.methodLink RX3 22 yX3_wireAt, Cond.instanceMethod yX3_wireAt, Cond.selects RX3 yX3_wireAt yX3_wireAt, Cond.code yX3_wireAt cX3_wireAt 2 (some (.object "PedalBoard$Wire")), Cond.classLink RX3 44 "java/lang/IllegalArgumentException", Cond.initialized "java/lang/IllegalArgumentException", Cond.fieldLink RX3 11 "PedalBoard" "wires" "[LPedalBoard$Wire;", Cond.methodLink RX3 125 yX3_isWire, Cond.static yX3_isWire, Cond.code yX3_isWire cX3_isWire 1 (some .boolean), Cond.methodLink RX3 74 yX3_needPedal, Cond.static yX3_needPedal, Cond.code yX3_needPedal cX3_needPedal 2 none]
def wsL_trace_r2 : List Cond := [Cond.fieldLink RX3 51 "PedalBoard$Wire" "pedals" "LPedalBoard$Pedals;", Cond.methodLink RX3 165 yX0_has, Cond.instanceMethod yX0_has, Cond.selects RX0 yX0_has yX0_has, Cond.initialized RX0, Cond.code yX0_has cX0_has 2 (some .boolean), Cond.fieldLink RX0 23 "PedalBoard$Pedals" "count" "I"]
def wsL_trace : List Cond := .codeWith yL_trace cL_trace 5 (some .int) [(0, 9, 12, 13), (0, 9, 16, 19)] :: ((wsL_trace_r1 ++ wsL_trace_r2) ++ wsX20 ++ wsX30 ++ wsX00 ++ (vx_atS RX3 65 "java/lang/IllegalStateException" ["java/lang/RuntimeException", "java/lang/Exception"]).filter goodWord ++ (vx_atS RX3 48 "java/lang/IllegalArgumentException" ["java/lang/RuntimeException", "java/lang/Exception"]).filter goodWord)
def wsL_against_r1 : List Cond := [Cond.classLink RL 13 "java/lang/IllegalArgumentException", Cond.methodLink RL 43 yX3_against, Cond.instanceMethod yX3_against, Cond.selects RX3 yX3_against yX3_against, Cond.initialized RX3, Cond.code yX3_against cX3_against 3 (some .int), Cond.fieldLink RX3 106 "PedalBoard$Wire" "wet" "J", Cond.fieldLink RX3 102 "PedalBoard$Wire" "dry" "J", Cond.fieldLink RX3 34 "PedalBoard$Wire" "sort" "LPedalBoard$Sort;", Cond.methodLink RX3 22 yX3_wireAt, Cond.instanceMethod yX3_wireAt, Cond.selects RX3 yX3_wireAt yX3_wireAt, Cond.code yX3_wireAt cX3_wireAt 2 (some (.object "PedalBoard$Wire")), Cond.classLink RX3 44 "java/lang/IllegalArgumentException", Cond.initialized "java/lang/IllegalArgumentException", Cond.fieldLink RX3 11 "PedalBoard" "wires" "[LPedalBoard$Wire;", Cond.methodLink RX3 125 yX3_isWire, Cond.static yX3_isWire, Cond.code yX3_isWire cX3_isWire 1 (some .boolean), Cond.methodLink RX3 131 yX1_isZero, Cond.instanceMethod yX1_isZero, Cond.selects RX1 yX1_isZero yX1_isZero, Cond.initialized RX1, Cond.code yX1_isZero cX1_isZero 3 (some .boolean)]
def wsL_against_r2 : List Cond := [Cond.fieldLink RX1 47 "PedalBoard$Sort" "sizeMask" "J", Cond.methodLink RX1 55 yX1_isWhole, Cond.instanceMethod yX1_isWhole, Cond.selects RX1 yX1_isWhole yX1_isWhole, Cond.code yX1_isWhole cX1_isWhole 1 (some .boolean), Cond.fieldLink RX1 41 "PedalBoard$Sort" "fraction" "I", Cond.methodLink RX3 134 yX1_isLess, Cond.instanceMethod yX1_isLess, Cond.selects RX1 yX1_isLess yX1_isLess, Cond.code yX1_isLess cX1_isLess 5 (some .boolean), Cond.methodLink RX1 63 yX1_rank, Cond.instanceMethod yX1_rank, Cond.selects RX1 yX1_rank yX1_rank, Cond.code yX1_rank cX1_rank 3 (some .long)]
def wsL_against : List Cond := .codeWith yL_against cL_against 4 (some .int) [(0, 9, 12, 13)] :: ((wsL_against_r1 ++ wsL_against_r2) ++ wsX20 ++ wsX30 ++ (vx_atS RX3 48 "java/lang/IllegalArgumentException" ["java/lang/RuntimeException", "java/lang/Exception"]).filter goodWord)
def wsL_save_r1 : List Cond := [Cond.classLink RL 13 "java/lang/IllegalArgumentException", Cond.methodLink RL 47 yX3_save, Cond.instanceMethod yX3_save, Cond.selects RX3 yX3_save yX3_save, Cond.initialized RX3, Cond.code yX3_save cX3_save 5 (some .int), Cond.fieldLink RX3 51 "PedalBoard$Wire" "pedals" "LPedalBoard$Pedals;", Cond.fieldLink RX3 146 "PedalBoard$Pedals" "count" "I", Cond.methodLink RX3 22 yX3_wireAt, Cond.instanceMethod yX3_wireAt, Cond.selects RX3 yX3_wireAt yX3_wireAt, Cond.code yX3_wireAt cX3_wireAt 2 (some (.object "PedalBoard$Wire")), Cond.classLink RX3 44 "java/lang/IllegalArgumentException", Cond.initialized "java/lang/IllegalArgumentException", Cond.fieldLink RX3 11 "PedalBoard" "wires" "[LPedalBoard$Wire;", Cond.methodLink RX3 125 yX3_isWire, Cond.static yX3_isWire, Cond.code yX3_isWire cX3_isWire 1 (some .boolean), Cond.methodLink RX3 138 yX3_presetOf, Cond.static yX3_presetOf, Cond.code yX3_presetOf cX3_presetOf 2 (some (.object "PedalBoard$Pedals")), Cond.fieldLink RX3 172 "PedalBoard$Wire" "presets" "[LPedalBoard$Pedals;", Cond.methodLink RX3 142 yX0_become, Cond.instanceMethod yX0_become]
def wsL_save_r2 : List Cond := [Cond.selects RX0 yX0_become yX0_become, Cond.initialized RX0, Cond.code yX0_become cX0_become 3 none, Cond.fieldLink RX0 23 "PedalBoard$Pedals" "count" "I", Cond.fieldLink RX0 9 "PedalBoard$Pedals" "kinds" "[I", Cond.fieldLink RX0 15 "PedalBoard$Pedals" "knobs" "[J", Cond.fieldLink RX0 19 "PedalBoard$Pedals" "on" "[Z"]
def wsL_save : List Cond := .codeWith yL_save cL_save 5 (some .int) [(0, 10, 13, 13)] :: ((wsL_save_r1 ++ wsL_save_r2) ++ wsX20 ++ wsX00 ++ wsX30 ++ (vx_atS RX3 48 "java/lang/IllegalArgumentException" ["java/lang/RuntimeException", "java/lang/Exception"]).filter goodWord)
def wsL_recall_r1 : List Cond := [Cond.classLink RL 13 "java/lang/IllegalArgumentException", Cond.methodLink RL 50 yX3_recall, Cond.instanceMethod yX3_recall, Cond.selects RX3 yX3_recall yX3_recall, Cond.initialized RX3, Cond.code yX3_recall cX3_recall 5 (some .int), Cond.fieldLink RX3 51 "PedalBoard$Wire" "pedals" "LPedalBoard$Pedals;", Cond.fieldLink RX3 66 "PedalBoard$Wire" "traced" "Z", Cond.fieldLink RX3 146 "PedalBoard$Pedals" "count" "I", Cond.methodLink RX3 22 yX3_wireAt, Cond.instanceMethod yX3_wireAt, Cond.selects RX3 yX3_wireAt yX3_wireAt, Cond.code yX3_wireAt cX3_wireAt 2 (some (.object "PedalBoard$Wire")), Cond.classLink RX3 44 "java/lang/IllegalArgumentException", Cond.initialized "java/lang/IllegalArgumentException", Cond.fieldLink RX3 11 "PedalBoard" "wires" "[LPedalBoard$Wire;", Cond.methodLink RX3 125 yX3_isWire, Cond.static yX3_isWire, Cond.code yX3_isWire cX3_isWire 1 (some .boolean), Cond.methodLink RX3 138 yX3_presetOf, Cond.static yX3_presetOf, Cond.code yX3_presetOf cX3_presetOf 2 (some (.object "PedalBoard$Pedals")), Cond.fieldLink RX3 172 "PedalBoard$Wire" "presets" "[LPedalBoard$Pedals;", Cond.methodLink RX3 142 yX0_become]
def wsL_recall_r2 : List Cond := [Cond.instanceMethod yX0_become, Cond.selects RX0 yX0_become yX0_become, Cond.initialized RX0, Cond.code yX0_become cX0_become 3 none, Cond.fieldLink RX0 23 "PedalBoard$Pedals" "count" "I", Cond.fieldLink RX0 9 "PedalBoard$Pedals" "kinds" "[I", Cond.fieldLink RX0 15 "PedalBoard$Pedals" "knobs" "[J", Cond.fieldLink RX0 19 "PedalBoard$Pedals" "on" "[Z"]
def wsL_recall : List Cond := .codeWith yL_recall cL_recall 5 (some .int) [(0, 10, 13, 13)] :: ((wsL_recall_r1 ++ wsL_recall_r2) ++ wsX20 ++ wsX00 ++ wsX30 ++ (vx_atS RX3 48 "java/lang/IllegalArgumentException" ["java/lang/RuntimeException", "java/lang/Exception"]).filter goodWord)
def wsL_patch_r1 : List Cond := [Cond.classLink RL 13 "java/lang/IllegalArgumentException", Cond.methodLink RL 53 yX3_patch, Cond.instanceMethod yX3_patch, Cond.selects RX3 yX3_patch yX3_patch, Cond.initialized RX3, Cond.code yX3_patch cX3_patch 7 (some .long), Cond.fieldLink RX3 34 "PedalBoard$Wire" "sort" "LPedalBoard$Sort;", Cond.fieldLink RX3 106 "PedalBoard$Wire" "wet" "J", Cond.methodLink RX3 22 yX3_wireAt, Cond.instanceMethod yX3_wireAt, Cond.selects RX3 yX3_wireAt yX3_wireAt, Cond.code yX3_wireAt cX3_wireAt 2 (some (.object "PedalBoard$Wire")), Cond.classLink RX3 44 "java/lang/IllegalArgumentException", Cond.initialized "java/lang/IllegalArgumentException", Cond.fieldLink RX3 11 "PedalBoard" "wires" "[LPedalBoard$Wire;", Cond.methodLink RX3 125 yX3_isWire, Cond.static yX3_isWire, Cond.code yX3_isWire cX3_isWire 1 (some .boolean), Cond.methodLink RX3 150 yX1_castTo, Cond.instanceMethod yX1_castTo, Cond.selects RX1 yX1_castTo yX1_castTo, Cond.initialized RX1, Cond.code yX1_castTo cX1_castTo 4 (some .long), Cond.methodLink RX1 55 yX1_isWhole]
def wsL_patch_r2 : List Cond := [Cond.instanceMethod yX1_isWhole, Cond.selects RX1 yX1_isWhole yX1_isWhole, Cond.code yX1_isWhole cX1_isWhole 1 (some .boolean), Cond.fieldLink RX1 41 "PedalBoard$Sort" "fraction" "I", Cond.methodLink RX1 89 yX1_fitted, Cond.instanceMethod yX1_fitted, Cond.selects RX1 yX1_fitted yX1_fitted, Cond.code yX1_fitted cX1_fitted 3 (some .long), Cond.fieldLink RX1 37 "PedalBoard$Sort" "bits" "I", Cond.methodLink RX1 105 yX1_roundedWhole, Cond.instanceMethod yX1_roundedWhole, Cond.selects RX1 yX1_roundedWhole yX1_roundedWhole, Cond.code yX1_roundedWhole cX1_roundedWhole 3 (some .long), Cond.methodLink RX1 115 yX1_rounded, Cond.instanceMethod yX1_rounded, Cond.selects RX1 yX1_rounded yX1_rounded, Cond.code yX1_rounded cX1_rounded 15 (some .long), Cond.fieldLink RX1 44 "PedalBoard$Sort" "bias" "I", Cond.methodLink RX1 119 Lib.Math.max.name, Cond.static Lib.Math.max.name, Cond.initialized "java/lang/Math", Cond.code Lib.Math.max.name Lib.Math.max.code 2 (some .int), Cond.constantLong RX1 130 (-9223372036854775808), Cond.methodLink RX1 132 Lib.MathLoose.min_long.x]
def wsL_patch_r3 : List Cond := [Cond.static Lib.MathLoose.min_long.x, Cond.code Lib.MathLoose.min_long.x Lib.MathLoose.min_long.code 4 (some .long), Cond.methodLink RX1 125 yX1_isOverHalf, Cond.static yX1_isOverHalf, Cond.code yX1_isOverHalf cX1_isOverHalf 2 (some .boolean), Cond.methodLink RX1 59 yX1_infinite, Cond.instanceMethod yX1_infinite, Cond.selects RX1 yX1_infinite yX1_infinite, Cond.code yX1_infinite cX1_infinite 1 (some .long), Cond.constantLong RX1 51 (2), Cond.methodLink RX1 78 yX1_withSignOf, Cond.instanceMethod yX1_withSignOf, Cond.selects RX1 yX1_withSignOf yX1_withSignOf, Cond.code yX1_withSignOf cX1_withSignOf 5 (some .long), Cond.fieldLink RX1 47 "PedalBoard$Sort" "sizeMask" "J", Cond.constantLong RX1 92 (-1), Cond.methodLink RX1 108 yX1_cutTo, Cond.instanceMethod yX1_cutTo, Cond.selects RX1 yX1_cutTo yX1_cutTo, Cond.code yX1_cutTo cX1_cutTo 14 (some .long), Cond.methodLink RX1 112 yX1_refit, Cond.instanceMethod yX1_refit, Cond.selects RX1 yX1_refit yX1_refit, Cond.code yX1_refit cX1_refit 12 (some .long)]
def wsL_patch_r4 : List Cond := [Cond.methodLink RX3 30 yX2_takeDry, Cond.instanceMethod yX2_takeDry, Cond.selects RX2 yX2_takeDry yX2_takeDry, Cond.initialized RX2, Cond.code yX2_takeDry cX2_takeDry 4 (some .boolean), Cond.fieldLink RX2 34 "PedalBoard$Wire" "dry" "J", Cond.fieldLink RX2 38 "PedalBoard$Wire" "wet" "J", Cond.fieldLink RX2 41 "PedalBoard$Wire" "rounds" "I", Cond.fieldLink RX2 45 "PedalBoard$Wire" "traced" "Z"]
def wsL_patch : List Cond := .codeWith yL_patch cL_patch 5 (some .int) [(0, 9, 12, 13)] :: ((wsL_patch_r1 ++ (wsL_patch_r2 ++ (wsL_patch_r3 ++ wsL_patch_r4))) ++ wsX20 ++ wsX30 ++ (vx_atS RX3 48 "java/lang/IllegalArgumentException" ["java/lang/RuntimeException", "java/lang/Exception"]).filter goodWord)
def wsL_law0_r1 : List Cond := [Cond.classLink RL 8 RX3, Cond.instantiable RX3 1, Cond.initialized RX3, Cond.classLink RL 57 RX4, Cond.instantiable RX4 18, Cond.initialized RX4, Cond.arrayClass .long, Cond.methodLink RL 56 yX3_init, Cond.instanceMethod yX3_init, Cond.code yX3_init cX3_init 2 none, Cond.methodLink RX3 1 objectInit, Cond.instanceMethod objectInit, Cond.code objectInit ⟨#[0xb1]⟩ 1 none, Cond.classLink RX3 9 RX2, Cond.fieldLink RX3 11 "PedalBoard" "wires" "[LPedalBoard$Wire;", Cond.instantiable RX2 11, Cond.initialized RX2, Cond.fieldLink RX3 15 "PedalBoard" "SORTS" "[LPedalBoard$Sort;", Cond.methodLink RX3 19 yX2_init, Cond.instanceMethod yX2_init, Cond.code yX2_init cX2_init 3 none, Cond.methodLink RX2 3 objectInit, Cond.fieldLink RX2 9 "PedalBoard$Wire" "sort" "LPedalBoard$Sort;", Cond.classLink RX2 15 RX0]
def wsL_law0_r2 : List Cond := [Cond.instantiable RX0 4, Cond.initialized RX0, Cond.fieldLink RX2 18 "PedalBoard$Wire" "pedals" "LPedalBoard$Pedals;", Cond.fieldLink RX2 22 "PedalBoard$Wire" "presets" "[LPedalBoard$Pedals;", Cond.fieldLink RX2 26 "PedalBoard$Wire" "outs" "[J", Cond.arrayClass .boolean, Cond.fieldLink RX2 30 "PedalBoard$Wire" "lights" "[Z", Cond.methodLink RX2 17 yX0_init, Cond.instanceMethod yX0_init, Cond.code yX0_init cX0_init 1 none, Cond.methodLink RX0 3 objectInit, Cond.arrayClass .int, Cond.fieldLink RX0 9 "PedalBoard$Pedals" "kinds" "[I", Cond.fieldLink RX0 15 "PedalBoard$Pedals" "knobs" "[J", Cond.fieldLink RX0 19 "PedalBoard$Pedals" "on" "[Z", Cond.methodLink RL 59 yX4_init, Cond.instanceMethod yX4_init, Cond.code yX4_init cX4_init 1 none, Cond.methodLink RX4 1 objectInit, Cond.fieldLink RX4 7 "PedalBoardModel" "dry" "[J", Cond.fieldLink RX4 13 "PedalBoardModel" "wet" "[J", Cond.fieldLink RX4 16 "PedalBoardModel" "most" "[J", Cond.fieldLink RX4 19 "PedalBoardModel" "least" "[J", Cond.fieldLink RX4 22 "PedalBoardModel" "played" "[I"]
def wsL_law0_r3 : List Cond := [Cond.fieldLink RX4 26 "PedalBoardModel" "many" "[I", Cond.fieldLink RX4 29 "PedalBoardModel" "traced" "[Z", Cond.fieldLink RX4 33 "PedalBoardModel" "peaked" "[Z", Cond.fieldLink RX4 36 "PedalBoardModel" "sort" "[I", Cond.fieldLink RX4 39 "PedalBoardModel" "knob" "[J", Cond.fieldLink RX4 42 "PedalBoardModel" "out" "[J", Cond.fieldLink RX4 45 "PedalBoardModel" "on" "[Z", Cond.fieldLink RX4 48 "PedalBoardModel" "lit" "[Z", Cond.fieldLink RX4 51 "PedalBoardModel" "keptMany" "[I", Cond.fieldLink RX4 54 "PedalBoardModel" "keptKind" "[I", Cond.fieldLink RX4 57 "PedalBoardModel" "keptKnob" "[J", Cond.fieldLink RX4 60 "PedalBoardModel" "keptOn" "[Z", Cond.methodLink RL 60 yL_put, Cond.static yL_put, Cond.initialized RL, Cond.codeWith yL_put cL_put 6 (some .int) [(0, 19, 22, 13)], Cond.classLink RL 13 "java/lang/IllegalArgumentException", Cond.methodLink RL 7 yX3_put, Cond.instanceMethod yX3_put, Cond.selects RX3 yX3_put yX3_put, Cond.code yX3_put cX3_put 5 (some .boolean), Cond.methodLink RX3 22 yX3_wireAt, Cond.instanceMethod yX3_wireAt, Cond.selects RX3 yX3_wireAt yX3_wireAt]
def wsL_law0_r4 : List Cond := [Cond.code yX3_wireAt cX3_wireAt 2 (some (.object "PedalBoard$Wire")), Cond.classLink RX3 44 "java/lang/IllegalArgumentException", Cond.initialized "java/lang/IllegalArgumentException", Cond.methodLink RX3 125 yX3_isWire, Cond.static yX3_isWire, Cond.code yX3_isWire cX3_isWire 1 (some .boolean), Cond.methodLink RX3 26 yX3_numberOn, Cond.static yX3_numberOn, Cond.code yX3_numberOn cX3_numberOn 5 (some .long), Cond.fieldLink RX3 34 "PedalBoard$Wire" "sort" "LPedalBoard$Sort;", Cond.methodLink RX3 176 yX1_codeOf, Cond.instanceMethod yX1_codeOf, Cond.selects RX1 yX1_codeOf yX1_codeOf, Cond.initialized RX1, Cond.code yX1_codeOf cX1_codeOf 3 (some .long), Cond.fieldLink RX1 37 "PedalBoard$Sort" "bits" "I", Cond.constantLong RX1 53 (4294967295), Cond.methodLink RX3 180 yX1_isIll, Cond.instanceMethod yX1_isIll, Cond.selects RX1 yX1_isIll yX1_isIll, Cond.code yX1_isIll cX1_isIll 3 (some .boolean), Cond.fieldLink RX1 47 "PedalBoard$Sort" "sizeMask" "J", Cond.methodLink RX1 55 yX1_isWhole, Cond.instanceMethod yX1_isWhole]
def wsL_law0_r5 : List Cond := [Cond.selects RX1 yX1_isWhole yX1_isWhole, Cond.code yX1_isWhole cX1_isWhole 1 (some .boolean), Cond.fieldLink RX1 41 "PedalBoard$Sort" "fraction" "I", Cond.methodLink RX1 59 yX1_infinite, Cond.instanceMethod yX1_infinite, Cond.selects RX1 yX1_infinite yX1_infinite, Cond.code yX1_infinite cX1_infinite 1 (some .long), Cond.constantLong RX1 51 (2), Cond.fieldLink RX1 44 "PedalBoard$Sort" "bias" "I", Cond.methodLink RX3 30 yX2_takeDry, Cond.instanceMethod yX2_takeDry, Cond.selects RX2 yX2_takeDry yX2_takeDry, Cond.code yX2_takeDry cX2_takeDry 4 (some .boolean), Cond.fieldLink RX2 34 "PedalBoard$Wire" "dry" "J", Cond.fieldLink RX2 38 "PedalBoard$Wire" "wet" "J", Cond.fieldLink RX2 41 "PedalBoard$Wire" "rounds" "I", Cond.fieldLink RX2 45 "PedalBoard$Wire" "traced" "Z", Cond.methodLink RL 65 yX4_put, Cond.instanceMethod yX4_put, Cond.selects RX4 yX4_put yX4_put, Cond.code yX4_put cX4_put 4 (some .boolean), Cond.methodLink RX4 142 yX4_isWire, Cond.static yX4_isWire, Cond.code yX4_isWire cX4_isWire 1 (some .boolean)]
def wsL_law0_r6 : List Cond := [Cond.methodLink RX4 146 yX4_coded, Cond.static yX4_coded, Cond.code yX4_coded cX4_coded 3 (some .long), Cond.constantLong RX4 75 (4294967295), Cond.methodLink RX4 150 yX4_isIll, Cond.static yX4_isIll, Cond.code yX4_isIll cX4_isIll 3 (some .boolean), Cond.methodLink RX4 87 yX4_size, Cond.static yX4_size, Cond.code yX4_size cX4_size 3 (some .long), Cond.constantLong RX4 85 (-1), Cond.methodLink RX4 77 yX4_bare, Cond.static yX4_bare, Cond.code yX4_bare cX4_bare 3 (some .long), Cond.methodLink RX4 81 yX4_signBit, Cond.static yX4_signBit, Cond.code yX4_signBit cX4_signBit 1 (some .long), Cond.constantLong RX4 67 (2147483648), Cond.constantLong RX4 69 (-9223372036854775808), Cond.methodLink RX4 90 yX4_endless, Cond.static yX4_endless, Cond.code yX4_endless cX4_endless 1 (some .long), Cond.constantLong RX4 71 (2139095040), Cond.constantLong RX4 73 (9218868437227405312)]
def wsL_law0_r7 : List Cond := [Cond.methodLink RX4 153 yX4_refuses, Cond.instanceMethod yX4_refuses, Cond.selects RX4 yX4_refuses yX4_refuses, Cond.code yX4_refuses cX4_refuses 3 (some .boolean), Cond.fieldLink RX4 63 "PedalBoardModel" "code" "I", Cond.methodLink RX4 157 yX4_come, Cond.instanceMethod yX4_come, Cond.selects RX4 yX4_come yX4_come, Cond.code yX4_come cX4_come 5 (some .boolean), Cond.methodLink RL 66 yX4_thrown, Cond.instanceMethod yX4_thrown, Cond.selects RX4 yX4_thrown yX4_thrown, Cond.code yX4_thrown cX4_thrown 1 (some .int), Cond.methodLink RL 70 yL_pedal, Cond.static yL_pedal, Cond.codeWith yL_pedal cL_pedal 7 (some .int) [(0, 14, 17, 13), (0, 14, 21, 19)], Cond.classLink RL 19 "java/lang/IllegalStateException", Cond.methodLink RL 15 yX3_pedal, Cond.instanceMethod yX3_pedal, Cond.selects RX3 yX3_pedal yX3_pedal, Cond.code yX3_pedal cX3_pedal 8 (some .int), Cond.classLink RX3 61 "java/lang/IllegalStateException", Cond.initialized "java/lang/IllegalStateException", Cond.fieldLink RX3 51 "PedalBoard$Wire" "pedals" "LPedalBoard$Pedals;"]
def wsL_law0_r8 : List Cond := [Cond.fieldLink RX3 66 "PedalBoard$Wire" "traced" "Z", Cond.methodLink RX3 38 yX1_hasKind, Cond.instanceMethod yX1_hasKind, Cond.selects RX1 yX1_hasKind yX1_hasKind, Cond.code yX1_hasKind cX1_hasKind 2 (some .boolean), Cond.methodLink RX3 55 yX0_isFull, Cond.instanceMethod yX0_isFull, Cond.selects RX0 yX0_isFull yX0_isFull, Cond.code yX0_isFull cX0_isFull 1 (some .boolean), Cond.fieldLink RX0 23 "PedalBoard$Pedals" "count" "I", Cond.methodLink RX3 70 yX0_append, Cond.instanceMethod yX0_append, Cond.selects RX0 yX0_append yX0_append, Cond.code yX0_append cX0_append 4 (some .int), Cond.methodLink RX0 27 yX0_isFull, Cond.methodLink RL 73 yX4_pedal, Cond.instanceMethod yX4_pedal, Cond.selects RX4 yX4_pedal yX4_pedal, Cond.code yX4_pedal cX4_pedal 7 (some .int), Cond.methodLink RX4 164 yX4_isKind, Cond.static yX4_isKind, Cond.code yX4_isKind cX4_isKind 2 (some .boolean), Cond.methodLink RL 74 yL_turn, Cond.static yL_turn]
def wsL_law0_r9 : List Cond := [Cond.codeWith yL_turn cL_turn 7 (some .int) [(0, 21, 24, 13)], Cond.methodLink RL 21 yX3_turn, Cond.instanceMethod yX3_turn, Cond.selects RX3 yX3_turn yX3_turn, Cond.code yX3_turn cX3_turn 9 (some .boolean), Cond.fieldLink RX3 78 "PedalBoard$Pedals" "knobs" "[J", Cond.methodLink RX3 74 yX3_needPedal, Cond.static yX3_needPedal, Cond.code yX3_needPedal cX3_needPedal 2 none, Cond.methodLink RX3 165 yX0_has, Cond.instanceMethod yX0_has, Cond.selects RX0 yX0_has yX0_has, Cond.code yX0_has cX0_has 2 (some .boolean), Cond.methodLink RL 76 yX4_turn, Cond.instanceMethod yX4_turn, Cond.selects RX4 yX4_turn yX4_turn, Cond.code yX4_turn cX4_turn 7 (some .boolean), Cond.methodLink RX4 168 yX4_isPedal, Cond.instanceMethod yX4_isPedal, Cond.selects RX4 yX4_isPedal yX4_isPedal, Cond.code yX4_isPedal cX4_isPedal 3 (some .boolean), Cond.methodLink RL 77 yL_tap, Cond.static yL_tap, Cond.codeWith yL_tap cL_tap 5 (some .int) [(0, 17, 20, 13)]]
def wsL_law0_r10 : List Cond := [Cond.methodLink RL 25 yX3_tap, Cond.instanceMethod yX3_tap, Cond.selects RX3 yX3_tap yX3_tap, Cond.code yX3_tap cX3_tap 4 (some .boolean), Cond.fieldLink RX3 82 "PedalBoard$Pedals" "on" "[Z", Cond.methodLink RL 80 yX4_tap, Cond.instanceMethod yX4_tap, Cond.selects RX4 yX4_tap yX4_tap, Cond.code yX4_tap cX4_tap 3 (some .boolean), Cond.methodLink RL 81 yL_swap, Cond.static yL_swap, Cond.codeWith yL_swap cL_swap 6 (some .int) [(0, 19, 22, 13)], Cond.methodLink RL 29 yX3_swap, Cond.instanceMethod yX3_swap, Cond.selects RX3 yX3_swap yX3_swap, Cond.code yX3_swap cX3_swap 6 (some .boolean), Cond.methodLink RX3 86 yX0_areUnlike, Cond.instanceMethod yX0_areUnlike, Cond.selects RX0 yX0_areUnlike yX0_areUnlike, Cond.code yX0_areUnlike cX0_areUnlike 3 (some .boolean), Cond.methodLink RX3 90 yX0_exchange, Cond.instanceMethod yX0_exchange, Cond.selects RX0 yX0_exchange yX0_exchange, Cond.code yX0_exchange cX0_exchange 7 none]
def wsL_law0_r11 : List Cond := [Cond.methodLink RL 83 yX4_swap, Cond.instanceMethod yX4_swap, Cond.selects RX4 yX4_swap yX4_swap, Cond.code yX4_swap cX4_swap 11 (some .boolean), Cond.methodLink RL 84 yL_play, Cond.static yL_play, Cond.codeWith yL_play cL_play 5 (some .int) [(0, 10, 13, 13)], Cond.methodLink RL 32 yX3_play, Cond.instanceMethod yX3_play, Cond.selects RX3 yX3_play yX3_play, Cond.code yX3_play cX3_play 6 (some .int), Cond.methodLink RX3 96 yX2_runRound, Cond.instanceMethod yX2_runRound, Cond.selects RX2 yX2_runRound yX2_runRound, Cond.code yX2_runRound cX2_runRound 5 (some .int), Cond.fieldLink RX2 49 "PedalBoard$Pedals" "count" "I", Cond.fieldLink RX2 52 "PedalBoard$Pedals" "on" "[Z", Cond.fieldLink RX2 55 "PedalBoard$Pedals" "kinds" "[I", Cond.fieldLink RX2 59 "PedalBoard$Pedals" "knobs" "[J", Cond.methodLink RX2 62 yX1_through, Cond.instanceMethod yX1_through, Cond.selects RX1 yX1_through yX1_through, Cond.code yX1_through cX1_through 6 (some .long), Cond.methodLink RX1 67 yX1_withOtherSign]
def wsL_law0_r12 : List Cond := [Cond.instanceMethod yX1_withOtherSign, Cond.selects RX1 yX1_withOtherSign yX1_withOtherSign, Cond.code yX1_withOtherSign cX1_withOtherSign 3 (some .long), Cond.constantLong RX1 92 (-1), Cond.methodLink RX1 89 yX1_fitted, Cond.instanceMethod yX1_fitted, Cond.selects RX1 yX1_fitted yX1_fitted, Cond.code yX1_fitted cX1_fitted 3 (some .long), Cond.methodLink RX1 70 yX1_isLess, Cond.instanceMethod yX1_isLess, Cond.selects RX1 yX1_isLess yX1_isLess, Cond.code yX1_isLess cX1_isLess 5 (some .boolean), Cond.methodLink RX1 63 yX1_rank, Cond.instanceMethod yX1_rank, Cond.selects RX1 yX1_rank yX1_rank, Cond.code yX1_rank cX1_rank 3 (some .long), Cond.methodLink RX1 74 yX1_wholeSize, Cond.instanceMethod yX1_wholeSize, Cond.selects RX1 yX1_wholeSize yX1_wholeSize, Cond.code yX1_wholeSize cX1_wholeSize 14 (some .long), Cond.methodLink RX1 94 yX1_oneHalf, Cond.instanceMethod yX1_oneHalf, Cond.selects RX1 yX1_oneHalf yX1_oneHalf, Cond.code yX1_oneHalf cX1_oneHalf 1 (some .long)]
def wsL_law0_r13 : List Cond := [Cond.methodLink RX1 97 yX1_growsAway, Cond.static yX1_growsAway, Cond.code yX1_growsAway cX1_growsAway 3 (some .boolean), Cond.methodLink RX1 86 yX1_one, Cond.instanceMethod yX1_one, Cond.selects RX1 yX1_one yX1_one, Cond.code yX1_one cX1_one 1 (some .long), Cond.methodLink RX1 101 yX1_isNearerAway, Cond.static yX1_isNearerAway, Cond.code yX1_isNearerAway cX1_isNearerAway 8 (some .boolean), Cond.methodLink RX1 78 yX1_withSignOf, Cond.instanceMethod yX1_withSignOf, Cond.selects RX1 yX1_withSignOf yX1_withSignOf, Cond.code yX1_withSignOf cX1_withSignOf 5 (some .long), Cond.methodLink RX1 82 yX1_isZero, Cond.instanceMethod yX1_isZero, Cond.selects RX1 yX1_isZero yX1_isZero, Cond.code yX1_isZero cX1_isZero 3 (some .boolean), Cond.methodLink RX2 68 yX2_keepPeaks, Cond.instanceMethod yX2_keepPeaks, Cond.selects RX2 yX2_keepPeaks yX2_keepPeaks, Cond.code yX2_keepPeaks cX2_keepPeaks 1 none, Cond.fieldLink RX2 75 "PedalBoard$Wire" "greatest" "J", Cond.fieldLink RX2 82 "PedalBoard$Wire" "least" "J"]
def wsL_law0_r14 : List Cond := [Cond.methodLink RX2 71 yX2_hasPeaks, Cond.instanceMethod yX2_hasPeaks, Cond.selects RX2 yX2_hasPeaks yX2_hasPeaks, Cond.code yX2_hasPeaks cX2_hasPeaks 1 (some .boolean), Cond.methodLink RX2 78 yX1_isLess, Cond.methodLink RL 86 yX4_play, Cond.instanceMethod yX4_play, Cond.selects RX4 yX4_play yX4_play, Cond.code yX4_play cX4_play 5 (some .int), Cond.methodLink RX4 175 yX4_round, Cond.instanceMethod yX4_round, Cond.selects RX4 yX4_round yX4_round, Cond.code yX4_round cX4_round 8 (some .int), Cond.methodLink RX4 171 yX4_works, Cond.static yX4_works, Cond.code yX4_works cX4_works 6 (some .long), Cond.methodLink RX4 113 yX4_upright, Cond.static yX4_upright, Cond.code yX4_upright cX4_upright 3 (some .long), Cond.methodLink RX4 100 yX4_negative, Cond.static yX4_negative, Cond.code yX4_negative cX4_negative 3 (some .long), Cond.methodLink RX4 97 yX4_asCode, Cond.static yX4_asCode]
def wsL_law0_r15 : List Cond := [Cond.code yX4_asCode cX4_asCode 3 (some .long), Cond.methodLink RX4 116 yX4_order, Cond.static yX4_order, Cond.code yX4_order cX4_order 11 (some .int), Cond.methodLink RX4 93 yX4_below, Cond.static yX4_below, Cond.code yX4_below cX4_below 3 (some .boolean), Cond.methodLink RX4 120 yX4_whole, Cond.static yX4_whole, Cond.code yX4_whole cX4_whole 19 (some .long), Cond.constantLong RX4 107 (1065353216), Cond.constantLong RX4 109 (4607182418800017408), Cond.constantLong RX4 111 (2), Cond.methodLink RX4 103 yX4_fractionBits, Cond.static yX4_fractionBits, Cond.code yX4_fractionBits cX4_fractionBits 1 (some .int), Cond.methodLink RX4 124 yX4_signOf, Cond.static yX4_signOf, Cond.code yX4_signOf cX4_signOf 5 (some .long), Cond.methodLink RL 87 yL_code, Cond.static yL_code, Cond.codeWith yL_code cL_code 5 (some .int) [(0, 9, 12, 13), (0, 9, 16, 19)], Cond.methodLink RL 36 yX3_code, Cond.instanceMethod yX3_code]
def wsL_law0_r16 : List Cond := [Cond.selects RX3 yX3_code yX3_code, Cond.code yX3_code cX3_code 4 (some .long), Cond.fieldLink RX3 102 "PedalBoard$Wire" "dry" "J", Cond.fieldLink RX3 106 "PedalBoard$Wire" "wet" "J", Cond.fieldLink RX3 114 "PedalBoard$Wire" "greatest" "J", Cond.fieldLink RX3 117 "PedalBoard$Wire" "least" "J", Cond.methodLink RX3 109 yX2_hasPeaks, Cond.methodLink RL 89 yX4_code, Cond.instanceMethod yX4_code, Cond.selects RX4 yX4_code yX4_code, Cond.code yX4_code cX4_code 4 (some .long), Cond.methodLink RL 90 yL_trace, Cond.static yL_trace, Cond.codeWith yL_trace cL_trace 5 (some .int) [(0, 9, 12, 13), (0, 9, 16, 19)], Cond.methodLink RL 40 yX3_trace, Cond.instanceMethod yX3_trace, Cond.selects RX3 yX3_trace yX3_trace, Cond.code yX3_trace cX3_trace 4 (some .long), Cond.fieldLink RX3 122 "PedalBoard$Wire" "outs" "[J", Cond.methodLink RL 92 yX4_trace, Cond.instanceMethod yX4_trace, Cond.selects RX4 yX4_trace yX4_trace, Cond.code yX4_trace cX4_trace 4 (some .long), Cond.methodLink RL 93 yX3_light]
def wsL_law0_r17 : List Cond := [Cond.instanceMethod yX3_light, Cond.selects RX3 yX3_light yX3_light, Cond.code yX3_light cX3_light 3 (some .boolean), Cond.methodLink RX3 128 yX2_isLit, Cond.instanceMethod yX2_isLit, Cond.selects RX2 yX2_isLit yX2_isLit, Cond.code yX2_isLit cX2_isLit 2 (some .boolean), Cond.methodLink RX2 85 yX0_has, Cond.methodLink RL 96 yX4_light, Cond.instanceMethod yX4_light, Cond.selects RX4 yX4_light yX4_light, Cond.code yX4_light cX4_light 3 (some .boolean), Cond.methodLink RL 97 yL_against, Cond.static yL_against, Cond.codeWith yL_against cL_against 4 (some .int) [(0, 9, 12, 13)], Cond.methodLink RL 43 yX3_against, Cond.instanceMethod yX3_against, Cond.selects RX3 yX3_against yX3_against, Cond.code yX3_against cX3_against 3 (some .int), Cond.methodLink RX3 131 yX1_isZero, Cond.methodLink RX3 134 yX1_isLess, Cond.methodLink RL 100 yX4_against, Cond.instanceMethod yX4_against, Cond.selects RX4 yX4_against yX4_against]
def wsL_law0_r18 : List Cond := [Cond.code yX4_against cX4_against 4 (some .int), Cond.methodLink RL 101 yL_save, Cond.static yL_save, Cond.codeWith yL_save cL_save 5 (some .int) [(0, 10, 13, 13)], Cond.methodLink RL 47 yX3_save, Cond.instanceMethod yX3_save, Cond.selects RX3 yX3_save yX3_save, Cond.code yX3_save cX3_save 5 (some .int), Cond.fieldLink RX3 146 "PedalBoard$Pedals" "count" "I", Cond.methodLink RX3 138 yX3_presetOf, Cond.static yX3_presetOf, Cond.code yX3_presetOf cX3_presetOf 2 (some (.object "PedalBoard$Pedals")), Cond.fieldLink RX3 172 "PedalBoard$Wire" "presets" "[LPedalBoard$Pedals;", Cond.methodLink RX3 142 yX0_become, Cond.instanceMethod yX0_become, Cond.selects RX0 yX0_become yX0_become, Cond.code yX0_become cX0_become 3 none, Cond.methodLink RL 103 yX4_save, Cond.instanceMethod yX4_save, Cond.selects RX4 yX4_save yX4_save, Cond.code yX4_save cX4_save 5 (some .int), Cond.methodLink RL 104 yL_recall, Cond.static yL_recall, Cond.codeWith yL_recall cL_recall 5 (some .int) [(0, 10, 13, 13)]]
def wsL_law0_r19 : List Cond := [Cond.methodLink RL 50 yX3_recall, Cond.instanceMethod yX3_recall, Cond.selects RX3 yX3_recall yX3_recall, Cond.code yX3_recall cX3_recall 5 (some .int), Cond.methodLink RL 106 yX4_recall, Cond.instanceMethod yX4_recall, Cond.selects RX4 yX4_recall yX4_recall, Cond.code yX4_recall cX4_recall 5 (some .int), Cond.methodLink RL 107 yL_patch, Cond.static yL_patch, Cond.codeWith yL_patch cL_patch 5 (some .int) [(0, 9, 12, 13)], Cond.methodLink RL 53 yX3_patch, Cond.instanceMethod yX3_patch, Cond.selects RX3 yX3_patch yX3_patch, Cond.code yX3_patch cX3_patch 7 (some .long), Cond.methodLink RX3 150 yX1_castTo, Cond.instanceMethod yX1_castTo, Cond.selects RX1 yX1_castTo yX1_castTo, Cond.code yX1_castTo cX1_castTo 4 (some .long), Cond.methodLink RX1 105 yX1_roundedWhole, Cond.instanceMethod yX1_roundedWhole, Cond.selects RX1 yX1_roundedWhole yX1_roundedWhole, Cond.code yX1_roundedWhole cX1_roundedWhole 3 (some .long), Cond.methodLink RX1 115 yX1_rounded]
def wsL_law0_r20 : List Cond := [Cond.instanceMethod yX1_rounded, Cond.selects RX1 yX1_rounded yX1_rounded, Cond.code yX1_rounded cX1_rounded 15 (some .long), Cond.methodLink RX1 119 Lib.Math.max.name, Cond.static Lib.Math.max.name, Cond.initialized "java/lang/Math", Cond.code Lib.Math.max.name Lib.Math.max.code 2 (some .int), Cond.constantLong RX1 130 (-9223372036854775808), Cond.methodLink RX1 132 Lib.MathLoose.min_long.x, Cond.static Lib.MathLoose.min_long.x, Cond.code Lib.MathLoose.min_long.x Lib.MathLoose.min_long.code 4 (some .long), Cond.methodLink RX1 125 yX1_isOverHalf, Cond.static yX1_isOverHalf, Cond.code yX1_isOverHalf cX1_isOverHalf 2 (some .boolean), Cond.methodLink RX1 108 yX1_cutTo, Cond.instanceMethod yX1_cutTo, Cond.selects RX1 yX1_cutTo yX1_cutTo, Cond.code yX1_cutTo cX1_cutTo 14 (some .long), Cond.methodLink RX1 112 yX1_refit, Cond.instanceMethod yX1_refit, Cond.selects RX1 yX1_refit yX1_refit, Cond.code yX1_refit cX1_refit 12 (some .long), Cond.methodLink RL 109 yX4_patch, Cond.instanceMethod yX4_patch]
def wsL_law0_r21 : List Cond := [Cond.selects RX4 yX4_patch yX4_patch, Cond.code yX4_patch cX4_patch 6 (some .long), Cond.methodLink RX4 160 yX4_castTo, Cond.static yX4_castTo, Cond.code yX4_castTo cX4_castTo 13 (some .long), Cond.methodLink RX4 135 yX4_near, Cond.static yX4_near, Cond.code yX4_near cX4_near 17 (some .long), Cond.methodLink RX4 127 yX4_bitsOf, Cond.static yX4_bitsOf, Cond.code yX4_bitsOf cX4_bitsOf 4 (some .int), Cond.methodLink RX4 139 yX4_held, Cond.static yX4_held, Cond.code yX4_held cX4_held 10 (some .long), Cond.constantLong RX4 131 (2147483647), Cond.constantLong RX4 133 (9223372036854775807), Cond.methodLink RL 110 yX3_about, Cond.instanceMethod yX3_about, Cond.selects RX3 yX3_about yX3_about, Cond.code yX3_about cX3_about 4 (some .int), Cond.fieldLink RX3 160 "PedalBoard$Wire" "rounds" "I", Cond.methodLink RX3 154 yX0_countOn, Cond.instanceMethod yX0_countOn, Cond.selects RX0 yX0_countOn yX0_countOn]
def wsL_law0_r22 : List Cond := [Cond.code yX0_countOn cX0_countOn 3 (some .int), Cond.methodLink RX3 157 yX2_countLit, Cond.instanceMethod yX2_countLit, Cond.selects RX2 yX2_countLit yX2_countLit, Cond.code yX2_countLit cX2_countLit 3 (some .int), Cond.methodLink RX2 89 yX2_isLit, Cond.methodLink RL 113 yX4_about, Cond.instanceMethod yX4_about, Cond.selects RX4 yX4_about yX4_about, Cond.code yX4_about cX4_about 5 (some .int)]
def wsL_law0 : List Cond := (wsL_law0_r1 ++ (wsL_law0_r2 ++ (wsL_law0_r3 ++ (wsL_law0_r4 ++ (wsL_law0_r5 ++ (wsL_law0_r6 ++ (wsL_law0_r7 ++ (wsL_law0_r8 ++ (wsL_law0_r9 ++ (wsL_law0_r10 ++ (wsL_law0_r11 ++ (wsL_law0_r12 ++ (wsL_law0_r13 ++ (wsL_law0_r14 ++ (wsL_law0_r15 ++ (wsL_law0_r16 ++ (wsL_law0_r17 ++ (wsL_law0_r18 ++ (wsL_law0_r19 ++ (wsL_law0_r20 ++ (wsL_law0_r21 ++ wsL_law0_r22))))))))))))))))))))) ++ wsX30 ++ wsX40 ++ wsX20 ++ wsX00 ++ ([] : List Cond)
def wsL_law : List Cond := wsL_law0 ++ (vx_atS RX3 48 "java/lang/IllegalArgumentException" ["java/lang/RuntimeException", "java/lang/Exception"]).filter goodWord ++ (vx_atS RX3 65 "java/lang/IllegalStateException" ["java/lang/RuntimeException", "java/lang/Exception"]).filter goodWord
end
section
set_option maxRecDepth 20000 in
theorem in_wsL_law0_r1 : ∀ w ∈ wsL_law0_r1, w ∈ lw_tbl := fun w h => (goodIn_p wsL_law0_r1 [37, 40, 48] (by decide +kernel) (by decide +kernel) w h).1
set_option maxRecDepth 20000 in
theorem in_wsL_law0_r2 : ∀ w ∈ wsL_law0_r2, w ∈ lw_tbl := fun w h => (goodIn_p wsL_law0_r2 [54, 492] (by decide +kernel) (by decide +kernel) w h).1
set_option maxRecDepth 20000 in
theorem in_wsL_law0_r3 : ∀ w ∈ wsL_law0_r3, w ∈ lw_tbl := fun w h => (goodIn_p wsL_law0_r3 [163] (by decide +kernel) (by decide +kernel) w h).1
set_option maxRecDepth 20000 in
theorem in_wsL_law0_r4 : ∀ w ∈ wsL_law0_r4, w ∈ lw_tbl := fun w h => (goodIn_p wsL_law0_r4 [167, 134, 237, 241, 246] (by decide +kernel) (by decide +kernel) w h).1
set_option maxRecDepth 20000 in
theorem in_wsL_law0_r5 : ∀ w ∈ wsL_law0_r5, w ∈ lw_tbl := fun w h => (goodIn_p wsL_law0_r5 [251, 255, 261, 556, 559] (by decide +kernel) (by decide +kernel) w h).1
set_option maxRecDepth 20000 in
theorem in_wsL_law0_r6 : ∀ w ∈ wsL_law0_r6, w ∈ lw_tbl := fun w h => (goodIn_p wsL_law0_r6 [562, 566, 569, 572, 575, 581] (by decide +kernel) (by decide +kernel) w h).1
set_option maxRecDepth 20000 in
theorem in_wsL_law0_r7 : ∀ w ∈ wsL_law0_r7, w ∈ lw_tbl := fun w h => (goodIn_p wsL_law0_r7 [587, 591, 552, 269] (by decide +kernel) (by decide +kernel) w h).1
set_option maxRecDepth 20000 in
theorem in_wsL_law0_r8 : ∀ w ∈ wsL_law0_r8, w ∈ lw_tbl := fun w h => (goodIn_p wsL_law0_r8 [273, 278, 298, 622, 625] (by decide +kernel) (by decide +kernel) w h).1
set_option maxRecDepth 20000 in
theorem in_wsL_law0_r9 : ∀ w ∈ wsL_law0_r9, w ∈ lw_tbl := fun w h => (goodIn_p wsL_law0_r9 [306, 309, 142, 629, 633] (by decide +kernel) (by decide +kernel) w h).1
set_option maxRecDepth 20000 in
theorem in_wsL_law0_r10 : ∀ w ∈ wsL_law0_r10, w ∈ lw_tbl := fun w h => (goodIn_p wsL_law0_r10 [318, 637, 325, 329, 333] (by decide +kernel) (by decide +kernel) w h).1
set_option maxRecDepth 20000 in
theorem in_wsL_law0_r11 : ∀ w ∈ wsL_law0_r11, w ∈ lw_tbl := fun w h => (goodIn_p wsL_law0_r11 [641, 340, 345, 349] (by decide +kernel) (by decide +kernel) w h).1
set_option maxRecDepth 20000 in
theorem in_wsL_law0_r12 : ∀ w ∈ wsL_law0_r12, w ∈ lw_tbl := fun w h => (goodIn_p wsL_law0_r12 [353, 357, 362, 366, 370, 374] (by decide +kernel) (by decide +kernel) w h).1
set_option maxRecDepth 20000 in
theorem in_wsL_law0_r13 : ∀ w ∈ wsL_law0_r13, w ∈ lw_tbl := fun w h => (goodIn_p wsL_law0_r13 [377, 381, 384, 388, 392, 396] (by decide +kernel) (by decide +kernel) w h).1
set_option maxRecDepth 20000 in
theorem in_wsL_law0_r14 : ∀ w ∈ wsL_law0_r14, w ∈ lw_tbl := fun w h => (goodIn_p wsL_law0_r14 [400, 645, 649, 652, 655, 658] (by decide +kernel) (by decide +kernel) w h).1
set_option maxRecDepth 20000 in
theorem in_wsL_law0_r15 : ∀ w ∈ wsL_law0_r15, w ∈ lw_tbl := fun w h => (goodIn_p wsL_law0_r15 [604, 661, 613, 664, 607, 670] (by decide +kernel) (by decide +kernel) w h).1
set_option maxRecDepth 20000 in
theorem in_wsL_law0_r16 : ∀ w ∈ wsL_law0_r16, w ∈ lw_tbl := fun w h => (goodIn_p wsL_law0_r16 [408, 674, 418, 678] (by decide +kernel) (by decide +kernel) w h).1
set_option maxRecDepth 20000 in
theorem in_wsL_law0_r17 : ∀ w ∈ wsL_law0_r17, w ∈ lw_tbl := fun w h => (goodIn_p wsL_law0_r17 [131, 138, 682, 426] (by decide +kernel) (by decide +kernel) w h).1
set_option maxRecDepth 20000 in
theorem in_wsL_law0_r18 : ∀ w ∈ wsL_law0_r18, w ∈ lw_tbl := fun w h => (goodIn_p wsL_law0_r18 [686, 435, 438, 443, 690] (by decide +kernel) (by decide +kernel) w h).1
set_option maxRecDepth 20000 in
theorem in_wsL_law0_r19 : ∀ w ∈ wsL_law0_r19, w ∈ lw_tbl := fun w h => (goodIn_p wsL_law0_r19 [450, 694, 457, 461, 465] (by decide +kernel) (by decide +kernel) w h).1
set_option maxRecDepth 20000 in
theorem in_wsL_law0_r20 : ∀ w ∈ wsL_law0_r20, w ∈ lw_tbl := fun w h => (goodIn_p wsL_law0_r20 [469, 472, 479, 475, 483, 487] (by decide +kernel) (by decide +kernel) w h).1
set_option maxRecDepth 20000 in
theorem in_wsL_law0_r21 : ∀ w ∈ wsL_law0_r21, w ∈ lw_tbl := fun w h => (goodIn_p wsL_law0_r21 [595, 598, 601, 610, 616, 146] (by decide +kernel) (by decide +kernel) w h).1
set_option maxRecDepth 20000 in
theorem in_wsL_law0_r22 : ∀ w ∈ wsL_law0_r22, w ∈ lw_tbl := fun w h => (goodIn_p wsL_law0_r22 [150, 154, 698] (by decide +kernel) (by decide +kernel) w h).1
theorem in_wsX30 : ∀ w ∈ wsX30, w ∈ lw_tbl := by decide +kernel
theorem in_wsX40 : ∀ w ∈ wsX40, w ∈ lw_tbl := by decide +kernel
theorem in_wsX20 : ∀ w ∈ wsX20, w ∈ lw_tbl := by decide +kernel
theorem in_wsX00 : ∀ w ∈ wsX00, w ∈ lw_tbl := by decide +kernel
theorem wsL_law_in0 : ∀ w ∈ wsL_law0, w ∈ lw_tbl := fun w h => (fun h => (List.mem_append.mp h).elim (fun h => (List.mem_append.mp h).elim (fun h => (List.mem_append.mp h).elim (fun h => (List.mem_append.mp h).elim (fun h => (List.mem_append.mp h).elim (fun h => (List.mem_append.mp h).elim (fun h => in_wsL_law0_r1 w h) (fun h => (List.mem_append.mp h).elim (fun h => in_wsL_law0_r2 w h) (fun h => (List.mem_append.mp h).elim (fun h => in_wsL_law0_r3 w h) (fun h => (List.mem_append.mp h).elim (fun h => in_wsL_law0_r4 w h) (fun h => (List.mem_append.mp h).elim (fun h => in_wsL_law0_r5 w h) (fun h => (List.mem_append.mp h).elim (fun h => in_wsL_law0_r6 w h) (fun h => (List.mem_append.mp h).elim (fun h => in_wsL_law0_r7 w h) (fun h => (List.mem_append.mp h).elim (fun h => in_wsL_law0_r8 w h) (fun h => (List.mem_append.mp h).elim (fun h => in_wsL_law0_r9 w h) (fun h => (List.mem_append.mp h).elim (fun h => in_wsL_law0_r10 w h) (fun h => (List.mem_append.mp h).elim (fun h => in_wsL_law0_r11 w h) (fun h => (List.mem_append.mp h).elim (fun h => in_wsL_law0_r12 w h) (fun h => (List.mem_append.mp h).elim (fun h => in_wsL_law0_r13 w h) (fun h => (List.mem_append.mp h).elim (fun h => in_wsL_law0_r14 w h) (fun h => (List.mem_append.mp h).elim (fun h => in_wsL_law0_r15 w h) (fun h => (List.mem_append.mp h).elim (fun h => in_wsL_law0_r16 w h) (fun h => (List.mem_append.mp h).elim (fun h => in_wsL_law0_r17 w h) (fun h => (List.mem_append.mp h).elim (fun h => in_wsL_law0_r18 w h) (fun h => (List.mem_append.mp h).elim (fun h => in_wsL_law0_r19 w h) (fun h => (List.mem_append.mp h).elim (fun h => in_wsL_law0_r20 w h) (fun h => (List.mem_append.mp h).elim (fun h => in_wsL_law0_r21 w h) (fun h => in_wsL_law0_r22 w h)))))))))))))))))))))) (fun h => in_wsX30 w h)) (fun h => in_wsX40 w h)) (fun h => in_wsX20 w h)) (fun h => in_wsX00 w h)) (fun h => absurd h List.not_mem_nil)) h
theorem wsL_law_x0 : ∀ w ∈ (vx_atS RX3 48 "java/lang/IllegalArgumentException" ["java/lang/RuntimeException", "java/lang/Exception"]).filter goodWord, w ∈ lw_tbl := by decide +kernel
theorem wsL_law_x1 : ∀ w ∈ (vx_atS RX3 65 "java/lang/IllegalStateException" ["java/lang/RuntimeException", "java/lang/Exception"]).filter goodWord, w ∈ lw_tbl := by decide +kernel
theorem wsL_law_in : ∀ w ∈ wsL_law, w ∈ lw_tbl := fun w h => (List.mem_append.mp h).elim (fun h => (List.mem_append.mp h).elim (fun h => wsL_law_in0 w h) (fun h => wsL_law_x0 w h)) (fun h => wsL_law_x1 w h)
theorem inlX0 : ∀ w ∈ wsX00, w ∈ wsL_law := fun _ h => List.mem_append_left _ (List.mem_append_left _ (List.mem_append_left _ (List.mem_append_right _ h)))
theorem inX0 : ∀ w ∈ wsX00, w ∈ lw_tbl := fun w h => wsL_law_in w (inlX0 w h)
theorem inX1 : ∀ w ∈ wsX10, w ∈ lw_tbl := by decide +kernel
theorem inlX2 : ∀ w ∈ wsX20, w ∈ wsL_law := fun _ h => List.mem_append_left _ (List.mem_append_left _ (List.mem_append_left _ (List.mem_append_left _ (List.mem_append_right _ h))))
theorem inX2 : ∀ w ∈ wsX20, w ∈ lw_tbl := fun w h => wsL_law_in w (inlX2 w h)
theorem inlX3 : ∀ w ∈ wsX30, w ∈ wsL_law := fun _ h => List.mem_append_left _ (List.mem_append_left _ (List.mem_append_left _ (List.mem_append_left _ (List.mem_append_left _ (List.mem_append_left _ (List.mem_append_right _ h))))))
theorem inX3 : ∀ w ∈ wsX30, w ∈ lw_tbl := fun w h => wsL_law_in w (inlX3 w h)
theorem inlX4 : ∀ w ∈ wsX40, w ∈ wsL_law := fun _ h => List.mem_append_left _ (List.mem_append_left _ (List.mem_append_left _ (List.mem_append_left _ (List.mem_append_left _ (List.mem_append_right _ h)))))
theorem inX4 : ∀ w ∈ wsX40, w ∈ lw_tbl := fun w h => wsL_law_in w (inlX4 w h)
theorem inJx29ce0 : ∀ w ∈ wsJx29ce00, w ∈ lw_tbl := by decide +kernel
theorem inJ9 : ∀ w ∈ wsJ90, w ∈ lw_tbl := by decide +kernel
theorem inJ0 : ∀ w ∈ wsJ00, w ∈ lw_tbl := by decide +kernel
end
section
theorem dX0_init_0 : decode cX0_init 0 = .ok (.aload_n 0, 1) := by decide +kernel
theorem dX0_init_1 : decode cX0_init 1 = .ok (.invokespecial 3, 3) := by decide +kernel
theorem dX0_init_4 : decode cX0_init 4 = .ok (.aload_n 0, 1) := by decide +kernel
theorem dX0_init_5 : decode cX0_init 5 = .ok (.bipush 12, 2) := by decide +kernel
theorem dX0_init_7 : decode cX0_init 7 = .ok (.newarray .int, 2) := by decide +kernel
theorem dX0_init_9 : decode cX0_init 9 = .ok (.putfield 9, 3) := by decide +kernel
theorem dX0_init_12 : decode cX0_init 12 = .ok (.aload_n 0, 1) := by decide +kernel
theorem dX0_init_13 : decode cX0_init 13 = .ok (.bipush 12, 2) := by decide +kernel
theorem dX0_init_15 : decode cX0_init 15 = .ok (.newarray .long, 2) := by decide +kernel
theorem dX0_init_17 : decode cX0_init 17 = .ok (.putfield 15, 3) := by decide +kernel
theorem dX0_init_20 : decode cX0_init 20 = .ok (.aload_n 0, 1) := by decide +kernel
theorem dX0_init_21 : decode cX0_init 21 = .ok (.bipush 12, 2) := by decide +kernel
theorem dX0_init_23 : decode cX0_init 23 = .ok (.newarray .boolean, 2) := by decide +kernel
theorem dX0_init_25 : decode cX0_init 25 = .ok (.putfield 19, 3) := by decide +kernel
theorem dX0_init_28 : decode cX0_init 28 = .ok (.return_, 1) := by decide +kernel
theorem dX0_has_0 : decode cX0_has 0 = .ok (.iload_n 1, 1) := by decide +kernel
theorem dX0_has_1 : decode cX0_has 1 = .ok (.ifCond .lt 15, 3) := by decide +kernel
theorem dX0_has_4 : decode cX0_has 4 = .ok (.iload_n 1, 1) := by decide +kernel
theorem dX0_has_5 : decode cX0_has 5 = .ok (.aload_n 0, 1) := by decide +kernel
theorem dX0_has_6 : decode cX0_has 6 = .ok (.getfield 23, 3) := by decide +kernel
theorem dX0_has_9 : decode cX0_has 9 = .ok (.if_icmp .ge 7, 3) := by decide +kernel
theorem dX0_has_12 : decode cX0_has 12 = .ok (.iconst 1, 1) := by decide +kernel
theorem dX0_has_13 : decode cX0_has 13 = .ok (.goto 4, 3) := by decide +kernel
theorem dX0_has_16 : decode cX0_has 16 = .ok (.iconst 0, 1) := by decide +kernel
theorem dX0_has_17 : decode cX0_has 17 = .ok (.ireturn, 1) := by decide +kernel
theorem dX0_isFull_0 : decode cX0_isFull 0 = .ok (.aload_n 0, 1) := by decide +kernel
theorem dX0_isFull_1 : decode cX0_isFull 1 = .ok (.getfield 23, 3) := by decide +kernel
theorem dX0_isFull_4 : decode cX0_isFull 4 = .ok (.bipush 12, 2) := by decide +kernel
theorem dX0_isFull_6 : decode cX0_isFull 6 = .ok (.if_icmp .lt 7, 3) := by decide +kernel
theorem dX0_isFull_9 : decode cX0_isFull 9 = .ok (.iconst 1, 1) := by decide +kernel
theorem dX0_isFull_10 : decode cX0_isFull 10 = .ok (.goto 4, 3) := by decide +kernel
theorem dX0_isFull_13 : decode cX0_isFull 13 = .ok (.iconst 0, 1) := by decide +kernel
theorem dX0_isFull_14 : decode cX0_isFull 14 = .ok (.ireturn, 1) := by decide +kernel
set_option maxRecDepth 20000 in
theorem ggX0_append_X0_isFull : GoodIn wsX0_append wsX0_isFull := goodIn_r _ [9, 2, 10, 11, 12, 13] (by decide +kernel) (by decide +kernel)
set_option maxRecDepth 20000 in
theorem gX0_append_X0_isFull : GoodIn wsX0_append (wsV RX0 27 RX0 yX0_isFull wsX0_isFull) := goodIn_app (goodIn_of _ (by decide +kernel)) ggX0_append_X0_isFull
theorem dX0_append_0 : decode cX0_append 0 = .ok (.aload_n 0, 1) := by decide +kernel
theorem dX0_append_1 : decode cX0_append 1 = .ok (.invokevirtual 27, 3) := by decide +kernel
theorem dX0_append_4 : decode cX0_append 4 = .ok (.ifCond .eq 5, 3) := by decide +kernel
theorem dX0_append_7 : decode cX0_append 7 = .ok (.iconst (-1), 1) := by decide +kernel
theorem dX0_append_8 : decode cX0_append 8 = .ok (.ireturn, 1) := by decide +kernel
theorem dX0_append_9 : decode cX0_append 9 = .ok (.aload_n 0, 1) := by decide +kernel
theorem dX0_append_10 : decode cX0_append 10 = .ok (.getfield 9, 3) := by decide +kernel
theorem dX0_append_13 : decode cX0_append 13 = .ok (.aload_n 0, 1) := by decide +kernel
theorem dX0_append_14 : decode cX0_append 14 = .ok (.getfield 23, 3) := by decide +kernel
theorem dX0_append_17 : decode cX0_append 17 = .ok (.iload_n 1, 1) := by decide +kernel
theorem dX0_append_18 : decode cX0_append 18 = .ok (.iastore, 1) := by decide +kernel
theorem dX0_append_19 : decode cX0_append 19 = .ok (.aload_n 0, 1) := by decide +kernel
theorem dX0_append_20 : decode cX0_append 20 = .ok (.getfield 15, 3) := by decide +kernel
theorem dX0_append_23 : decode cX0_append 23 = .ok (.aload_n 0, 1) := by decide +kernel
theorem dX0_append_24 : decode cX0_append 24 = .ok (.getfield 23, 3) := by decide +kernel
theorem dX0_append_27 : decode cX0_append 27 = .ok (.lload_n 2, 1) := by decide +kernel
theorem dX0_append_28 : decode cX0_append 28 = .ok (.lastore, 1) := by decide +kernel
theorem dX0_append_29 : decode cX0_append 29 = .ok (.aload_n 0, 1) := by decide +kernel
theorem dX0_append_30 : decode cX0_append 30 = .ok (.getfield 19, 3) := by decide +kernel
theorem dX0_append_33 : decode cX0_append 33 = .ok (.aload_n 0, 1) := by decide +kernel
theorem dX0_append_34 : decode cX0_append 34 = .ok (.getfield 23, 3) := by decide +kernel
theorem dX0_append_37 : decode cX0_append 37 = .ok (.iconst 1, 1) := by decide +kernel
theorem dX0_append_38 : decode cX0_append 38 = .ok (.bastore, 1) := by decide +kernel
theorem dX0_append_39 : decode cX0_append 39 = .ok (.aload_n 0, 1) := by decide +kernel
theorem dX0_append_40 : decode cX0_append 40 = .ok (.dup, 1) := by decide +kernel
theorem dX0_append_41 : decode cX0_append 41 = .ok (.getfield 23, 3) := by decide +kernel
theorem dX0_append_44 : decode cX0_append 44 = .ok (.iconst 1, 1) := by decide +kernel
theorem dX0_append_45 : decode cX0_append 45 = .ok (.iadd, 1) := by decide +kernel
theorem dX0_append_46 : decode cX0_append 46 = .ok (.putfield 23, 3) := by decide +kernel
theorem dX0_append_49 : decode cX0_append 49 = .ok (.aload_n 0, 1) := by decide +kernel
theorem dX0_append_50 : decode cX0_append 50 = .ok (.getfield 23, 3) := by decide +kernel
theorem dX0_append_53 : decode cX0_append 53 = .ok (.iconst 1, 1) := by decide +kernel
theorem dX0_append_54 : decode cX0_append 54 = .ok (.isub, 1) := by decide +kernel
theorem dX0_append_55 : decode cX0_append 55 = .ok (.ireturn, 1) := by decide +kernel
theorem dX0_areUnlike_0 : decode cX0_areUnlike 0 = .ok (.aload_n 0, 1) := by decide +kernel
theorem dX0_areUnlike_1 : decode cX0_areUnlike 1 = .ok (.getfield 9, 3) := by decide +kernel
theorem dX0_areUnlike_4 : decode cX0_areUnlike 4 = .ok (.iload_n 1, 1) := by decide +kernel
theorem dX0_areUnlike_5 : decode cX0_areUnlike 5 = .ok (.iaload, 1) := by decide +kernel
theorem dX0_areUnlike_6 : decode cX0_areUnlike 6 = .ok (.aload_n 0, 1) := by decide +kernel
theorem dX0_areUnlike_7 : decode cX0_areUnlike 7 = .ok (.getfield 9, 3) := by decide +kernel
theorem dX0_areUnlike_10 : decode cX0_areUnlike 10 = .ok (.iload_n 2, 1) := by decide +kernel
theorem dX0_areUnlike_11 : decode cX0_areUnlike 11 = .ok (.iaload, 1) := by decide +kernel
theorem dX0_areUnlike_12 : decode cX0_areUnlike 12 = .ok (.if_icmp .ne 34, 3) := by decide +kernel
theorem dX0_areUnlike_15 : decode cX0_areUnlike 15 = .ok (.aload_n 0, 1) := by decide +kernel
theorem dX0_areUnlike_16 : decode cX0_areUnlike 16 = .ok (.getfield 15, 3) := by decide +kernel
theorem dX0_areUnlike_19 : decode cX0_areUnlike 19 = .ok (.iload_n 1, 1) := by decide +kernel
theorem dX0_areUnlike_20 : decode cX0_areUnlike 20 = .ok (.laload, 1) := by decide +kernel
theorem dX0_areUnlike_21 : decode cX0_areUnlike 21 = .ok (.aload_n 0, 1) := by decide +kernel
theorem dX0_areUnlike_22 : decode cX0_areUnlike 22 = .ok (.getfield 15, 3) := by decide +kernel
theorem dX0_areUnlike_25 : decode cX0_areUnlike 25 = .ok (.iload_n 2, 1) := by decide +kernel
theorem dX0_areUnlike_26 : decode cX0_areUnlike 26 = .ok (.laload, 1) := by decide +kernel
theorem dX0_areUnlike_27 : decode cX0_areUnlike 27 = .ok (.lcmp, 1) := by decide +kernel
theorem dX0_areUnlike_28 : decode cX0_areUnlike 28 = .ok (.ifCond .ne 18, 3) := by decide +kernel
theorem dX0_areUnlike_31 : decode cX0_areUnlike 31 = .ok (.aload_n 0, 1) := by decide +kernel
theorem dX0_areUnlike_32 : decode cX0_areUnlike 32 = .ok (.getfield 19, 3) := by decide +kernel
theorem dX0_areUnlike_35 : decode cX0_areUnlike 35 = .ok (.iload_n 1, 1) := by decide +kernel
theorem dX0_areUnlike_36 : decode cX0_areUnlike 36 = .ok (.baload, 1) := by decide +kernel
theorem dX0_areUnlike_37 : decode cX0_areUnlike 37 = .ok (.aload_n 0, 1) := by decide +kernel
theorem dX0_areUnlike_38 : decode cX0_areUnlike 38 = .ok (.getfield 19, 3) := by decide +kernel
theorem dX0_areUnlike_41 : decode cX0_areUnlike 41 = .ok (.iload_n 2, 1) := by decide +kernel
theorem dX0_areUnlike_42 : decode cX0_areUnlike 42 = .ok (.baload, 1) := by decide +kernel
theorem dX0_areUnlike_43 : decode cX0_areUnlike 43 = .ok (.if_icmp .eq 7, 3) := by decide +kernel
theorem dX0_areUnlike_46 : decode cX0_areUnlike 46 = .ok (.iconst 1, 1) := by decide +kernel
theorem dX0_areUnlike_47 : decode cX0_areUnlike 47 = .ok (.goto 4, 3) := by decide +kernel
theorem dX0_areUnlike_50 : decode cX0_areUnlike 50 = .ok (.iconst 0, 1) := by decide +kernel
theorem dX0_areUnlike_51 : decode cX0_areUnlike 51 = .ok (.ireturn, 1) := by decide +kernel
theorem dX0_exchange_0 : decode cX0_exchange 0 = .ok (.aload_n 0, 1) := by decide +kernel
theorem dX0_exchange_1 : decode cX0_exchange 1 = .ok (.getfield 9, 3) := by decide +kernel
theorem dX0_exchange_4 : decode cX0_exchange 4 = .ok (.iload_n 1, 1) := by decide +kernel
theorem dX0_exchange_5 : decode cX0_exchange 5 = .ok (.iaload, 1) := by decide +kernel
theorem dX0_exchange_6 : decode cX0_exchange 6 = .ok (.istore_n 3, 1) := by decide +kernel
theorem dX0_exchange_7 : decode cX0_exchange 7 = .ok (.aload_n 0, 1) := by decide +kernel
theorem dX0_exchange_8 : decode cX0_exchange 8 = .ok (.getfield 9, 3) := by decide +kernel
theorem dX0_exchange_11 : decode cX0_exchange 11 = .ok (.iload_n 1, 1) := by decide +kernel
theorem dX0_exchange_12 : decode cX0_exchange 12 = .ok (.aload_n 0, 1) := by decide +kernel
theorem dX0_exchange_13 : decode cX0_exchange 13 = .ok (.getfield 9, 3) := by decide +kernel
theorem dX0_exchange_16 : decode cX0_exchange 16 = .ok (.iload_n 2, 1) := by decide +kernel
theorem dX0_exchange_17 : decode cX0_exchange 17 = .ok (.iaload, 1) := by decide +kernel
theorem dX0_exchange_18 : decode cX0_exchange 18 = .ok (.iastore, 1) := by decide +kernel
theorem dX0_exchange_19 : decode cX0_exchange 19 = .ok (.aload_n 0, 1) := by decide +kernel
theorem dX0_exchange_20 : decode cX0_exchange 20 = .ok (.getfield 9, 3) := by decide +kernel
theorem dX0_exchange_23 : decode cX0_exchange 23 = .ok (.iload_n 2, 1) := by decide +kernel
theorem dX0_exchange_24 : decode cX0_exchange 24 = .ok (.iload_n 3, 1) := by decide +kernel
theorem dX0_exchange_25 : decode cX0_exchange 25 = .ok (.iastore, 1) := by decide +kernel
theorem dX0_exchange_26 : decode cX0_exchange 26 = .ok (.aload_n 0, 1) := by decide +kernel
theorem dX0_exchange_27 : decode cX0_exchange 27 = .ok (.getfield 15, 3) := by decide +kernel
theorem dX0_exchange_30 : decode cX0_exchange 30 = .ok (.iload_n 1, 1) := by decide +kernel
theorem dX0_exchange_31 : decode cX0_exchange 31 = .ok (.laload, 1) := by decide +kernel
theorem dX0_exchange_32 : decode cX0_exchange 32 = .ok (.lstore 4, 2) := by decide +kernel
theorem dX0_exchange_34 : decode cX0_exchange 34 = .ok (.aload_n 0, 1) := by decide +kernel
theorem dX0_exchange_35 : decode cX0_exchange 35 = .ok (.getfield 15, 3) := by decide +kernel
theorem dX0_exchange_38 : decode cX0_exchange 38 = .ok (.iload_n 1, 1) := by decide +kernel
theorem dX0_exchange_39 : decode cX0_exchange 39 = .ok (.aload_n 0, 1) := by decide +kernel
theorem dX0_exchange_40 : decode cX0_exchange 40 = .ok (.getfield 15, 3) := by decide +kernel
theorem dX0_exchange_43 : decode cX0_exchange 43 = .ok (.iload_n 2, 1) := by decide +kernel
theorem dX0_exchange_44 : decode cX0_exchange 44 = .ok (.laload, 1) := by decide +kernel
theorem dX0_exchange_45 : decode cX0_exchange 45 = .ok (.lastore, 1) := by decide +kernel
theorem dX0_exchange_46 : decode cX0_exchange 46 = .ok (.aload_n 0, 1) := by decide +kernel
theorem dX0_exchange_47 : decode cX0_exchange 47 = .ok (.getfield 15, 3) := by decide +kernel
theorem dX0_exchange_50 : decode cX0_exchange 50 = .ok (.iload_n 2, 1) := by decide +kernel
theorem dX0_exchange_51 : decode cX0_exchange 51 = .ok (.lload 4, 2) := by decide +kernel
theorem dX0_exchange_53 : decode cX0_exchange 53 = .ok (.lastore, 1) := by decide +kernel
theorem dX0_exchange_54 : decode cX0_exchange 54 = .ok (.aload_n 0, 1) := by decide +kernel
theorem dX0_exchange_55 : decode cX0_exchange 55 = .ok (.getfield 19, 3) := by decide +kernel
theorem dX0_exchange_58 : decode cX0_exchange 58 = .ok (.iload_n 1, 1) := by decide +kernel
theorem dX0_exchange_59 : decode cX0_exchange 59 = .ok (.baload, 1) := by decide +kernel
theorem dX0_exchange_60 : decode cX0_exchange 60 = .ok (.istore 6, 2) := by decide +kernel
theorem dX0_exchange_62 : decode cX0_exchange 62 = .ok (.aload_n 0, 1) := by decide +kernel
theorem dX0_exchange_63 : decode cX0_exchange 63 = .ok (.getfield 19, 3) := by decide +kernel
theorem dX0_exchange_66 : decode cX0_exchange 66 = .ok (.iload_n 1, 1) := by decide +kernel
theorem dX0_exchange_67 : decode cX0_exchange 67 = .ok (.aload_n 0, 1) := by decide +kernel
theorem dX0_exchange_68 : decode cX0_exchange 68 = .ok (.getfield 19, 3) := by decide +kernel
theorem dX0_exchange_71 : decode cX0_exchange 71 = .ok (.iload_n 2, 1) := by decide +kernel
theorem dX0_exchange_72 : decode cX0_exchange 72 = .ok (.baload, 1) := by decide +kernel
theorem dX0_exchange_73 : decode cX0_exchange 73 = .ok (.bastore, 1) := by decide +kernel
theorem dX0_exchange_74 : decode cX0_exchange 74 = .ok (.aload_n 0, 1) := by decide +kernel
theorem dX0_exchange_75 : decode cX0_exchange 75 = .ok (.getfield 19, 3) := by decide +kernel
theorem dX0_exchange_78 : decode cX0_exchange 78 = .ok (.iload_n 2, 1) := by decide +kernel
theorem dX0_exchange_79 : decode cX0_exchange 79 = .ok (.iload 6, 2) := by decide +kernel
theorem dX0_exchange_81 : decode cX0_exchange 81 = .ok (.bastore, 1) := by decide +kernel
theorem dX0_exchange_82 : decode cX0_exchange 82 = .ok (.return_, 1) := by decide +kernel
theorem dX0_become_0 : decode cX0_become 0 = .ok (.iconst 0, 1) := by decide +kernel
theorem dX0_become_1 : decode cX0_become 1 = .ok (.istore_n 2, 1) := by decide +kernel
theorem dX0_become_2 : decode cX0_become 2 = .ok (.iload_n 2, 1) := by decide +kernel
theorem dX0_become_3 : decode cX0_become 3 = .ok (.aload_n 1, 1) := by decide +kernel
theorem dX0_become_4 : decode cX0_become 4 = .ok (.getfield 23, 3) := by decide +kernel
theorem dX0_become_7 : decode cX0_become 7 = .ok (.if_icmp .ge 45, 3) := by decide +kernel
theorem dX0_become_10 : decode cX0_become 10 = .ok (.aload_n 0, 1) := by decide +kernel
theorem dX0_become_11 : decode cX0_become 11 = .ok (.getfield 9, 3) := by decide +kernel
theorem dX0_become_14 : decode cX0_become 14 = .ok (.iload_n 2, 1) := by decide +kernel
theorem dX0_become_15 : decode cX0_become 15 = .ok (.aload_n 1, 1) := by decide +kernel
theorem dX0_become_16 : decode cX0_become 16 = .ok (.getfield 9, 3) := by decide +kernel
theorem dX0_become_19 : decode cX0_become 19 = .ok (.iload_n 2, 1) := by decide +kernel
theorem dX0_become_20 : decode cX0_become 20 = .ok (.iaload, 1) := by decide +kernel
theorem dX0_become_21 : decode cX0_become 21 = .ok (.iastore, 1) := by decide +kernel
theorem dX0_become_22 : decode cX0_become 22 = .ok (.aload_n 0, 1) := by decide +kernel
theorem dX0_become_23 : decode cX0_become 23 = .ok (.getfield 15, 3) := by decide +kernel
theorem dX0_become_26 : decode cX0_become 26 = .ok (.iload_n 2, 1) := by decide +kernel
theorem dX0_become_27 : decode cX0_become 27 = .ok (.aload_n 1, 1) := by decide +kernel
theorem dX0_become_28 : decode cX0_become 28 = .ok (.getfield 15, 3) := by decide +kernel
theorem dX0_become_31 : decode cX0_become 31 = .ok (.iload_n 2, 1) := by decide +kernel
theorem dX0_become_32 : decode cX0_become 32 = .ok (.laload, 1) := by decide +kernel
theorem dX0_become_33 : decode cX0_become 33 = .ok (.lastore, 1) := by decide +kernel
theorem dX0_become_34 : decode cX0_become 34 = .ok (.aload_n 0, 1) := by decide +kernel
theorem dX0_become_35 : decode cX0_become 35 = .ok (.getfield 19, 3) := by decide +kernel
theorem dX0_become_38 : decode cX0_become 38 = .ok (.iload_n 2, 1) := by decide +kernel
theorem dX0_become_39 : decode cX0_become 39 = .ok (.aload_n 1, 1) := by decide +kernel
theorem dX0_become_40 : decode cX0_become 40 = .ok (.getfield 19, 3) := by decide +kernel
theorem dX0_become_43 : decode cX0_become 43 = .ok (.iload_n 2, 1) := by decide +kernel
theorem dX0_become_44 : decode cX0_become 44 = .ok (.baload, 1) := by decide +kernel
theorem dX0_become_45 : decode cX0_become 45 = .ok (.bastore, 1) := by decide +kernel
theorem dX0_become_46 : decode cX0_become 46 = .ok (.iinc 2 1, 3) := by decide +kernel
theorem dX0_become_49 : decode cX0_become 49 = .ok (.goto (-47), 3) := by decide +kernel
theorem dX0_become_52 : decode cX0_become 52 = .ok (.aload_n 0, 1) := by decide +kernel
theorem dX0_become_53 : decode cX0_become 53 = .ok (.aload_n 1, 1) := by decide +kernel
theorem dX0_become_54 : decode cX0_become 54 = .ok (.getfield 23, 3) := by decide +kernel
theorem dX0_become_57 : decode cX0_become 57 = .ok (.putfield 23, 3) := by decide +kernel
theorem dX0_become_60 : decode cX0_become 60 = .ok (.return_, 1) := by decide +kernel
theorem dX0_countOn_0 : decode cX0_countOn 0 = .ok (.iconst 0, 1) := by decide +kernel
theorem dX0_countOn_1 : decode cX0_countOn 1 = .ok (.istore_n 1, 1) := by decide +kernel
theorem dX0_countOn_2 : decode cX0_countOn 2 = .ok (.iconst 0, 1) := by decide +kernel
theorem dX0_countOn_3 : decode cX0_countOn 3 = .ok (.istore_n 2, 1) := by decide +kernel
theorem dX0_countOn_4 : decode cX0_countOn 4 = .ok (.iload_n 2, 1) := by decide +kernel
theorem dX0_countOn_5 : decode cX0_countOn 5 = .ok (.aload_n 0, 1) := by decide +kernel
theorem dX0_countOn_6 : decode cX0_countOn 6 = .ok (.getfield 23, 3) := by decide +kernel
theorem dX0_countOn_9 : decode cX0_countOn 9 = .ok (.if_icmp .ge 21, 3) := by decide +kernel
theorem dX0_countOn_12 : decode cX0_countOn 12 = .ok (.aload_n 0, 1) := by decide +kernel
theorem dX0_countOn_13 : decode cX0_countOn 13 = .ok (.getfield 19, 3) := by decide +kernel
theorem dX0_countOn_16 : decode cX0_countOn 16 = .ok (.iload_n 2, 1) := by decide +kernel
theorem dX0_countOn_17 : decode cX0_countOn 17 = .ok (.baload, 1) := by decide +kernel
theorem dX0_countOn_18 : decode cX0_countOn 18 = .ok (.ifCond .eq 6, 3) := by decide +kernel
theorem dX0_countOn_21 : decode cX0_countOn 21 = .ok (.iinc 1 1, 3) := by decide +kernel
theorem dX0_countOn_24 : decode cX0_countOn 24 = .ok (.iinc 2 1, 3) := by decide +kernel
theorem dX0_countOn_27 : decode cX0_countOn 27 = .ok (.goto (-23), 3) := by decide +kernel
theorem dX0_countOn_30 : decode cX0_countOn 30 = .ok (.iload_n 1, 1) := by decide +kernel
theorem dX0_countOn_31 : decode cX0_countOn 31 = .ok (.ireturn, 1) := by decide +kernel
theorem dX1_isWhole_0 : decode cX1_isWhole 0 = .ok (.aload_n 0, 1) := by decide +kernel
theorem dX1_isWhole_1 : decode cX1_isWhole 1 = .ok (.getfield 41, 3) := by decide +kernel
theorem dX1_isWhole_4 : decode cX1_isWhole 4 = .ok (.ifCond .ne 7, 3) := by decide +kernel
theorem dX1_isWhole_7 : decode cX1_isWhole 7 = .ok (.iconst 1, 1) := by decide +kernel
theorem dX1_isWhole_8 : decode cX1_isWhole 8 = .ok (.goto 4, 3) := by decide +kernel
theorem dX1_isWhole_11 : decode cX1_isWhole 11 = .ok (.iconst 0, 1) := by decide +kernel
theorem dX1_isWhole_12 : decode cX1_isWhole 12 = .ok (.ireturn, 1) := by decide +kernel
theorem dX1_infinite_0 : decode cX1_infinite 0 = .ok (.ldc2_w 51, 3) := by decide +kernel
theorem dX1_infinite_3 : decode cX1_infinite 3 = .ok (.aload_n 0, 1) := by decide +kernel
theorem dX1_infinite_4 : decode cX1_infinite 4 = .ok (.getfield 44, 3) := by decide +kernel
theorem dX1_infinite_7 : decode cX1_infinite 7 = .ok (.i2l, 1) := by decide +kernel
theorem dX1_infinite_8 : decode cX1_infinite 8 = .ok (.lmul, 1) := by decide +kernel
theorem dX1_infinite_9 : decode cX1_infinite 9 = .ok (.lconst 1, 1) := by decide +kernel
theorem dX1_infinite_10 : decode cX1_infinite 10 = .ok (.ladd, 1) := by decide +kernel
theorem dX1_infinite_11 : decode cX1_infinite 11 = .ok (.aload_n 0, 1) := by decide +kernel
theorem dX1_infinite_12 : decode cX1_infinite 12 = .ok (.getfield 41, 3) := by decide +kernel
theorem dX1_infinite_15 : decode cX1_infinite 15 = .ok (.lshl, 1) := by decide +kernel
theorem dX1_infinite_16 : decode cX1_infinite 16 = .ok (.lreturn, 1) := by decide +kernel
theorem dX1_one_0 : decode cX1_one 0 = .ok (.aload_n 0, 1) := by decide +kernel
theorem dX1_one_1 : decode cX1_one 1 = .ok (.getfield 44, 3) := by decide +kernel
theorem dX1_one_4 : decode cX1_one 4 = .ok (.i2l, 1) := by decide +kernel
theorem dX1_one_5 : decode cX1_one 5 = .ok (.aload_n 0, 1) := by decide +kernel
theorem dX1_one_6 : decode cX1_one 6 = .ok (.getfield 41, 3) := by decide +kernel
theorem dX1_one_9 : decode cX1_one 9 = .ok (.lshl, 1) := by decide +kernel
theorem dX1_one_10 : decode cX1_one 10 = .ok (.lreturn, 1) := by decide +kernel
theorem dX1_oneHalf_0 : decode cX1_oneHalf 0 = .ok (.aload_n 0, 1) := by decide +kernel
theorem dX1_oneHalf_1 : decode cX1_oneHalf 1 = .ok (.getfield 44, 3) := by decide +kernel
theorem dX1_oneHalf_4 : decode cX1_oneHalf 4 = .ok (.i2l, 1) := by decide +kernel
theorem dX1_oneHalf_5 : decode cX1_oneHalf 5 = .ok (.lconst 1, 1) := by decide +kernel
theorem dX1_oneHalf_6 : decode cX1_oneHalf 6 = .ok (.lsub, 1) := by decide +kernel
theorem dX1_oneHalf_7 : decode cX1_oneHalf 7 = .ok (.aload_n 0, 1) := by decide +kernel
theorem dX1_oneHalf_8 : decode cX1_oneHalf 8 = .ok (.getfield 41, 3) := by decide +kernel
theorem dX1_oneHalf_11 : decode cX1_oneHalf 11 = .ok (.lshl, 1) := by decide +kernel
theorem dX1_oneHalf_12 : decode cX1_oneHalf 12 = .ok (.lreturn, 1) := by decide +kernel
theorem dX1_codeOf_0 : decode cX1_codeOf 0 = .ok (.aload_n 0, 1) := by decide +kernel
theorem dX1_codeOf_1 : decode cX1_codeOf 1 = .ok (.getfield 37, 3) := by decide +kernel
theorem dX1_codeOf_4 : decode cX1_codeOf 4 = .ok (.bipush 32, 2) := by decide +kernel
theorem dX1_codeOf_6 : decode cX1_codeOf 6 = .ok (.if_icmp .ne 8, 3) := by decide +kernel
theorem dX1_codeOf_9 : decode cX1_codeOf 9 = .ok (.iload_n 2, 1) := by decide +kernel
theorem dX1_codeOf_10 : decode cX1_codeOf 10 = .ok (.i2l, 1) := by decide +kernel
theorem dX1_codeOf_11 : decode cX1_codeOf 11 = .ok (.goto 15, 3) := by decide +kernel
theorem dX1_codeOf_14 : decode cX1_codeOf 14 = .ok (.iload_n 1, 1) := by decide +kernel
theorem dX1_codeOf_15 : decode cX1_codeOf 15 = .ok (.i2l, 1) := by decide +kernel
theorem dX1_codeOf_16 : decode cX1_codeOf 16 = .ok (.bipush 32, 2) := by decide +kernel
theorem dX1_codeOf_18 : decode cX1_codeOf 18 = .ok (.lshl, 1) := by decide +kernel
theorem dX1_codeOf_19 : decode cX1_codeOf 19 = .ok (.iload_n 2, 1) := by decide +kernel
theorem dX1_codeOf_20 : decode cX1_codeOf 20 = .ok (.i2l, 1) := by decide +kernel
theorem dX1_codeOf_21 : decode cX1_codeOf 21 = .ok (.ldc2_w 53, 3) := by decide +kernel
theorem dX1_codeOf_24 : decode cX1_codeOf 24 = .ok (.land, 1) := by decide +kernel
theorem dX1_codeOf_25 : decode cX1_codeOf 25 = .ok (.lor, 1) := by decide +kernel
theorem dX1_codeOf_26 : decode cX1_codeOf 26 = .ok (.lreturn, 1) := by decide +kernel
set_option maxRecDepth 20000 in
theorem ggX1_isIll_X1_isWhole : GoodIn wsX1_isIll wsX1_isWhole := goodIn_r _ [6, 7] (by decide +kernel) (by decide +kernel)
set_option maxRecDepth 20000 in
theorem gX1_isIll_X1_isWhole : GoodIn wsX1_isIll (wsV RX1 55 RX1 yX1_isWhole wsX1_isWhole) := goodIn_app (goodIn_of _ (by decide +kernel)) ggX1_isIll_X1_isWhole
set_option maxRecDepth 20000 in
theorem ggX1_isIll_X1_infinite : GoodIn wsX1_isIll wsX1_infinite := goodIn_r _ [11, 12, 13, 7] (by decide +kernel) (by decide +kernel)
set_option maxRecDepth 20000 in
theorem gX1_isIll_X1_infinite : GoodIn wsX1_isIll (wsV RX1 59 RX1 yX1_infinite wsX1_infinite) := goodIn_app (goodIn_of _ (by decide +kernel)) ggX1_isIll_X1_infinite
theorem dX1_isIll_0 : decode cX1_isIll 0 = .ok (.aload_n 0, 1) := by decide +kernel
theorem dX1_isIll_1 : decode cX1_isIll 1 = .ok (.invokevirtual 55, 3) := by decide +kernel
theorem dX1_isIll_4 : decode cX1_isIll 4 = .ok (.ifCond .ne 21, 3) := by decide +kernel
theorem dX1_isIll_7 : decode cX1_isIll 7 = .ok (.lload_n 1, 1) := by decide +kernel
theorem dX1_isIll_8 : decode cX1_isIll 8 = .ok (.aload_n 0, 1) := by decide +kernel
theorem dX1_isIll_9 : decode cX1_isIll 9 = .ok (.getfield 47, 3) := by decide +kernel
theorem dX1_isIll_12 : decode cX1_isIll 12 = .ok (.land, 1) := by decide +kernel
theorem dX1_isIll_13 : decode cX1_isIll 13 = .ok (.aload_n 0, 1) := by decide +kernel
theorem dX1_isIll_14 : decode cX1_isIll 14 = .ok (.invokevirtual 59, 3) := by decide +kernel
theorem dX1_isIll_17 : decode cX1_isIll 17 = .ok (.lcmp, 1) := by decide +kernel
theorem dX1_isIll_18 : decode cX1_isIll 18 = .ok (.ifCond .le 7, 3) := by decide +kernel
theorem dX1_isIll_21 : decode cX1_isIll 21 = .ok (.iconst 1, 1) := by decide +kernel
theorem dX1_isIll_22 : decode cX1_isIll 22 = .ok (.goto 4, 3) := by decide +kernel
theorem dX1_isIll_25 : decode cX1_isIll 25 = .ok (.iconst 0, 1) := by decide +kernel
theorem dX1_isIll_26 : decode cX1_isIll 26 = .ok (.ireturn, 1) := by decide +kernel
set_option maxRecDepth 20000 in
theorem ggX1_isZero_X1_isWhole : GoodIn wsX1_isZero wsX1_isWhole := goodIn_r _ [6, 7] (by decide +kernel) (by decide +kernel)
set_option maxRecDepth 20000 in
theorem gX1_isZero_X1_isWhole : GoodIn wsX1_isZero (wsV RX1 55 RX1 yX1_isWhole wsX1_isWhole) := goodIn_app (goodIn_of _ (by decide +kernel)) ggX1_isZero_X1_isWhole
theorem dX1_isZero_0 : decode cX1_isZero 0 = .ok (.aload_n 0, 1) := by decide +kernel
theorem dX1_isZero_1 : decode cX1_isZero 1 = .ok (.invokevirtual 55, 3) := by decide +kernel
theorem dX1_isZero_4 : decode cX1_isZero 4 = .ok (.ifCond .eq 17, 3) := by decide +kernel
theorem dX1_isZero_7 : decode cX1_isZero 7 = .ok (.lload_n 1, 1) := by decide +kernel
theorem dX1_isZero_8 : decode cX1_isZero 8 = .ok (.lconst 0, 1) := by decide +kernel
theorem dX1_isZero_9 : decode cX1_isZero 9 = .ok (.lcmp, 1) := by decide +kernel
theorem dX1_isZero_10 : decode cX1_isZero 10 = .ok (.ifCond .ne 7, 3) := by decide +kernel
theorem dX1_isZero_13 : decode cX1_isZero 13 = .ok (.iconst 1, 1) := by decide +kernel
theorem dX1_isZero_14 : decode cX1_isZero 14 = .ok (.goto 23, 3) := by decide +kernel
theorem dX1_isZero_17 : decode cX1_isZero 17 = .ok (.iconst 0, 1) := by decide +kernel
theorem dX1_isZero_18 : decode cX1_isZero 18 = .ok (.goto 19, 3) := by decide +kernel
theorem dX1_isZero_21 : decode cX1_isZero 21 = .ok (.lload_n 1, 1) := by decide +kernel
theorem dX1_isZero_22 : decode cX1_isZero 22 = .ok (.aload_n 0, 1) := by decide +kernel
theorem dX1_isZero_23 : decode cX1_isZero 23 = .ok (.getfield 47, 3) := by decide +kernel
theorem dX1_isZero_26 : decode cX1_isZero 26 = .ok (.land, 1) := by decide +kernel
theorem dX1_isZero_27 : decode cX1_isZero 27 = .ok (.lconst 0, 1) := by decide +kernel
theorem dX1_isZero_28 : decode cX1_isZero 28 = .ok (.lcmp, 1) := by decide +kernel
theorem dX1_isZero_29 : decode cX1_isZero 29 = .ok (.ifCond .ne 7, 3) := by decide +kernel
theorem dX1_isZero_32 : decode cX1_isZero 32 = .ok (.iconst 1, 1) := by decide +kernel
theorem dX1_isZero_33 : decode cX1_isZero 33 = .ok (.goto 4, 3) := by decide +kernel
theorem dX1_isZero_36 : decode cX1_isZero 36 = .ok (.iconst 0, 1) := by decide +kernel
theorem dX1_isZero_37 : decode cX1_isZero 37 = .ok (.ireturn, 1) := by decide +kernel
set_option maxRecDepth 20000 in
theorem ggX1_hasKind_X1_isWhole : GoodIn wsX1_hasKind wsX1_isWhole := goodIn_r _ [5, 6] (by decide +kernel) (by decide +kernel)
set_option maxRecDepth 20000 in
theorem gX1_hasKind_X1_isWhole : GoodIn wsX1_hasKind (wsV RX1 55 RX1 yX1_isWhole wsX1_isWhole) := goodIn_app (goodIn_of _ (by decide +kernel)) ggX1_hasKind_X1_isWhole
theorem dX1_hasKind_0 : decode cX1_hasKind 0 = .ok (.iload_n 1, 1) := by decide +kernel
theorem dX1_hasKind_1 : decode cX1_hasKind 1 = .ok (.iconst 3, 1) := by decide +kernel
theorem dX1_hasKind_2 : decode cX1_hasKind 2 = .ok (.if_icmp .lt 22, 3) := by decide +kernel
theorem dX1_hasKind_5 : decode cX1_hasKind 5 = .ok (.iload_n 1, 1) := by decide +kernel
theorem dX1_hasKind_6 : decode cX1_hasKind 6 = .ok (.bipush 7, 2) := by decide +kernel
theorem dX1_hasKind_8 : decode cX1_hasKind 8 = .ok (.if_icmp .gt 16, 3) := by decide +kernel
theorem dX1_hasKind_11 : decode cX1_hasKind 11 = .ok (.aload_n 0, 1) := by decide +kernel
theorem dX1_hasKind_12 : decode cX1_hasKind 12 = .ok (.invokevirtual 55, 3) := by decide +kernel
theorem dX1_hasKind_15 : decode cX1_hasKind 15 = .ok (.ifCond .ne 7, 3) := by decide +kernel
theorem dX1_hasKind_18 : decode cX1_hasKind 18 = .ok (.iconst 1, 1) := by decide +kernel
theorem dX1_hasKind_19 : decode cX1_hasKind 19 = .ok (.goto 4, 3) := by decide +kernel
theorem dX1_hasKind_22 : decode cX1_hasKind 22 = .ok (.iconst 0, 1) := by decide +kernel
theorem dX1_hasKind_23 : decode cX1_hasKind 23 = .ok (.ireturn, 1) := by decide +kernel
theorem dX1_hasKind_24 : decode cX1_hasKind 24 = .ok (.iload_n 1, 1) := by decide +kernel
theorem dX1_hasKind_25 : decode cX1_hasKind 25 = .ok (.ifCond .lt 13, 3) := by decide +kernel
theorem dX1_hasKind_28 : decode cX1_hasKind 28 = .ok (.iload_n 1, 1) := by decide +kernel
theorem dX1_hasKind_29 : decode cX1_hasKind 29 = .ok (.bipush 8, 2) := by decide +kernel
theorem dX1_hasKind_31 : decode cX1_hasKind 31 = .ok (.if_icmp .gt 7, 3) := by decide +kernel
theorem dX1_hasKind_34 : decode cX1_hasKind 34 = .ok (.iconst 1, 1) := by decide +kernel
theorem dX1_hasKind_35 : decode cX1_hasKind 35 = .ok (.goto 4, 3) := by decide +kernel
theorem dX1_hasKind_38 : decode cX1_hasKind 38 = .ok (.iconst 0, 1) := by decide +kernel
theorem dX1_hasKind_39 : decode cX1_hasKind 39 = .ok (.ireturn, 1) := by decide +kernel
set_option maxRecDepth 20000 in
theorem ggX1_isLess_X1_rank : GoodIn wsX1_isLess wsX1_rank := goodIn_r _ [5, 6, 7, 8, 9, 4, 10, 11] (by decide +kernel) (by decide +kernel)
set_option maxRecDepth 20000 in
theorem gX1_isLess_X1_rank : GoodIn wsX1_isLess (wsV RX1 63 RX1 yX1_rank wsX1_rank) := goodIn_app (goodIn_of _ (by decide +kernel)) ggX1_isLess_X1_rank
theorem dX1_isLess_0 : decode cX1_isLess 0 = .ok (.aload_n 0, 1) := by decide +kernel
theorem dX1_isLess_1 : decode cX1_isLess 1 = .ok (.lload_n 1, 1) := by decide +kernel
theorem dX1_isLess_2 : decode cX1_isLess 2 = .ok (.invokevirtual 63, 3) := by decide +kernel
theorem dX1_isLess_5 : decode cX1_isLess 5 = .ok (.aload_n 0, 1) := by decide +kernel
theorem dX1_isLess_6 : decode cX1_isLess 6 = .ok (.lload_n 3, 1) := by decide +kernel
theorem dX1_isLess_7 : decode cX1_isLess 7 = .ok (.invokevirtual 63, 3) := by decide +kernel
theorem dX1_isLess_10 : decode cX1_isLess 10 = .ok (.lcmp, 1) := by decide +kernel
theorem dX1_isLess_11 : decode cX1_isLess 11 = .ok (.ifCond .ge 7, 3) := by decide +kernel
theorem dX1_isLess_14 : decode cX1_isLess 14 = .ok (.iconst 1, 1) := by decide +kernel
theorem dX1_isLess_15 : decode cX1_isLess 15 = .ok (.goto 4, 3) := by decide +kernel
theorem dX1_isLess_18 : decode cX1_isLess 18 = .ok (.iconst 0, 1) := by decide +kernel
theorem dX1_isLess_19 : decode cX1_isLess 19 = .ok (.ireturn, 1) := by decide +kernel
set_option maxRecDepth 20000 in
theorem ggX1_rank_X1_isWhole : GoodIn wsX1_rank wsX1_isWhole := goodIn_r _ [6, 7] (by decide +kernel) (by decide +kernel)
set_option maxRecDepth 20000 in
theorem gX1_rank_X1_isWhole : GoodIn wsX1_rank (wsV RX1 55 RX1 yX1_isWhole wsX1_isWhole) := goodIn_app (goodIn_of _ (by decide +kernel)) ggX1_rank_X1_isWhole
theorem dX1_rank_0 : decode cX1_rank 0 = .ok (.aload_n 0, 1) := by decide +kernel
theorem dX1_rank_1 : decode cX1_rank 1 = .ok (.invokevirtual 55, 3) := by decide +kernel
theorem dX1_rank_4 : decode cX1_rank 4 = .ok (.ifCond .ne 18, 3) := by decide +kernel
theorem dX1_rank_7 : decode cX1_rank 7 = .ok (.lload_n 1, 1) := by decide +kernel
theorem dX1_rank_8 : decode cX1_rank 8 = .ok (.lconst 0, 1) := by decide +kernel
theorem dX1_rank_9 : decode cX1_rank 9 = .ok (.lcmp, 1) := by decide +kernel
theorem dX1_rank_10 : decode cX1_rank 10 = .ok (.ifCond .ge 12, 3) := by decide +kernel
theorem dX1_rank_13 : decode cX1_rank 13 = .ok (.lload_n 1, 1) := by decide +kernel
theorem dX1_rank_14 : decode cX1_rank 14 = .ok (.aload_n 0, 1) := by decide +kernel
theorem dX1_rank_15 : decode cX1_rank 15 = .ok (.getfield 47, 3) := by decide +kernel
theorem dX1_rank_18 : decode cX1_rank 18 = .ok (.lxor, 1) := by decide +kernel
theorem dX1_rank_19 : decode cX1_rank 19 = .ok (.goto 4, 3) := by decide +kernel
theorem dX1_rank_22 : decode cX1_rank 22 = .ok (.lload_n 1, 1) := by decide +kernel
theorem dX1_rank_23 : decode cX1_rank 23 = .ok (.lreturn, 1) := by decide +kernel
set_option maxRecDepth 20000 in
theorem ggX1_through_X1_withOtherSign : GoodIn wsX1_through wsX1_withOtherSign := goodIn_r _ [5, 6, 7, 8, 9, 10, 4, 11, 12, 13, 14, 15, 16, 17] (by decide +kernel) (by decide +kernel)
set_option maxRecDepth 20000 in
theorem gX1_through_X1_withOtherSign : GoodIn wsX1_through (wsV RX1 67 RX1 yX1_withOtherSign wsX1_withOtherSign) := goodIn_app (goodIn_of _ (by decide +kernel)) ggX1_through_X1_withOtherSign
set_option maxRecDepth 20000 in
theorem ggX1_through_X1_isLess : GoodIn wsX1_through wsX1_isLess := goodIn_r _ [21, 22, 23, 24, 4, 25, 6, 8, 9, 10, 11, 12] (by decide +kernel) (by decide +kernel)
set_option maxRecDepth 20000 in
theorem gX1_through_X1_isLess : GoodIn wsX1_through (wsV RX1 70 RX1 yX1_isLess wsX1_isLess) := goodIn_app (goodIn_of _ (by decide +kernel)) ggX1_through_X1_isLess
set_option maxRecDepth 20000 in
theorem ggX1_through_X1_wholeSize : GoodIn wsX1_through wsX1_wholeSize := goodIn_r _ [29, 6, 12, 30, 31, 32, 33, 4, 34, 35, 36, 37, 38, 39, 40, 41, 42, 43, 44] (by decide +kernel) (by decide +kernel)
set_option maxRecDepth 20000 in
theorem gX1_through_X1_wholeSize : GoodIn wsX1_through (wsV RX1 74 RX1 yX1_wholeSize wsX1_wholeSize) := goodIn_app (goodIn_of _ (by decide +kernel)) ggX1_through_X1_wholeSize
set_option maxRecDepth 20000 in
theorem ggX1_through_X1_withSignOf : GoodIn wsX1_through wsX1_withSignOf := goodIn_r _ [48, 6, 7] (by decide +kernel) (by decide +kernel)
set_option maxRecDepth 20000 in
theorem gX1_through_X1_withSignOf : GoodIn wsX1_through (wsV RX1 78 RX1 yX1_withSignOf wsX1_withSignOf) := goodIn_app (goodIn_of _ (by decide +kernel)) ggX1_through_X1_withSignOf
set_option maxRecDepth 20000 in
theorem ggX1_through_X1_isZero : GoodIn wsX1_through wsX1_isZero := goodIn_r _ [52, 6, 8, 9, 10, 4, 11, 12] (by decide +kernel) (by decide +kernel)
set_option maxRecDepth 20000 in
theorem gX1_through_X1_isZero : GoodIn wsX1_through (wsV RX1 82 RX1 yX1_isZero wsX1_isZero) := goodIn_app (goodIn_of _ (by decide +kernel)) ggX1_through_X1_isZero
set_option maxRecDepth 20000 in
theorem ggX1_through_X1_one : GoodIn wsX1_through wsX1_one := goodIn_r _ [41, 30, 12] (by decide +kernel) (by decide +kernel)
set_option maxRecDepth 20000 in
theorem gX1_through_X1_one : GoodIn wsX1_through (wsV RX1 86 RX1 yX1_one wsX1_one) := goodIn_app (goodIn_of _ (by decide +kernel)) ggX1_through_X1_one
theorem dX1_through_0 : decode cX1_through 0 = .ok (.iload_n 1, 1) := by decide +kernel
theorem dX1_through_1 : decode cX1_through 1 = .ok (.tableswitch 158 0 8 #[51, 70, 87, 104, 104, 104, 118, 143, 151], 51) := by decide +kernel
theorem dX1_through_52 : decode cX1_through 52 = .ok (.lload 4, 2) := by decide +kernel
theorem dX1_through_54 : decode cX1_through 54 = .ok (.lconst 0, 1) := by decide +kernel
theorem dX1_through_55 : decode cX1_through 55 = .ok (.lcmp, 1) := by decide +kernel
theorem dX1_through_56 : decode cX1_through 56 = .ok (.ifCond .ge 12, 3) := by decide +kernel
theorem dX1_through_59 : decode cX1_through 59 = .ok (.aload_n 0, 1) := by decide +kernel
theorem dX1_through_60 : decode cX1_through 60 = .ok (.lload 4, 2) := by decide +kernel
theorem dX1_through_62 : decode cX1_through 62 = .ok (.invokevirtual 67, 3) := by decide +kernel
theorem dX1_through_65 : decode cX1_through 65 = .ok (.goto 5, 3) := by decide +kernel
theorem dX1_through_68 : decode cX1_through 68 = .ok (.lload 4, 2) := by decide +kernel
theorem dX1_through_70 : decode cX1_through 70 = .ok (.lreturn, 1) := by decide +kernel
theorem dX1_through_71 : decode cX1_through 71 = .ok (.aload_n 0, 1) := by decide +kernel
theorem dX1_through_72 : decode cX1_through 72 = .ok (.lload_n 2, 1) := by decide +kernel
theorem dX1_through_73 : decode cX1_through 73 = .ok (.lload 4, 2) := by decide +kernel
theorem dX1_through_75 : decode cX1_through 75 = .ok (.invokevirtual 70, 3) := by decide +kernel
theorem dX1_through_78 : decode cX1_through 78 = .ok (.ifCond .eq 7, 3) := by decide +kernel
theorem dX1_through_81 : decode cX1_through 81 = .ok (.lload_n 2, 1) := by decide +kernel
theorem dX1_through_82 : decode cX1_through 82 = .ok (.goto 5, 3) := by decide +kernel
theorem dX1_through_85 : decode cX1_through 85 = .ok (.lload 4, 2) := by decide +kernel
theorem dX1_through_87 : decode cX1_through 87 = .ok (.lreturn, 1) := by decide +kernel
theorem dX1_through_88 : decode cX1_through 88 = .ok (.aload_n 0, 1) := by decide +kernel
theorem dX1_through_89 : decode cX1_through 89 = .ok (.lload 4, 2) := by decide +kernel
end
section
theorem dX1_through_91 : decode cX1_through 91 = .ok (.lload_n 2, 1) := by decide +kernel
theorem dX1_through_92 : decode cX1_through 92 = .ok (.invokevirtual 70, 3) := by decide +kernel
theorem dX1_through_95 : decode cX1_through 95 = .ok (.ifCond .eq 7, 3) := by decide +kernel
theorem dX1_through_98 : decode cX1_through 98 = .ok (.lload_n 2, 1) := by decide +kernel
theorem dX1_through_99 : decode cX1_through 99 = .ok (.goto 5, 3) := by decide +kernel
theorem dX1_through_102 : decode cX1_through 102 = .ok (.lload 4, 2) := by decide +kernel
theorem dX1_through_104 : decode cX1_through 104 = .ok (.lreturn, 1) := by decide +kernel
theorem dX1_through_105 : decode cX1_through 105 = .ok (.aload_n 0, 1) := by decide +kernel
theorem dX1_through_106 : decode cX1_through 106 = .ok (.lload 4, 2) := by decide +kernel
theorem dX1_through_108 : decode cX1_through 108 = .ok (.aload_n 0, 1) := by decide +kernel
theorem dX1_through_109 : decode cX1_through 109 = .ok (.iload_n 1, 1) := by decide +kernel
theorem dX1_through_110 : decode cX1_through 110 = .ok (.lload 4, 2) := by decide +kernel
theorem dX1_through_112 : decode cX1_through 112 = .ok (.invokevirtual 74, 3) := by decide +kernel
theorem dX1_through_115 : decode cX1_through 115 = .ok (.invokevirtual 78, 3) := by decide +kernel
theorem dX1_through_118 : decode cX1_through 118 = .ok (.lreturn, 1) := by decide +kernel
theorem dX1_through_119 : decode cX1_through 119 = .ok (.aload_n 0, 1) := by decide +kernel
theorem dX1_through_120 : decode cX1_through 120 = .ok (.lload 4, 2) := by decide +kernel
theorem dX1_through_122 : decode cX1_through 122 = .ok (.invokevirtual 82, 3) := by decide +kernel
theorem dX1_through_125 : decode cX1_through 125 = .ok (.ifCond .eq 8, 3) := by decide +kernel
theorem dX1_through_128 : decode cX1_through 128 = .ok (.lload 4, 2) := by decide +kernel
theorem dX1_through_130 : decode cX1_through 130 = .ok (.goto 13, 3) := by decide +kernel
theorem dX1_through_133 : decode cX1_through 133 = .ok (.aload_n 0, 1) := by decide +kernel
theorem dX1_through_134 : decode cX1_through 134 = .ok (.lload 4, 2) := by decide +kernel
theorem dX1_through_136 : decode cX1_through 136 = .ok (.aload_n 0, 1) := by decide +kernel
theorem dX1_through_137 : decode cX1_through 137 = .ok (.invokevirtual 86, 3) := by decide +kernel
theorem dX1_through_140 : decode cX1_through 140 = .ok (.invokevirtual 78, 3) := by decide +kernel
theorem dX1_through_143 : decode cX1_through 143 = .ok (.lreturn, 1) := by decide +kernel
theorem dX1_through_144 : decode cX1_through 144 = .ok (.aload_n 0, 1) := by decide +kernel
theorem dX1_through_145 : decode cX1_through 145 = .ok (.lload_n 2, 1) := by decide +kernel
theorem dX1_through_146 : decode cX1_through 146 = .ok (.lload 4, 2) := by decide +kernel
theorem dX1_through_148 : decode cX1_through 148 = .ok (.invokevirtual 78, 3) := by decide +kernel
theorem dX1_through_151 : decode cX1_through 151 = .ok (.lreturn, 1) := by decide +kernel
theorem dX1_through_152 : decode cX1_through 152 = .ok (.aload_n 0, 1) := by decide +kernel
theorem dX1_through_153 : decode cX1_through 153 = .ok (.lload 4, 2) := by decide +kernel
theorem dX1_through_155 : decode cX1_through 155 = .ok (.invokevirtual 67, 3) := by decide +kernel
theorem dX1_through_158 : decode cX1_through 158 = .ok (.lreturn, 1) := by decide +kernel
theorem dX1_through_159 : decode cX1_through 159 = .ok (.lload 4, 2) := by decide +kernel
theorem dX1_through_161 : decode cX1_through 161 = .ok (.lreturn, 1) := by decide +kernel
set_option maxRecDepth 20000 in
theorem ggX1_withOtherSign_X1_isWhole : GoodIn wsX1_withOtherSign wsX1_isWhole := goodIn_r _ [7, 8] (by decide +kernel) (by decide +kernel)
set_option maxRecDepth 20000 in
theorem gX1_withOtherSign_X1_isWhole : GoodIn wsX1_withOtherSign (wsV RX1 55 RX1 yX1_isWhole wsX1_isWhole) := goodIn_app (goodIn_of _ (by decide +kernel)) ggX1_withOtherSign_X1_isWhole
set_option maxRecDepth 20000 in
theorem ggX1_withOtherSign_X1_fitted : GoodIn wsX1_withOtherSign wsX1_fitted := goodIn_r _ [12, 13] (by decide +kernel) (by decide +kernel)
set_option maxRecDepth 20000 in
theorem gX1_withOtherSign_X1_fitted : GoodIn wsX1_withOtherSign (wsV RX1 89 RX1 yX1_fitted wsX1_fitted) := goodIn_app (goodIn_of _ (by decide +kernel)) ggX1_withOtherSign_X1_fitted
theorem dX1_withOtherSign_0 : decode cX1_withOtherSign 0 = .ok (.aload_n 0, 1) := by decide +kernel
theorem dX1_withOtherSign_1 : decode cX1_withOtherSign 1 = .ok (.invokevirtual 55, 3) := by decide +kernel
theorem dX1_withOtherSign_4 : decode cX1_withOtherSign 4 = .ok (.ifCond .eq 12, 3) := by decide +kernel
theorem dX1_withOtherSign_7 : decode cX1_withOtherSign 7 = .ok (.aload_n 0, 1) := by decide +kernel
theorem dX1_withOtherSign_8 : decode cX1_withOtherSign 8 = .ok (.lload_n 1, 1) := by decide +kernel
theorem dX1_withOtherSign_9 : decode cX1_withOtherSign 9 = .ok (.lneg, 1) := by decide +kernel
theorem dX1_withOtherSign_10 : decode cX1_withOtherSign 10 = .ok (.invokevirtual 89, 3) := by decide +kernel
theorem dX1_withOtherSign_13 : decode cX1_withOtherSign 13 = .ok (.goto 13, 3) := by decide +kernel
theorem dX1_withOtherSign_16 : decode cX1_withOtherSign 16 = .ok (.lload_n 1, 1) := by decide +kernel
theorem dX1_withOtherSign_17 : decode cX1_withOtherSign 17 = .ok (.aload_n 0, 1) := by decide +kernel
theorem dX1_withOtherSign_18 : decode cX1_withOtherSign 18 = .ok (.getfield 47, 3) := by decide +kernel
theorem dX1_withOtherSign_21 : decode cX1_withOtherSign 21 = .ok (.ldc2_w 92, 3) := by decide +kernel
theorem dX1_withOtherSign_24 : decode cX1_withOtherSign 24 = .ok (.lxor, 1) := by decide +kernel
theorem dX1_withOtherSign_25 : decode cX1_withOtherSign 25 = .ok (.lxor, 1) := by decide +kernel
theorem dX1_withOtherSign_26 : decode cX1_withOtherSign 26 = .ok (.lreturn, 1) := by decide +kernel
theorem dX1_withSignOf_0 : decode cX1_withSignOf 0 = .ok (.lload_n 3, 1) := by decide +kernel
theorem dX1_withSignOf_1 : decode cX1_withSignOf 1 = .ok (.aload_n 0, 1) := by decide +kernel
theorem dX1_withSignOf_2 : decode cX1_withSignOf 2 = .ok (.getfield 47, 3) := by decide +kernel
theorem dX1_withSignOf_5 : decode cX1_withSignOf 5 = .ok (.land, 1) := by decide +kernel
theorem dX1_withSignOf_6 : decode cX1_withSignOf 6 = .ok (.lload_n 1, 1) := by decide +kernel
theorem dX1_withSignOf_7 : decode cX1_withSignOf 7 = .ok (.lconst 0, 1) := by decide +kernel
theorem dX1_withSignOf_8 : decode cX1_withSignOf 8 = .ok (.lcmp, 1) := by decide +kernel
theorem dX1_withSignOf_9 : decode cX1_withSignOf 9 = .ok (.ifCond .ge 14, 3) := by decide +kernel
theorem dX1_withSignOf_12 : decode cX1_withSignOf 12 = .ok (.aload_n 0, 1) := by decide +kernel
theorem dX1_withSignOf_13 : decode cX1_withSignOf 13 = .ok (.getfield 47, 3) := by decide +kernel
theorem dX1_withSignOf_16 : decode cX1_withSignOf 16 = .ok (.ldc2_w 92, 3) := by decide +kernel
theorem dX1_withSignOf_19 : decode cX1_withSignOf 19 = .ok (.lxor, 1) := by decide +kernel
theorem dX1_withSignOf_20 : decode cX1_withSignOf 20 = .ok (.goto 4, 3) := by decide +kernel
theorem dX1_withSignOf_23 : decode cX1_withSignOf 23 = .ok (.lconst 0, 1) := by decide +kernel
theorem dX1_withSignOf_24 : decode cX1_withSignOf 24 = .ok (.lor, 1) := by decide +kernel
theorem dX1_withSignOf_25 : decode cX1_withSignOf 25 = .ok (.lreturn, 1) := by decide +kernel
theorem dX1_fitted_0 : decode cX1_fitted 0 = .ok (.aload_n 0, 1) := by decide +kernel
theorem dX1_fitted_1 : decode cX1_fitted 1 = .ok (.getfield 37, 3) := by decide +kernel
theorem dX1_fitted_4 : decode cX1_fitted 4 = .ok (.bipush 32, 2) := by decide +kernel
theorem dX1_fitted_6 : decode cX1_fitted 6 = .ok (.if_icmp .ne 9, 3) := by decide +kernel
theorem dX1_fitted_9 : decode cX1_fitted 9 = .ok (.lload_n 1, 1) := by decide +kernel
theorem dX1_fitted_10 : decode cX1_fitted 10 = .ok (.l2i, 1) := by decide +kernel
theorem dX1_fitted_11 : decode cX1_fitted 11 = .ok (.i2l, 1) := by decide +kernel
theorem dX1_fitted_12 : decode cX1_fitted 12 = .ok (.goto 4, 3) := by decide +kernel
theorem dX1_fitted_15 : decode cX1_fitted 15 = .ok (.lload_n 1, 1) := by decide +kernel
theorem dX1_fitted_16 : decode cX1_fitted 16 = .ok (.lreturn, 1) := by decide +kernel
set_option maxRecDepth 20000 in
theorem ggX1_wholeSize_X1_oneHalf : GoodIn wsX1_wholeSize wsX1_oneHalf := goodIn_r _ [8, 3, 2] (by decide +kernel) (by decide +kernel)
set_option maxRecDepth 20000 in
theorem gX1_wholeSize_X1_oneHalf : GoodIn wsX1_wholeSize (wsV RX1 94 RX1 yX1_oneHalf wsX1_oneHalf) := goodIn_app (goodIn_of _ (by decide +kernel)) ggX1_wholeSize_X1_oneHalf
set_option maxRecDepth 20000 in
theorem ggX1_wholeSize_X1_growsAway : GoodIn wsX1_wholeSize wsX1_growsAway := goodIn_r _ [11] (by decide +kernel) (by decide +kernel)
set_option maxRecDepth 20000 in
theorem gX1_wholeSize_X1_growsAway : GoodIn wsX1_wholeSize (va_wsS RX1 97 yX1_growsAway wsX1_growsAway) := goodIn_app (goodIn_of _ (by decide +kernel)) ggX1_wholeSize_X1_growsAway
set_option maxRecDepth 20000 in
theorem ggX1_wholeSize_X1_one : GoodIn wsX1_wholeSize wsX1_one := goodIn_r _ [15, 3, 2] (by decide +kernel) (by decide +kernel)
set_option maxRecDepth 20000 in
theorem gX1_wholeSize_X1_one : GoodIn wsX1_wholeSize (wsV RX1 86 RX1 yX1_one wsX1_one) := goodIn_app (goodIn_of _ (by decide +kernel)) ggX1_wholeSize_X1_one
set_option maxRecDepth 20000 in
theorem ggX1_wholeSize_X1_isNearerAway : GoodIn wsX1_wholeSize wsX1_isNearerAway := goodIn_r _ [18] (by decide +kernel) (by decide +kernel)
set_option maxRecDepth 20000 in
theorem gX1_wholeSize_X1_isNearerAway : GoodIn wsX1_wholeSize (va_wsS RX1 101 yX1_isNearerAway wsX1_isNearerAway) := goodIn_app (goodIn_of _ (by decide +kernel)) ggX1_wholeSize_X1_isNearerAway
theorem dX1_wholeSize_0 : decode cX1_wholeSize 0 = .ok (.lload_n 2, 1) := by decide +kernel
theorem dX1_wholeSize_1 : decode cX1_wholeSize 1 = .ok (.aload_n 0, 1) := by decide +kernel
theorem dX1_wholeSize_2 : decode cX1_wholeSize 2 = .ok (.getfield 47, 3) := by decide +kernel
theorem dX1_wholeSize_5 : decode cX1_wholeSize 5 = .ok (.land, 1) := by decide +kernel
theorem dX1_wholeSize_6 : decode cX1_wholeSize 6 = .ok (.lstore 4, 2) := by decide +kernel
theorem dX1_wholeSize_8 : decode cX1_wholeSize 8 = .ok (.lload 4, 2) := by decide +kernel
theorem dX1_wholeSize_10 : decode cX1_wholeSize 10 = .ok (.aload_n 0, 1) := by decide +kernel
theorem dX1_wholeSize_11 : decode cX1_wholeSize 11 = .ok (.getfield 41, 3) := by decide +kernel
theorem dX1_wholeSize_14 : decode cX1_wholeSize 14 = .ok (.lshr, 1) := by decide +kernel
theorem dX1_wholeSize_15 : decode cX1_wholeSize 15 = .ok (.l2i, 1) := by decide +kernel
theorem dX1_wholeSize_16 : decode cX1_wholeSize 16 = .ok (.aload_n 0, 1) := by decide +kernel
theorem dX1_wholeSize_17 : decode cX1_wholeSize 17 = .ok (.getfield 44, 3) := by decide +kernel
theorem dX1_wholeSize_20 : decode cX1_wholeSize 20 = .ok (.isub, 1) := by decide +kernel
theorem dX1_wholeSize_21 : decode cX1_wholeSize 21 = .ok (.istore 6, 2) := by decide +kernel
theorem dX1_wholeSize_23 : decode cX1_wholeSize 23 = .ok (.lload 4, 2) := by decide +kernel
theorem dX1_wholeSize_25 : decode cX1_wholeSize 25 = .ok (.lconst 0, 1) := by decide +kernel
theorem dX1_wholeSize_26 : decode cX1_wholeSize 26 = .ok (.lcmp, 1) := by decide +kernel
theorem dX1_wholeSize_27 : decode cX1_wholeSize 27 = .ok (.ifCond .eq 12, 3) := by decide +kernel
theorem dX1_wholeSize_30 : decode cX1_wholeSize 30 = .ok (.iload 6, 2) := by decide +kernel
theorem dX1_wholeSize_32 : decode cX1_wholeSize 32 = .ok (.aload_n 0, 1) := by decide +kernel
theorem dX1_wholeSize_33 : decode cX1_wholeSize 33 = .ok (.getfield 41, 3) := by decide +kernel
theorem dX1_wholeSize_36 : decode cX1_wholeSize 36 = .ok (.if_icmp .lt 6, 3) := by decide +kernel
theorem dX1_wholeSize_39 : decode cX1_wholeSize 39 = .ok (.lload 4, 2) := by decide +kernel
theorem dX1_wholeSize_41 : decode cX1_wholeSize 41 = .ok (.lreturn, 1) := by decide +kernel
theorem dX1_wholeSize_42 : decode cX1_wholeSize 42 = .ok (.iload 6, 2) := by decide +kernel
theorem dX1_wholeSize_44 : decode cX1_wholeSize 44 = .ok (.ifCond .ge 47, 3) := by decide +kernel
theorem dX1_wholeSize_47 : decode cX1_wholeSize 47 = .ok (.iload_n 1, 1) := by decide +kernel
theorem dX1_wholeSize_48 : decode cX1_wholeSize 48 = .ok (.iconst 5, 1) := by decide +kernel
theorem dX1_wholeSize_49 : decode cX1_wholeSize 49 = .ok (.if_icmp .ne 21, 3) := by decide +kernel
theorem dX1_wholeSize_52 : decode cX1_wholeSize 52 = .ok (.lload 4, 2) := by decide +kernel
theorem dX1_wholeSize_54 : decode cX1_wholeSize 54 = .ok (.aload_n 0, 1) := by decide +kernel
theorem dX1_wholeSize_55 : decode cX1_wholeSize 55 = .ok (.invokevirtual 94, 3) := by decide +kernel
theorem dX1_wholeSize_58 : decode cX1_wholeSize 58 = .ok (.lcmp, 1) := by decide +kernel
theorem dX1_wholeSize_59 : decode cX1_wholeSize 59 = .ok (.ifCond .le 7, 3) := by decide +kernel
theorem dX1_wholeSize_62 : decode cX1_wholeSize 62 = .ok (.iconst 1, 1) := by decide +kernel
theorem dX1_wholeSize_63 : decode cX1_wholeSize 63 = .ok (.goto 12, 3) := by decide +kernel
theorem dX1_wholeSize_66 : decode cX1_wholeSize 66 = .ok (.iconst 0, 1) := by decide +kernel
theorem dX1_wholeSize_67 : decode cX1_wholeSize 67 = .ok (.goto 8, 3) := by decide +kernel
theorem dX1_wholeSize_70 : decode cX1_wholeSize 70 = .ok (.iload_n 1, 1) := by decide +kernel
theorem dX1_wholeSize_71 : decode cX1_wholeSize 71 = .ok (.lload_n 2, 1) := by decide +kernel
theorem dX1_wholeSize_72 : decode cX1_wholeSize 72 = .ok (.invokestatic 97, 3) := by decide +kernel
theorem dX1_wholeSize_75 : decode cX1_wholeSize 75 = .ok (.istore 7, 2) := by decide +kernel
theorem dX1_wholeSize_77 : decode cX1_wholeSize 77 = .ok (.iload 7, 2) := by decide +kernel
theorem dX1_wholeSize_79 : decode cX1_wholeSize 79 = .ok (.ifCond .eq 10, 3) := by decide +kernel
theorem dX1_wholeSize_82 : decode cX1_wholeSize 82 = .ok (.aload_n 0, 1) := by decide +kernel
theorem dX1_wholeSize_83 : decode cX1_wholeSize 83 = .ok (.invokevirtual 86, 3) := by decide +kernel
theorem dX1_wholeSize_86 : decode cX1_wholeSize 86 = .ok (.goto 4, 3) := by decide +kernel
theorem dX1_wholeSize_89 : decode cX1_wholeSize 89 = .ok (.lconst 0, 1) := by decide +kernel
theorem dX1_wholeSize_90 : decode cX1_wholeSize 90 = .ok (.lreturn, 1) := by decide +kernel
theorem dX1_wholeSize_91 : decode cX1_wholeSize 91 = .ok (.lconst 1, 1) := by decide +kernel
theorem dX1_wholeSize_92 : decode cX1_wholeSize 92 = .ok (.aload_n 0, 1) := by decide +kernel
theorem dX1_wholeSize_93 : decode cX1_wholeSize 93 = .ok (.getfield 41, 3) := by decide +kernel
theorem dX1_wholeSize_96 : decode cX1_wholeSize 96 = .ok (.iload 6, 2) := by decide +kernel
theorem dX1_wholeSize_98 : decode cX1_wholeSize 98 = .ok (.isub, 1) := by decide +kernel
theorem dX1_wholeSize_99 : decode cX1_wholeSize 99 = .ok (.lshl, 1) := by decide +kernel
theorem dX1_wholeSize_100 : decode cX1_wholeSize 100 = .ok (.lstore 7, 2) := by decide +kernel
theorem dX1_wholeSize_102 : decode cX1_wholeSize 102 = .ok (.lload 4, 2) := by decide +kernel
theorem dX1_wholeSize_104 : decode cX1_wholeSize 104 = .ok (.lload 7, 2) := by decide +kernel
theorem dX1_wholeSize_106 : decode cX1_wholeSize 106 = .ok (.lconst 1, 1) := by decide +kernel
theorem dX1_wholeSize_107 : decode cX1_wholeSize 107 = .ok (.lsub, 1) := by decide +kernel
theorem dX1_wholeSize_108 : decode cX1_wholeSize 108 = .ok (.land, 1) := by decide +kernel
theorem dX1_wholeSize_109 : decode cX1_wholeSize 109 = .ok (.lstore 9, 2) := by decide +kernel
theorem dX1_wholeSize_111 : decode cX1_wholeSize 111 = .ok (.lload 9, 2) := by decide +kernel
theorem dX1_wholeSize_113 : decode cX1_wholeSize 113 = .ok (.lconst 0, 1) := by decide +kernel
theorem dX1_wholeSize_114 : decode cX1_wholeSize 114 = .ok (.lcmp, 1) := by decide +kernel
theorem dX1_wholeSize_115 : decode cX1_wholeSize 115 = .ok (.ifCond .ne 6, 3) := by decide +kernel
theorem dX1_wholeSize_118 : decode cX1_wholeSize 118 = .ok (.lload 4, 2) := by decide +kernel
theorem dX1_wholeSize_120 : decode cX1_wholeSize 120 = .ok (.lreturn, 1) := by decide +kernel
theorem dX1_wholeSize_121 : decode cX1_wholeSize 121 = .ok (.lload 4, 2) := by decide +kernel
theorem dX1_wholeSize_123 : decode cX1_wholeSize 123 = .ok (.lload 9, 2) := by decide +kernel
theorem dX1_wholeSize_125 : decode cX1_wholeSize 125 = .ok (.lsub, 1) := by decide +kernel
theorem dX1_wholeSize_126 : decode cX1_wholeSize 126 = .ok (.lstore 11, 2) := by decide +kernel
theorem dX1_wholeSize_128 : decode cX1_wholeSize 128 = .ok (.iload_n 1, 1) := by decide +kernel
theorem dX1_wholeSize_129 : decode cX1_wholeSize 129 = .ok (.iconst 5, 1) := by decide +kernel
theorem dX1_wholeSize_130 : decode cX1_wholeSize 130 = .ok (.if_icmp .ne 15, 3) := by decide +kernel
theorem dX1_wholeSize_133 : decode cX1_wholeSize 133 = .ok (.lload 11, 2) := by decide +kernel
theorem dX1_wholeSize_135 : decode cX1_wholeSize 135 = .ok (.lload 9, 2) := by decide +kernel
theorem dX1_wholeSize_137 : decode cX1_wholeSize 137 = .ok (.lload 7, 2) := by decide +kernel
theorem dX1_wholeSize_139 : decode cX1_wholeSize 139 = .ok (.invokestatic 101, 3) := by decide +kernel
theorem dX1_wholeSize_142 : decode cX1_wholeSize 142 = .ok (.goto 8, 3) := by decide +kernel
theorem dX1_wholeSize_145 : decode cX1_wholeSize 145 = .ok (.iload_n 1, 1) := by decide +kernel
theorem dX1_wholeSize_146 : decode cX1_wholeSize 146 = .ok (.lload_n 2, 1) := by decide +kernel
theorem dX1_wholeSize_147 : decode cX1_wholeSize 147 = .ok (.invokestatic 97, 3) := by decide +kernel
theorem dX1_wholeSize_150 : decode cX1_wholeSize 150 = .ok (.istore 13, 2) := by decide +kernel
theorem dX1_wholeSize_152 : decode cX1_wholeSize 152 = .ok (.iload 13, 2) := by decide +kernel
theorem dX1_wholeSize_154 : decode cX1_wholeSize 154 = .ok (.ifCond .eq 11, 3) := by decide +kernel
theorem dX1_wholeSize_157 : decode cX1_wholeSize 157 = .ok (.lload 11, 2) := by decide +kernel
theorem dX1_wholeSize_159 : decode cX1_wholeSize 159 = .ok (.lload 7, 2) := by decide +kernel
theorem dX1_wholeSize_161 : decode cX1_wholeSize 161 = .ok (.ladd, 1) := by decide +kernel
theorem dX1_wholeSize_162 : decode cX1_wholeSize 162 = .ok (.goto 5, 3) := by decide +kernel
theorem dX1_wholeSize_165 : decode cX1_wholeSize 165 = .ok (.lload 11, 2) := by decide +kernel
theorem dX1_wholeSize_167 : decode cX1_wholeSize 167 = .ok (.lreturn, 1) := by decide +kernel
theorem dX1_growsAway_0 : decode cX1_growsAway 0 = .ok (.iload_n 0, 1) := by decide +kernel
theorem dX1_growsAway_1 : decode cX1_growsAway 1 = .ok (.iconst 3, 1) := by decide +kernel
theorem dX1_growsAway_2 : decode cX1_growsAway 2 = .ok (.if_icmp .ne 17, 3) := by decide +kernel
theorem dX1_growsAway_5 : decode cX1_growsAway 5 = .ok (.lload_n 1, 1) := by decide +kernel
theorem dX1_growsAway_6 : decode cX1_growsAway 6 = .ok (.lconst 0, 1) := by decide +kernel
theorem dX1_growsAway_7 : decode cX1_growsAway 7 = .ok (.lcmp, 1) := by decide +kernel
theorem dX1_growsAway_8 : decode cX1_growsAway 8 = .ok (.ifCond .ge 7, 3) := by decide +kernel
theorem dX1_growsAway_11 : decode cX1_growsAway 11 = .ok (.iconst 1, 1) := by decide +kernel
theorem dX1_growsAway_12 : decode cX1_growsAway 12 = .ok (.goto 18, 3) := by decide +kernel
theorem dX1_growsAway_15 : decode cX1_growsAway 15 = .ok (.iconst 0, 1) := by decide +kernel
theorem dX1_growsAway_16 : decode cX1_growsAway 16 = .ok (.goto 14, 3) := by decide +kernel
theorem dX1_growsAway_19 : decode cX1_growsAway 19 = .ok (.lload_n 1, 1) := by decide +kernel
theorem dX1_growsAway_20 : decode cX1_growsAway 20 = .ok (.lconst 0, 1) := by decide +kernel
theorem dX1_growsAway_21 : decode cX1_growsAway 21 = .ok (.lcmp, 1) := by decide +kernel
theorem dX1_growsAway_22 : decode cX1_growsAway 22 = .ok (.ifCond .lt 7, 3) := by decide +kernel
theorem dX1_growsAway_25 : decode cX1_growsAway 25 = .ok (.iconst 1, 1) := by decide +kernel
theorem dX1_growsAway_26 : decode cX1_growsAway 26 = .ok (.goto 4, 3) := by decide +kernel
theorem dX1_growsAway_29 : decode cX1_growsAway 29 = .ok (.iconst 0, 1) := by decide +kernel
theorem dX1_growsAway_30 : decode cX1_growsAway 30 = .ok (.ireturn, 1) := by decide +kernel
theorem dX1_isNearerAway_0 : decode cX1_isNearerAway 0 = .ok (.lload 4, 2) := by decide +kernel
theorem dX1_isNearerAway_2 : decode cX1_isNearerAway 2 = .ok (.iconst 1, 1) := by decide +kernel
theorem dX1_isNearerAway_3 : decode cX1_isNearerAway 3 = .ok (.lshr, 1) := by decide +kernel
theorem dX1_isNearerAway_4 : decode cX1_isNearerAway 4 = .ok (.lstore 6, 2) := by decide +kernel
theorem dX1_isNearerAway_6 : decode cX1_isNearerAway 6 = .ok (.lload_n 2, 1) := by decide +kernel
theorem dX1_isNearerAway_7 : decode cX1_isNearerAway 7 = .ok (.lload 6, 2) := by decide +kernel
theorem dX1_isNearerAway_9 : decode cX1_isNearerAway 9 = .ok (.lcmp, 1) := by decide +kernel
theorem dX1_isNearerAway_10 : decode cX1_isNearerAway 10 = .ok (.ifCond .gt 19, 3) := by decide +kernel
theorem dX1_isNearerAway_13 : decode cX1_isNearerAway 13 = .ok (.lload_n 2, 1) := by decide +kernel
theorem dX1_isNearerAway_14 : decode cX1_isNearerAway 14 = .ok (.lload 6, 2) := by decide +kernel
theorem dX1_isNearerAway_16 : decode cX1_isNearerAway 16 = .ok (.lcmp, 1) := by decide +kernel
theorem dX1_isNearerAway_17 : decode cX1_isNearerAway 17 = .ok (.ifCond .ne 16, 3) := by decide +kernel
theorem dX1_isNearerAway_20 : decode cX1_isNearerAway 20 = .ok (.lload_n 0, 1) := by decide +kernel
theorem dX1_isNearerAway_21 : decode cX1_isNearerAway 21 = .ok (.lload 4, 2) := by decide +kernel
theorem dX1_isNearerAway_23 : decode cX1_isNearerAway 23 = .ok (.land, 1) := by decide +kernel
theorem dX1_isNearerAway_24 : decode cX1_isNearerAway 24 = .ok (.lconst 0, 1) := by decide +kernel
theorem dX1_isNearerAway_25 : decode cX1_isNearerAway 25 = .ok (.lcmp, 1) := by decide +kernel
theorem dX1_isNearerAway_26 : decode cX1_isNearerAway 26 = .ok (.ifCond .eq 7, 3) := by decide +kernel
theorem dX1_isNearerAway_29 : decode cX1_isNearerAway 29 = .ok (.iconst 1, 1) := by decide +kernel
theorem dX1_isNearerAway_30 : decode cX1_isNearerAway 30 = .ok (.goto 4, 3) := by decide +kernel
theorem dX1_isNearerAway_33 : decode cX1_isNearerAway 33 = .ok (.iconst 0, 1) := by decide +kernel
theorem dX1_isNearerAway_34 : decode cX1_isNearerAway 34 = .ok (.ireturn, 1) := by decide +kernel
set_option maxRecDepth 20000 in
theorem ggX1_castTo_X1_isWhole : GoodIn wsX1_castTo wsX1_isWhole := goodIn_r _ [5, 6] (by decide +kernel) (by decide +kernel)
set_option maxRecDepth 20000 in
theorem gX1_castTo_X1_isWhole : GoodIn wsX1_castTo (wsV RX1 55 RX1 yX1_isWhole wsX1_isWhole) := goodIn_app (goodIn_of _ (by decide +kernel)) ggX1_castTo_X1_isWhole
set_option maxRecDepth 20000 in
theorem ggX1_castTo_X1_fitted : GoodIn wsX1_castTo wsX1_fitted := goodIn_r _ [10, 11] (by decide +kernel) (by decide +kernel)
set_option maxRecDepth 20000 in
theorem gX1_castTo_X1_fitted : GoodIn wsX1_castTo (wsV RX1 89 RX1 yX1_fitted wsX1_fitted) := goodIn_app (goodIn_of _ (by decide +kernel)) ggX1_castTo_X1_fitted
set_option maxRecDepth 20000 in
theorem ggX1_castTo_X1_roundedWhole : GoodIn wsX1_castTo wsX1_roundedWhole := goodIn_r _ [15, 16, 17, 18, 4, 19, 20, 6, 21, 22, 23, 24, 25, 26, 27, 28, 29, 30, 31, 32, 33, 34, 35, 36, 37, 38, 39, 40, 41, 42] (by decide +kernel) (by decide +kernel)
set_option maxRecDepth 20000 in
theorem gX1_castTo_X1_roundedWhole : GoodIn wsX1_castTo (wsV RX1 105 RX1 yX1_roundedWhole wsX1_roundedWhole) := goodIn_app (goodIn_of _ (by decide +kernel)) ggX1_castTo_X1_roundedWhole
set_option maxRecDepth 20000 in
theorem ggX1_castTo_X1_cutTo : GoodIn wsX1_castTo wsX1_cutTo := goodIn_r _ [46, 41, 6, 20, 11, 42] (by decide +kernel) (by decide +kernel)
set_option maxRecDepth 20000 in
theorem gX1_castTo_X1_cutTo : GoodIn wsX1_castTo (wsV RX1 108 RX1 yX1_cutTo wsX1_cutTo) := goodIn_app (goodIn_of _ (by decide +kernel)) ggX1_castTo_X1_cutTo
set_option maxRecDepth 20000 in
theorem ggX1_castTo_X1_refit : GoodIn wsX1_castTo wsX1_refit := goodIn_r _ [50, 41, 6, 21, 22, 23, 24, 20, 37, 38, 39, 4, 40, 42, 32, 33, 34, 35, 36, 16, 17, 18, 19, 25, 26, 27, 28, 29, 30, 31] (by decide +kernel) (by decide +kernel)
set_option maxRecDepth 20000 in
theorem gX1_castTo_X1_refit : GoodIn wsX1_castTo (wsV RX1 112 RX1 yX1_refit wsX1_refit) := goodIn_app (goodIn_of _ (by decide +kernel)) ggX1_castTo_X1_refit
theorem dX1_castTo_0 : decode cX1_castTo 0 = .ok (.aload_n 0, 1) := by decide +kernel
theorem dX1_castTo_1 : decode cX1_castTo 1 = .ok (.invokevirtual 55, 3) := by decide +kernel
theorem dX1_castTo_4 : decode cX1_castTo 4 = .ok (.ifCond .eq 24, 3) := by decide +kernel
theorem dX1_castTo_7 : decode cX1_castTo 7 = .ok (.aload_n 1, 1) := by decide +kernel
theorem dX1_castTo_8 : decode cX1_castTo 8 = .ok (.invokevirtual 55, 3) := by decide +kernel
theorem dX1_castTo_11 : decode cX1_castTo 11 = .ok (.ifCond .eq 11, 3) := by decide +kernel
theorem dX1_castTo_14 : decode cX1_castTo 14 = .ok (.aload_n 1, 1) := by decide +kernel
theorem dX1_castTo_15 : decode cX1_castTo 15 = .ok (.lload_n 2, 1) := by decide +kernel
theorem dX1_castTo_16 : decode cX1_castTo 16 = .ok (.invokevirtual 89, 3) := by decide +kernel
theorem dX1_castTo_19 : decode cX1_castTo 19 = .ok (.goto 8, 3) := by decide +kernel
theorem dX1_castTo_22 : decode cX1_castTo 22 = .ok (.aload_n 1, 1) := by decide +kernel
theorem dX1_castTo_23 : decode cX1_castTo 23 = .ok (.lload_n 2, 1) := by decide +kernel
theorem dX1_castTo_24 : decode cX1_castTo 24 = .ok (.invokevirtual 105, 3) := by decide +kernel
theorem dX1_castTo_27 : decode cX1_castTo 27 = .ok (.lreturn, 1) := by decide +kernel
theorem dX1_castTo_28 : decode cX1_castTo 28 = .ok (.aload_n 1, 1) := by decide +kernel
theorem dX1_castTo_29 : decode cX1_castTo 29 = .ok (.invokevirtual 55, 3) := by decide +kernel
theorem dX1_castTo_32 : decode cX1_castTo 32 = .ok (.ifCond .eq 12, 3) := by decide +kernel
theorem dX1_castTo_35 : decode cX1_castTo 35 = .ok (.aload_n 0, 1) := by decide +kernel
theorem dX1_castTo_36 : decode cX1_castTo 36 = .ok (.aload_n 1, 1) := by decide +kernel
theorem dX1_castTo_37 : decode cX1_castTo 37 = .ok (.lload_n 2, 1) := by decide +kernel
theorem dX1_castTo_38 : decode cX1_castTo 38 = .ok (.invokevirtual 108, 3) := by decide +kernel
theorem dX1_castTo_41 : decode cX1_castTo 41 = .ok (.goto 9, 3) := by decide +kernel
theorem dX1_castTo_44 : decode cX1_castTo 44 = .ok (.aload_n 0, 1) := by decide +kernel
theorem dX1_castTo_45 : decode cX1_castTo 45 = .ok (.aload_n 1, 1) := by decide +kernel
theorem dX1_castTo_46 : decode cX1_castTo 46 = .ok (.lload_n 2, 1) := by decide +kernel
theorem dX1_castTo_47 : decode cX1_castTo 47 = .ok (.invokevirtual 112, 3) := by decide +kernel
theorem dX1_castTo_50 : decode cX1_castTo 50 = .ok (.lreturn, 1) := by decide +kernel
set_option maxRecDepth 20000 in
theorem ggX1_roundedWhole_X1_rounded : GoodIn wsX1_roundedWhole wsX1_rounded := goodIn_r _ [5, 6, 7, 8, 9, 10, 11, 12, 13, 14, 15, 16, 17, 4, 18, 19, 20, 21, 22, 23] (by decide +kernel) (by decide +kernel)
set_option maxRecDepth 20000 in
theorem gX1_roundedWhole_X1_rounded : GoodIn wsX1_roundedWhole (wsV RX1 115 RX1 yX1_rounded wsX1_rounded) := goodIn_app (goodIn_of _ (by decide +kernel)) ggX1_roundedWhole_X1_rounded
set_option maxRecDepth 20000 in
theorem ggX1_roundedWhole_X1_withSignOf : GoodIn wsX1_roundedWhole wsX1_withSignOf := goodIn_r _ [27, 28, 29] (by decide +kernel) (by decide +kernel)
set_option maxRecDepth 20000 in
theorem gX1_roundedWhole_X1_withSignOf : GoodIn wsX1_roundedWhole (wsV RX1 78 RX1 yX1_withSignOf wsX1_withSignOf) := goodIn_app (goodIn_of _ (by decide +kernel)) ggX1_roundedWhole_X1_withSignOf
theorem dX1_roundedWhole_0 : decode cX1_roundedWhole 0 = .ok (.lload_n 1, 1) := by decide +kernel
theorem dX1_roundedWhole_1 : decode cX1_roundedWhole 1 = .ok (.lconst 0, 1) := by decide +kernel
theorem dX1_roundedWhole_2 : decode cX1_roundedWhole 2 = .ok (.lcmp, 1) := by decide +kernel
theorem dX1_roundedWhole_3 : decode cX1_roundedWhole 3 = .ok (.ifCond .ne 7, 3) := by decide +kernel
theorem dX1_roundedWhole_6 : decode cX1_roundedWhole 6 = .ok (.lconst 0, 1) := by decide +kernel
theorem dX1_roundedWhole_7 : decode cX1_roundedWhole 7 = .ok (.goto 25, 3) := by decide +kernel
theorem dX1_roundedWhole_10 : decode cX1_roundedWhole 10 = .ok (.aload_n 0, 1) := by decide +kernel
theorem dX1_roundedWhole_11 : decode cX1_roundedWhole 11 = .ok (.lload_n 1, 1) := by decide +kernel
theorem dX1_roundedWhole_12 : decode cX1_roundedWhole 12 = .ok (.aload_n 0, 1) := by decide +kernel
theorem dX1_roundedWhole_13 : decode cX1_roundedWhole 13 = .ok (.lload_n 1, 1) := by decide +kernel
theorem dX1_roundedWhole_14 : decode cX1_roundedWhole 14 = .ok (.lconst 0, 1) := by decide +kernel
theorem dX1_roundedWhole_15 : decode cX1_roundedWhole 15 = .ok (.lcmp, 1) := by decide +kernel
theorem dX1_roundedWhole_16 : decode cX1_roundedWhole 16 = .ok (.ifCond .ge 8, 3) := by decide +kernel
theorem dX1_roundedWhole_19 : decode cX1_roundedWhole 19 = .ok (.lload_n 1, 1) := by decide +kernel
theorem dX1_roundedWhole_20 : decode cX1_roundedWhole 20 = .ok (.lneg, 1) := by decide +kernel
theorem dX1_roundedWhole_21 : decode cX1_roundedWhole 21 = .ok (.goto 4, 3) := by decide +kernel
theorem dX1_roundedWhole_24 : decode cX1_roundedWhole 24 = .ok (.lload_n 1, 1) := by decide +kernel
theorem dX1_roundedWhole_25 : decode cX1_roundedWhole 25 = .ok (.iconst 0, 1) := by decide +kernel
theorem dX1_roundedWhole_26 : decode cX1_roundedWhole 26 = .ok (.invokevirtual 115, 3) := by decide +kernel
theorem dX1_roundedWhole_29 : decode cX1_roundedWhole 29 = .ok (.invokevirtual 78, 3) := by decide +kernel
theorem dX1_roundedWhole_32 : decode cX1_roundedWhole 32 = .ok (.lreturn, 1) := by decide +kernel
theorem dX1_cutTo_0 : decode cX1_cutTo 0 = .ok (.lload_n 2, 1) := by decide +kernel
theorem dX1_cutTo_1 : decode cX1_cutTo 1 = .ok (.aload_n 0, 1) := by decide +kernel
theorem dX1_cutTo_2 : decode cX1_cutTo 2 = .ok (.getfield 47, 3) := by decide +kernel
theorem dX1_cutTo_5 : decode cX1_cutTo 5 = .ok (.land, 1) := by decide +kernel
theorem dX1_cutTo_6 : decode cX1_cutTo 6 = .ok (.lstore 4, 2) := by decide +kernel
theorem dX1_cutTo_8 : decode cX1_cutTo 8 = .ok (.lload 4, 2) := by decide +kernel
theorem dX1_cutTo_10 : decode cX1_cutTo 10 = .ok (.aload_n 0, 1) := by decide +kernel
theorem dX1_cutTo_11 : decode cX1_cutTo 11 = .ok (.getfield 41, 3) := by decide +kernel
theorem dX1_cutTo_14 : decode cX1_cutTo 14 = .ok (.lshr, 1) := by decide +kernel
theorem dX1_cutTo_15 : decode cX1_cutTo 15 = .ok (.l2i, 1) := by decide +kernel
theorem dX1_cutTo_16 : decode cX1_cutTo 16 = .ok (.aload_n 0, 1) := by decide +kernel
theorem dX1_cutTo_17 : decode cX1_cutTo 17 = .ok (.getfield 44, 3) := by decide +kernel
theorem dX1_cutTo_20 : decode cX1_cutTo 20 = .ok (.isub, 1) := by decide +kernel
theorem dX1_cutTo_21 : decode cX1_cutTo 21 = .ok (.istore 6, 2) := by decide +kernel
theorem dX1_cutTo_23 : decode cX1_cutTo 23 = .ok (.iload 6, 2) := by decide +kernel
theorem dX1_cutTo_25 : decode cX1_cutTo 25 = .ok (.ifCond .ge 5, 3) := by decide +kernel
theorem dX1_cutTo_28 : decode cX1_cutTo 28 = .ok (.lconst 0, 1) := by decide +kernel
theorem dX1_cutTo_29 : decode cX1_cutTo 29 = .ok (.lreturn, 1) := by decide +kernel
theorem dX1_cutTo_30 : decode cX1_cutTo 30 = .ok (.iload 6, 2) := by decide +kernel
theorem dX1_cutTo_32 : decode cX1_cutTo 32 = .ok (.aload_n 1, 1) := by decide +kernel
theorem dX1_cutTo_33 : decode cX1_cutTo 33 = .ok (.getfield 37, 3) := by decide +kernel
theorem dX1_cutTo_36 : decode cX1_cutTo 36 = .ok (.iconst 1, 1) := by decide +kernel
theorem dX1_cutTo_37 : decode cX1_cutTo 37 = .ok (.isub, 1) := by decide +kernel
theorem dX1_cutTo_38 : decode cX1_cutTo 38 = .ok (.if_icmp .lt 25, 3) := by decide +kernel
theorem dX1_cutTo_41 : decode cX1_cutTo 41 = .ok (.lload_n 2, 1) := by decide +kernel
theorem dX1_cutTo_42 : decode cX1_cutTo 42 = .ok (.lconst 0, 1) := by decide +kernel
theorem dX1_cutTo_43 : decode cX1_cutTo 43 = .ok (.lcmp, 1) := by decide +kernel
theorem dX1_cutTo_44 : decode cX1_cutTo 44 = .ok (.ifCond .ge 14, 3) := by decide +kernel
theorem dX1_cutTo_47 : decode cX1_cutTo 47 = .ok (.aload_n 1, 1) := by decide +kernel
theorem dX1_cutTo_48 : decode cX1_cutTo 48 = .ok (.getfield 47, 3) := by decide +kernel
theorem dX1_cutTo_51 : decode cX1_cutTo 51 = .ok (.ldc2_w 92, 3) := by decide +kernel
theorem dX1_cutTo_54 : decode cX1_cutTo 54 = .ok (.lxor, 1) := by decide +kernel
theorem dX1_cutTo_55 : decode cX1_cutTo 55 = .ok (.goto 7, 3) := by decide +kernel
theorem dX1_cutTo_58 : decode cX1_cutTo 58 = .ok (.aload_n 1, 1) := by decide +kernel
theorem dX1_cutTo_59 : decode cX1_cutTo 59 = .ok (.getfield 47, 3) := by decide +kernel
theorem dX1_cutTo_62 : decode cX1_cutTo 62 = .ok (.lreturn, 1) := by decide +kernel
theorem dX1_cutTo_63 : decode cX1_cutTo 63 = .ok (.lconst 1, 1) := by decide +kernel
theorem dX1_cutTo_64 : decode cX1_cutTo 64 = .ok (.aload_n 0, 1) := by decide +kernel
theorem dX1_cutTo_65 : decode cX1_cutTo 65 = .ok (.getfield 41, 3) := by decide +kernel
theorem dX1_cutTo_68 : decode cX1_cutTo 68 = .ok (.lshl, 1) := by decide +kernel
theorem dX1_cutTo_69 : decode cX1_cutTo 69 = .ok (.lstore 7, 2) := by decide +kernel
theorem dX1_cutTo_71 : decode cX1_cutTo 71 = .ok (.lload 4, 2) := by decide +kernel
theorem dX1_cutTo_73 : decode cX1_cutTo 73 = .ok (.lload 7, 2) := by decide +kernel
theorem dX1_cutTo_75 : decode cX1_cutTo 75 = .ok (.lconst 1, 1) := by decide +kernel
theorem dX1_cutTo_76 : decode cX1_cutTo 76 = .ok (.lsub, 1) := by decide +kernel
theorem dX1_cutTo_77 : decode cX1_cutTo 77 = .ok (.land, 1) := by decide +kernel
theorem dX1_cutTo_78 : decode cX1_cutTo 78 = .ok (.lload 7, 2) := by decide +kernel
theorem dX1_cutTo_80 : decode cX1_cutTo 80 = .ok (.lor, 1) := by decide +kernel
theorem dX1_cutTo_81 : decode cX1_cutTo 81 = .ok (.lstore 9, 2) := by decide +kernel
theorem dX1_cutTo_83 : decode cX1_cutTo 83 = .ok (.iload 6, 2) := by decide +kernel
theorem dX1_cutTo_85 : decode cX1_cutTo 85 = .ok (.aload_n 0, 1) := by decide +kernel
theorem dX1_cutTo_86 : decode cX1_cutTo 86 = .ok (.getfield 41, 3) := by decide +kernel
theorem dX1_cutTo_89 : decode cX1_cutTo 89 = .ok (.isub, 1) := by decide +kernel
theorem dX1_cutTo_90 : decode cX1_cutTo 90 = .ok (.istore 11, 2) := by decide +kernel
theorem dX1_cutTo_92 : decode cX1_cutTo 92 = .ok (.iload 11, 2) := by decide +kernel
theorem dX1_cutTo_94 : decode cX1_cutTo 94 = .ok (.ifCond .lt 11, 3) := by decide +kernel
theorem dX1_cutTo_97 : decode cX1_cutTo 97 = .ok (.lload 9, 2) := by decide +kernel
theorem dX1_cutTo_99 : decode cX1_cutTo 99 = .ok (.iload 11, 2) := by decide +kernel
theorem dX1_cutTo_101 : decode cX1_cutTo 101 = .ok (.lshl, 1) := by decide +kernel
theorem dX1_cutTo_102 : decode cX1_cutTo 102 = .ok (.goto 9, 3) := by decide +kernel
theorem dX1_cutTo_105 : decode cX1_cutTo 105 = .ok (.lload 9, 2) := by decide +kernel
theorem dX1_cutTo_107 : decode cX1_cutTo 107 = .ok (.iload 11, 2) := by decide +kernel
theorem dX1_cutTo_109 : decode cX1_cutTo 109 = .ok (.ineg, 1) := by decide +kernel
theorem dX1_cutTo_110 : decode cX1_cutTo 110 = .ok (.lshr, 1) := by decide +kernel
theorem dX1_cutTo_111 : decode cX1_cutTo 111 = .ok (.lstore 12, 2) := by decide +kernel
theorem dX1_cutTo_113 : decode cX1_cutTo 113 = .ok (.lload_n 2, 1) := by decide +kernel
theorem dX1_cutTo_114 : decode cX1_cutTo 114 = .ok (.lconst 0, 1) := by decide +kernel
theorem dX1_cutTo_115 : decode cX1_cutTo 115 = .ok (.lcmp, 1) := by decide +kernel
theorem dX1_cutTo_116 : decode cX1_cutTo 116 = .ok (.ifCond .ge 9, 3) := by decide +kernel
theorem dX1_cutTo_119 : decode cX1_cutTo 119 = .ok (.lload 12, 2) := by decide +kernel
theorem dX1_cutTo_121 : decode cX1_cutTo 121 = .ok (.lneg, 1) := by decide +kernel
theorem dX1_cutTo_122 : decode cX1_cutTo 122 = .ok (.goto 5, 3) := by decide +kernel
theorem dX1_cutTo_125 : decode cX1_cutTo 125 = .ok (.lload 12, 2) := by decide +kernel
theorem dX1_cutTo_127 : decode cX1_cutTo 127 = .ok (.lreturn, 1) := by decide +kernel
set_option maxRecDepth 20000 in
theorem ggX1_refit_X1_withSignOf : GoodIn wsX1_refit wsX1_withSignOf := goodIn_r _ [12, 1, 13] (by decide +kernel) (by decide +kernel)
set_option maxRecDepth 20000 in
theorem gX1_refit_X1_withSignOf : GoodIn wsX1_refit (wsV RX1 78 RX1 yX1_withSignOf wsX1_withSignOf) := goodIn_app (goodIn_of _ (by decide +kernel)) ggX1_refit_X1_withSignOf
set_option maxRecDepth 20000 in
theorem ggX1_refit_X1_infinite : GoodIn wsX1_refit wsX1_infinite := goodIn_r _ [17, 18, 7, 2] (by decide +kernel) (by decide +kernel)
set_option maxRecDepth 20000 in
theorem gX1_refit_X1_infinite : GoodIn wsX1_refit (wsV RX1 59 RX1 yX1_infinite wsX1_infinite) := goodIn_app (goodIn_of _ (by decide +kernel)) ggX1_refit_X1_infinite
set_option maxRecDepth 20000 in
theorem ggX1_refit_X1_rounded : GoodIn wsX1_refit wsX1_rounded := goodIn_r _ [22, 7, 2, 3, 4, 5, 6, 23, 24, 25, 26, 27, 28, 11, 29, 14, 15, 16, 17, 18] (by decide +kernel) (by decide +kernel)
set_option maxRecDepth 20000 in
theorem gX1_refit_X1_rounded : GoodIn wsX1_refit (wsV RX1 115 RX1 yX1_rounded wsX1_rounded) := goodIn_app (goodIn_of _ (by decide +kernel)) ggX1_refit_X1_rounded
theorem dX1_refit_0 : decode cX1_refit 0 = .ok (.lload_n 2, 1) := by decide +kernel
theorem dX1_refit_1 : decode cX1_refit 1 = .ok (.aload_n 0, 1) := by decide +kernel
theorem dX1_refit_2 : decode cX1_refit 2 = .ok (.getfield 47, 3) := by decide +kernel
theorem dX1_refit_5 : decode cX1_refit 5 = .ok (.land, 1) := by decide +kernel
theorem dX1_refit_6 : decode cX1_refit 6 = .ok (.lstore 4, 2) := by decide +kernel
theorem dX1_refit_8 : decode cX1_refit 8 = .ok (.lload 4, 2) := by decide +kernel
theorem dX1_refit_10 : decode cX1_refit 10 = .ok (.lconst 0, 1) := by decide +kernel
theorem dX1_refit_11 : decode cX1_refit 11 = .ok (.lcmp, 1) := by decide +kernel
theorem dX1_refit_12 : decode cX1_refit 12 = .ok (.ifCond .ne 10, 3) := by decide +kernel
theorem dX1_refit_15 : decode cX1_refit 15 = .ok (.aload_n 1, 1) := by decide +kernel
theorem dX1_refit_16 : decode cX1_refit 16 = .ok (.lload_n 2, 1) := by decide +kernel
theorem dX1_refit_17 : decode cX1_refit 17 = .ok (.lconst 0, 1) := by decide +kernel
theorem dX1_refit_18 : decode cX1_refit 18 = .ok (.invokevirtual 78, 3) := by decide +kernel
theorem dX1_refit_21 : decode cX1_refit 21 = .ok (.lreturn, 1) := by decide +kernel
theorem dX1_refit_22 : decode cX1_refit 22 = .ok (.lload 4, 2) := by decide +kernel
theorem dX1_refit_24 : decode cX1_refit 24 = .ok (.aload_n 0, 1) := by decide +kernel
theorem dX1_refit_25 : decode cX1_refit 25 = .ok (.invokevirtual 59, 3) := by decide +kernel
theorem dX1_refit_28 : decode cX1_refit 28 = .ok (.lcmp, 1) := by decide +kernel
theorem dX1_refit_29 : decode cX1_refit 29 = .ok (.ifCond .ne 13, 3) := by decide +kernel
theorem dX1_refit_32 : decode cX1_refit 32 = .ok (.aload_n 1, 1) := by decide +kernel
theorem dX1_refit_33 : decode cX1_refit 33 = .ok (.lload_n 2, 1) := by decide +kernel
theorem dX1_refit_34 : decode cX1_refit 34 = .ok (.aload_n 1, 1) := by decide +kernel
end
section
theorem dX1_refit_35 : decode cX1_refit 35 = .ok (.invokevirtual 59, 3) := by decide +kernel
theorem dX1_refit_38 : decode cX1_refit 38 = .ok (.invokevirtual 78, 3) := by decide +kernel
theorem dX1_refit_41 : decode cX1_refit 41 = .ok (.lreturn, 1) := by decide +kernel
theorem dX1_refit_42 : decode cX1_refit 42 = .ok (.lconst 1, 1) := by decide +kernel
theorem dX1_refit_43 : decode cX1_refit 43 = .ok (.aload_n 0, 1) := by decide +kernel
theorem dX1_refit_44 : decode cX1_refit 44 = .ok (.getfield 41, 3) := by decide +kernel
theorem dX1_refit_47 : decode cX1_refit 47 = .ok (.lshl, 1) := by decide +kernel
theorem dX1_refit_48 : decode cX1_refit 48 = .ok (.lstore 6, 2) := by decide +kernel
theorem dX1_refit_50 : decode cX1_refit 50 = .ok (.lload 4, 2) := by decide +kernel
theorem dX1_refit_52 : decode cX1_refit 52 = .ok (.aload_n 0, 1) := by decide +kernel
theorem dX1_refit_53 : decode cX1_refit 53 = .ok (.getfield 41, 3) := by decide +kernel
theorem dX1_refit_56 : decode cX1_refit 56 = .ok (.lshr, 1) := by decide +kernel
theorem dX1_refit_57 : decode cX1_refit 57 = .ok (.l2i, 1) := by decide +kernel
theorem dX1_refit_58 : decode cX1_refit 58 = .ok (.istore 8, 2) := by decide +kernel
theorem dX1_refit_60 : decode cX1_refit 60 = .ok (.iload 8, 2) := by decide +kernel
theorem dX1_refit_62 : decode cX1_refit 62 = .ok (.ifCond .ne 8, 3) := by decide +kernel
theorem dX1_refit_65 : decode cX1_refit 65 = .ok (.lload 4, 2) := by decide +kernel
theorem dX1_refit_67 : decode cX1_refit 67 = .ok (.goto 13, 3) := by decide +kernel
theorem dX1_refit_70 : decode cX1_refit 70 = .ok (.lload 4, 2) := by decide +kernel
theorem dX1_refit_72 : decode cX1_refit 72 = .ok (.lload 6, 2) := by decide +kernel
theorem dX1_refit_74 : decode cX1_refit 74 = .ok (.lconst 1, 1) := by decide +kernel
theorem dX1_refit_75 : decode cX1_refit 75 = .ok (.lsub, 1) := by decide +kernel
theorem dX1_refit_76 : decode cX1_refit 76 = .ok (.land, 1) := by decide +kernel
theorem dX1_refit_77 : decode cX1_refit 77 = .ok (.lload 6, 2) := by decide +kernel
theorem dX1_refit_79 : decode cX1_refit 79 = .ok (.lor, 1) := by decide +kernel
theorem dX1_refit_80 : decode cX1_refit 80 = .ok (.lstore 9, 2) := by decide +kernel
theorem dX1_refit_82 : decode cX1_refit 82 = .ok (.iload 8, 2) := by decide +kernel
theorem dX1_refit_84 : decode cX1_refit 84 = .ok (.iconst 1, 1) := by decide +kernel
theorem dX1_refit_85 : decode cX1_refit 85 = .ok (.invokestatic 119, 3) := by decide +kernel
theorem dX1_refit_88 : decode cX1_refit 88 = .ok (.aload_n 0, 1) := by decide +kernel
theorem dX1_refit_89 : decode cX1_refit 89 = .ok (.getfield 44, 3) := by decide +kernel
theorem dX1_refit_92 : decode cX1_refit 92 = .ok (.isub, 1) := by decide +kernel
theorem dX1_refit_93 : decode cX1_refit 93 = .ok (.aload_n 0, 1) := by decide +kernel
theorem dX1_refit_94 : decode cX1_refit 94 = .ok (.getfield 41, 3) := by decide +kernel
theorem dX1_refit_97 : decode cX1_refit 97 = .ok (.isub, 1) := by decide +kernel
theorem dX1_refit_98 : decode cX1_refit 98 = .ok (.istore 11, 2) := by decide +kernel
theorem dX1_refit_100 : decode cX1_refit 100 = .ok (.aload_n 1, 1) := by decide +kernel
theorem dX1_refit_101 : decode cX1_refit 101 = .ok (.lload_n 2, 1) := by decide +kernel
theorem dX1_refit_102 : decode cX1_refit 102 = .ok (.aload_n 1, 1) := by decide +kernel
theorem dX1_refit_103 : decode cX1_refit 103 = .ok (.lload 9, 2) := by decide +kernel
theorem dX1_refit_105 : decode cX1_refit 105 = .ok (.iload 11, 2) := by decide +kernel
theorem dX1_refit_107 : decode cX1_refit 107 = .ok (.invokevirtual 115, 3) := by decide +kernel
theorem dX1_refit_110 : decode cX1_refit 110 = .ok (.invokevirtual 78, 3) := by decide +kernel
theorem dX1_refit_113 : decode cX1_refit 113 = .ok (.lreturn, 1) := by decide +kernel
set_option maxRecDepth 20000 in
theorem ggX1_rounded_X1_isOverHalf : GoodIn wsX1_rounded wsX1_isOverHalf := goodIn_r _ [14, 7] (by decide +kernel) (by decide +kernel)
set_option maxRecDepth 20000 in
theorem gX1_rounded_X1_isOverHalf : GoodIn wsX1_rounded (va_wsS RX1 125 yX1_isOverHalf wsX1_isOverHalf) := goodIn_app (goodIn_of _ (by decide +kernel)) ggX1_rounded_X1_isOverHalf
set_option maxRecDepth 20000 in
theorem ggX1_rounded_X1_infinite : GoodIn wsX1_rounded wsX1_infinite := goodIn_r _ [18, 19, 1, 2] (by decide +kernel) (by decide +kernel)
set_option maxRecDepth 20000 in
theorem gX1_rounded_X1_infinite : GoodIn wsX1_rounded (wsV RX1 59 RX1 yX1_infinite wsX1_infinite) := goodIn_app (goodIn_of _ (by decide +kernel)) ggX1_rounded_X1_infinite
theorem dX1_rounded_0 : decode cX1_rounded 0 = .ok (.lload_n 1, 1) := by decide +kernel
theorem dX1_rounded_1 : decode cX1_rounded 1 = .ok (.lstore 4, 2) := by decide +kernel
theorem dX1_rounded_3 : decode cX1_rounded 3 = .ok (.iload_n 3, 1) := by decide +kernel
theorem dX1_rounded_4 : decode cX1_rounded 4 = .ok (.bipush 63, 2) := by decide +kernel
theorem dX1_rounded_6 : decode cX1_rounded 6 = .ok (.iadd, 1) := by decide +kernel
theorem dX1_rounded_7 : decode cX1_rounded 7 = .ok (.istore 6, 2) := by decide +kernel
theorem dX1_rounded_9 : decode cX1_rounded 9 = .ok (.iconst 0, 1) := by decide +kernel
theorem dX1_rounded_10 : decode cX1_rounded 10 = .ok (.istore 7, 2) := by decide +kernel
theorem dX1_rounded_12 : decode cX1_rounded 12 = .ok (.iload 7, 2) := by decide +kernel
theorem dX1_rounded_14 : decode cX1_rounded 14 = .ok (.bipush 63, 2) := by decide +kernel
theorem dX1_rounded_16 : decode cX1_rounded 16 = .ok (.if_icmp .ge 25, 3) := by decide +kernel
theorem dX1_rounded_19 : decode cX1_rounded 19 = .ok (.lload 4, 2) := by decide +kernel
theorem dX1_rounded_21 : decode cX1_rounded 21 = .ok (.lconst 0, 1) := by decide +kernel
theorem dX1_rounded_22 : decode cX1_rounded 22 = .ok (.lcmp, 1) := by decide +kernel
theorem dX1_rounded_23 : decode cX1_rounded 23 = .ok (.ifCond .le 18, 3) := by decide +kernel
theorem dX1_rounded_26 : decode cX1_rounded 26 = .ok (.lload 4, 2) := by decide +kernel
theorem dX1_rounded_28 : decode cX1_rounded 28 = .ok (.iconst 1, 1) := by decide +kernel
theorem dX1_rounded_29 : decode cX1_rounded 29 = .ok (.lshl, 1) := by decide +kernel
theorem dX1_rounded_30 : decode cX1_rounded 30 = .ok (.lstore 4, 2) := by decide +kernel
theorem dX1_rounded_32 : decode cX1_rounded 32 = .ok (.iinc 6 (-1), 3) := by decide +kernel
theorem dX1_rounded_35 : decode cX1_rounded 35 = .ok (.iinc 7 1, 3) := by decide +kernel
theorem dX1_rounded_38 : decode cX1_rounded 38 = .ok (.goto (-26), 3) := by decide +kernel
theorem dX1_rounded_41 : decode cX1_rounded 41 = .ok (.iload 6, 2) := by decide +kernel
theorem dX1_rounded_43 : decode cX1_rounded 43 = .ok (.aload_n 0, 1) := by decide +kernel
theorem dX1_rounded_44 : decode cX1_rounded 44 = .ok (.getfield 44, 3) := by decide +kernel
theorem dX1_rounded_47 : decode cX1_rounded 47 = .ok (.iadd, 1) := by decide +kernel
theorem dX1_rounded_48 : decode cX1_rounded 48 = .ok (.istore 7, 2) := by decide +kernel
theorem dX1_rounded_50 : decode cX1_rounded 50 = .ok (.bipush 63, 2) := by decide +kernel
theorem dX1_rounded_52 : decode cX1_rounded 52 = .ok (.aload_n 0, 1) := by decide +kernel
theorem dX1_rounded_53 : decode cX1_rounded 53 = .ok (.getfield 41, 3) := by decide +kernel
theorem dX1_rounded_56 : decode cX1_rounded 56 = .ok (.isub, 1) := by decide +kernel
theorem dX1_rounded_57 : decode cX1_rounded 57 = .ok (.iconst 0, 1) := by decide +kernel
theorem dX1_rounded_58 : decode cX1_rounded 58 = .ok (.iconst 1, 1) := by decide +kernel
theorem dX1_rounded_59 : decode cX1_rounded 59 = .ok (.iload 7, 2) := by decide +kernel
theorem dX1_rounded_61 : decode cX1_rounded 61 = .ok (.isub, 1) := by decide +kernel
theorem dX1_rounded_62 : decode cX1_rounded 62 = .ok (.invokestatic 119, 3) := by decide +kernel
theorem dX1_rounded_65 : decode cX1_rounded 65 = .ok (.iadd, 1) := by decide +kernel
theorem dX1_rounded_66 : decode cX1_rounded 66 = .ok (.istore 8, 2) := by decide +kernel
theorem dX1_rounded_68 : decode cX1_rounded 68 = .ok (.iload 8, 2) := by decide +kernel
theorem dX1_rounded_70 : decode cX1_rounded 70 = .ok (.bipush 64, 2) := by decide +kernel
theorem dX1_rounded_72 : decode cX1_rounded 72 = .ok (.if_icmp .le 5, 3) := by decide +kernel
theorem dX1_rounded_75 : decode cX1_rounded 75 = .ok (.lconst 0, 1) := by decide +kernel
theorem dX1_rounded_76 : decode cX1_rounded 76 = .ok (.lreturn, 1) := by decide +kernel
theorem dX1_rounded_77 : decode cX1_rounded 77 = .ok (.iload 8, 2) := by decide +kernel
theorem dX1_rounded_79 : decode cX1_rounded 79 = .ok (.bipush 64, 2) := by decide +kernel
theorem dX1_rounded_81 : decode cX1_rounded 81 = .ok (.if_icmp .ne 7, 3) := by decide +kernel
theorem dX1_rounded_84 : decode cX1_rounded 84 = .ok (.lconst 0, 1) := by decide +kernel
theorem dX1_rounded_85 : decode cX1_rounded 85 = .ok (.goto 8, 3) := by decide +kernel
theorem dX1_rounded_88 : decode cX1_rounded 88 = .ok (.lload 4, 2) := by decide +kernel
theorem dX1_rounded_90 : decode cX1_rounded 90 = .ok (.iload 8, 2) := by decide +kernel
theorem dX1_rounded_92 : decode cX1_rounded 92 = .ok (.lushr, 1) := by decide +kernel
theorem dX1_rounded_93 : decode cX1_rounded 93 = .ok (.lstore 9, 2) := by decide +kernel
theorem dX1_rounded_95 : decode cX1_rounded 95 = .ok (.lload 4, 2) := by decide +kernel
theorem dX1_rounded_97 : decode cX1_rounded 97 = .ok (.bipush 64, 2) := by decide +kernel
theorem dX1_rounded_99 : decode cX1_rounded 99 = .ok (.iload 8, 2) := by decide +kernel
theorem dX1_rounded_101 : decode cX1_rounded 101 = .ok (.isub, 1) := by decide +kernel
theorem dX1_rounded_102 : decode cX1_rounded 102 = .ok (.lshl, 1) := by decide +kernel
theorem dX1_rounded_103 : decode cX1_rounded 103 = .ok (.lstore 11, 2) := by decide +kernel
theorem dX1_rounded_105 : decode cX1_rounded 105 = .ok (.lload 11, 2) := by decide +kernel
theorem dX1_rounded_107 : decode cX1_rounded 107 = .ok (.invokestatic 125, 3) := by decide +kernel
theorem dX1_rounded_110 : decode cX1_rounded 110 = .ok (.ifCond .ne 21, 3) := by decide +kernel
theorem dX1_rounded_113 : decode cX1_rounded 113 = .ok (.lload 11, 2) := by decide +kernel
theorem dX1_rounded_115 : decode cX1_rounded 115 = .ok (.ldc2_w 130, 3) := by decide +kernel
theorem dX1_rounded_118 : decode cX1_rounded 118 = .ok (.lcmp, 1) := by decide +kernel
theorem dX1_rounded_119 : decode cX1_rounded 119 = .ok (.ifCond .ne 18, 3) := by decide +kernel
theorem dX1_rounded_122 : decode cX1_rounded 122 = .ok (.lload 9, 2) := by decide +kernel
theorem dX1_rounded_124 : decode cX1_rounded 124 = .ok (.lconst 1, 1) := by decide +kernel
theorem dX1_rounded_125 : decode cX1_rounded 125 = .ok (.land, 1) := by decide +kernel
theorem dX1_rounded_126 : decode cX1_rounded 126 = .ok (.lconst 0, 1) := by decide +kernel
theorem dX1_rounded_127 : decode cX1_rounded 127 = .ok (.lcmp, 1) := by decide +kernel
theorem dX1_rounded_128 : decode cX1_rounded 128 = .ok (.ifCond .eq 9, 3) := by decide +kernel
theorem dX1_rounded_131 : decode cX1_rounded 131 = .ok (.lload 9, 2) := by decide +kernel
theorem dX1_rounded_133 : decode cX1_rounded 133 = .ok (.lconst 1, 1) := by decide +kernel
theorem dX1_rounded_134 : decode cX1_rounded 134 = .ok (.ladd, 1) := by decide +kernel
theorem dX1_rounded_135 : decode cX1_rounded 135 = .ok (.lstore 9, 2) := by decide +kernel
theorem dX1_rounded_137 : decode cX1_rounded 137 = .ok (.lload 9, 2) := by decide +kernel
theorem dX1_rounded_139 : decode cX1_rounded 139 = .ok (.iload 7, 2) := by decide +kernel
theorem dX1_rounded_141 : decode cX1_rounded 141 = .ok (.iconst 1, 1) := by decide +kernel
theorem dX1_rounded_142 : decode cX1_rounded 142 = .ok (.invokestatic 119, 3) := by decide +kernel
theorem dX1_rounded_145 : decode cX1_rounded 145 = .ok (.i2l, 1) := by decide +kernel
theorem dX1_rounded_146 : decode cX1_rounded 146 = .ok (.lconst 1, 1) := by decide +kernel
theorem dX1_rounded_147 : decode cX1_rounded 147 = .ok (.lsub, 1) := by decide +kernel
theorem dX1_rounded_148 : decode cX1_rounded 148 = .ok (.aload_n 0, 1) := by decide +kernel
theorem dX1_rounded_149 : decode cX1_rounded 149 = .ok (.getfield 41, 3) := by decide +kernel
theorem dX1_rounded_152 : decode cX1_rounded 152 = .ok (.lshl, 1) := by decide +kernel
theorem dX1_rounded_153 : decode cX1_rounded 153 = .ok (.ladd, 1) := by decide +kernel
theorem dX1_rounded_154 : decode cX1_rounded 154 = .ok (.lstore 13, 2) := by decide +kernel
theorem dX1_rounded_156 : decode cX1_rounded 156 = .ok (.lload 13, 2) := by decide +kernel
theorem dX1_rounded_158 : decode cX1_rounded 158 = .ok (.aload_n 0, 1) := by decide +kernel
theorem dX1_rounded_159 : decode cX1_rounded 159 = .ok (.invokevirtual 59, 3) := by decide +kernel
theorem dX1_rounded_162 : decode cX1_rounded 162 = .ok (.invokestatic 132, 3) := by decide +kernel
theorem dX1_rounded_165 : decode cX1_rounded 165 = .ok (.lreturn, 1) := by decide +kernel
theorem dX1_isOverHalf_0 : decode cX1_isOverHalf 0 = .ok (.lload_n 0, 1) := by decide +kernel
theorem dX1_isOverHalf_1 : decode cX1_isOverHalf 1 = .ok (.lconst 0, 1) := by decide +kernel
theorem dX1_isOverHalf_2 : decode cX1_isOverHalf 2 = .ok (.lcmp, 1) := by decide +kernel
theorem dX1_isOverHalf_3 : decode cX1_isOverHalf 3 = .ok (.ifCond .ge 15, 3) := by decide +kernel
theorem dX1_isOverHalf_6 : decode cX1_isOverHalf 6 = .ok (.lload_n 0, 1) := by decide +kernel
theorem dX1_isOverHalf_7 : decode cX1_isOverHalf 7 = .ok (.ldc2_w 130, 3) := by decide +kernel
theorem dX1_isOverHalf_10 : decode cX1_isOverHalf 10 = .ok (.lcmp, 1) := by decide +kernel
theorem dX1_isOverHalf_11 : decode cX1_isOverHalf 11 = .ok (.ifCond .eq 7, 3) := by decide +kernel
theorem dX1_isOverHalf_14 : decode cX1_isOverHalf 14 = .ok (.iconst 1, 1) := by decide +kernel
theorem dX1_isOverHalf_15 : decode cX1_isOverHalf 15 = .ok (.goto 4, 3) := by decide +kernel
theorem dX1_isOverHalf_18 : decode cX1_isOverHalf 18 = .ok (.iconst 0, 1) := by decide +kernel
theorem dX1_isOverHalf_19 : decode cX1_isOverHalf 19 = .ok (.ireturn, 1) := by decide +kernel
set_option maxRecDepth 20000 in
theorem ggX2_init_X0_init : GoodIn wsX2_init wsX0_init := goodIn_r _ [16, 17, 2, 3, 18, 19, 10, 20, 12, 21, 33, 34, 35, 36] (by decide +kernel) (by decide +kernel)
set_option maxRecDepth 20000 in
theorem gX2_init_X0_init : GoodIn wsX2_init (wsX0_init) := ggX2_init_X0_init
theorem dX2_init_0 : decode cX2_init 0 = .ok (.aload_n 0, 1) := by decide +kernel
theorem dX2_init_1 : decode cX2_init 1 = .ok (.invokespecial 3, 3) := by decide +kernel
theorem dX2_init_4 : decode cX2_init 4 = .ok (.aload_n 0, 1) := by decide +kernel
theorem dX2_init_5 : decode cX2_init 5 = .ok (.aload_n 1, 1) := by decide +kernel
theorem dX2_init_6 : decode cX2_init 6 = .ok (.putfield 9, 3) := by decide +kernel
theorem dX2_init_9 : decode cX2_init 9 = .ok (.aload_n 0, 1) := by decide +kernel
theorem dX2_init_10 : decode cX2_init 10 = .ok (.new 15, 3) := by decide +kernel
theorem dX2_init_13 : decode cX2_init 13 = .ok (.dup, 1) := by decide +kernel
theorem dX2_init_14 : decode cX2_init 14 = .ok (.invokespecial 17, 3) := by decide +kernel
theorem dX2_init_17 : decode cX2_init 17 = .ok (.putfield 18, 3) := by decide +kernel
theorem dX2_init_20 : decode cX2_init 20 = .ok (.aload_n 0, 1) := by decide +kernel
theorem dX2_init_21 : decode cX2_init 21 = .ok (.iconst 4, 1) := by decide +kernel
theorem dX2_init_22 : decode cX2_init 22 = .ok (.anewarray 15, 3) := by decide +kernel
theorem dX2_init_25 : decode cX2_init 25 = .ok (.putfield 22, 3) := by decide +kernel
theorem dX2_init_28 : decode cX2_init 28 = .ok (.iconst 0, 1) := by decide +kernel
theorem dX2_init_29 : decode cX2_init 29 = .ok (.istore_n 2, 1) := by decide +kernel
theorem dX2_init_30 : decode cX2_init 30 = .ok (.iload_n 2, 1) := by decide +kernel
theorem dX2_init_31 : decode cX2_init 31 = .ok (.iconst 4, 1) := by decide +kernel
theorem dX2_init_32 : decode cX2_init 32 = .ok (.if_icmp .ge 22, 3) := by decide +kernel
theorem dX2_init_35 : decode cX2_init 35 = .ok (.aload_n 0, 1) := by decide +kernel
theorem dX2_init_36 : decode cX2_init 36 = .ok (.getfield 22, 3) := by decide +kernel
theorem dX2_init_39 : decode cX2_init 39 = .ok (.iload_n 2, 1) := by decide +kernel
theorem dX2_init_40 : decode cX2_init 40 = .ok (.new 15, 3) := by decide +kernel
theorem dX2_init_43 : decode cX2_init 43 = .ok (.dup, 1) := by decide +kernel
theorem dX2_init_44 : decode cX2_init 44 = .ok (.invokespecial 17, 3) := by decide +kernel
theorem dX2_init_47 : decode cX2_init 47 = .ok (.aastore, 1) := by decide +kernel
theorem dX2_init_48 : decode cX2_init 48 = .ok (.iinc 2 1, 3) := by decide +kernel
theorem dX2_init_51 : decode cX2_init 51 = .ok (.goto (-21), 3) := by decide +kernel
theorem dX2_init_54 : decode cX2_init 54 = .ok (.aload_n 0, 1) := by decide +kernel
theorem dX2_init_55 : decode cX2_init 55 = .ok (.bipush 12, 2) := by decide +kernel
theorem dX2_init_57 : decode cX2_init 57 = .ok (.newarray .long, 2) := by decide +kernel
theorem dX2_init_59 : decode cX2_init 59 = .ok (.putfield 26, 3) := by decide +kernel
theorem dX2_init_62 : decode cX2_init 62 = .ok (.aload_n 0, 1) := by decide +kernel
theorem dX2_init_63 : decode cX2_init 63 = .ok (.bipush 12, 2) := by decide +kernel
theorem dX2_init_65 : decode cX2_init 65 = .ok (.newarray .boolean, 2) := by decide +kernel
theorem dX2_init_67 : decode cX2_init 67 = .ok (.putfield 30, 3) := by decide +kernel
theorem dX2_init_70 : decode cX2_init 70 = .ok (.return_, 1) := by decide +kernel
theorem dX2_takeDry_0 : decode cX2_takeDry 0 = .ok (.aload_n 0, 1) := by decide +kernel
theorem dX2_takeDry_1 : decode cX2_takeDry 1 = .ok (.getfield 34, 3) := by decide +kernel
theorem dX2_takeDry_4 : decode cX2_takeDry 4 = .ok (.lload_n 1, 1) := by decide +kernel
theorem dX2_takeDry_5 : decode cX2_takeDry 5 = .ok (.lcmp, 1) := by decide +kernel
theorem dX2_takeDry_6 : decode cX2_takeDry 6 = .ok (.ifCond .eq 7, 3) := by decide +kernel
theorem dX2_takeDry_9 : decode cX2_takeDry 9 = .ok (.iconst 1, 1) := by decide +kernel
theorem dX2_takeDry_10 : decode cX2_takeDry 10 = .ok (.goto 4, 3) := by decide +kernel
theorem dX2_takeDry_13 : decode cX2_takeDry 13 = .ok (.iconst 0, 1) := by decide +kernel
theorem dX2_takeDry_14 : decode cX2_takeDry 14 = .ok (.istore_n 3, 1) := by decide +kernel
theorem dX2_takeDry_15 : decode cX2_takeDry 15 = .ok (.aload_n 0, 1) := by decide +kernel
theorem dX2_takeDry_16 : decode cX2_takeDry 16 = .ok (.lload_n 1, 1) := by decide +kernel
theorem dX2_takeDry_17 : decode cX2_takeDry 17 = .ok (.putfield 34, 3) := by decide +kernel
theorem dX2_takeDry_20 : decode cX2_takeDry 20 = .ok (.aload_n 0, 1) := by decide +kernel
theorem dX2_takeDry_21 : decode cX2_takeDry 21 = .ok (.lload_n 1, 1) := by decide +kernel
theorem dX2_takeDry_22 : decode cX2_takeDry 22 = .ok (.putfield 38, 3) := by decide +kernel
theorem dX2_takeDry_25 : decode cX2_takeDry 25 = .ok (.aload_n 0, 1) := by decide +kernel
theorem dX2_takeDry_26 : decode cX2_takeDry 26 = .ok (.iconst 0, 1) := by decide +kernel
theorem dX2_takeDry_27 : decode cX2_takeDry 27 = .ok (.putfield 41, 3) := by decide +kernel
theorem dX2_takeDry_30 : decode cX2_takeDry 30 = .ok (.aload_n 0, 1) := by decide +kernel
theorem dX2_takeDry_31 : decode cX2_takeDry 31 = .ok (.iconst 0, 1) := by decide +kernel
theorem dX2_takeDry_32 : decode cX2_takeDry 32 = .ok (.putfield 45, 3) := by decide +kernel
theorem dX2_takeDry_35 : decode cX2_takeDry 35 = .ok (.iload_n 3, 1) := by decide +kernel
theorem dX2_takeDry_36 : decode cX2_takeDry 36 = .ok (.ireturn, 1) := by decide +kernel
set_option maxRecDepth 20000 in
theorem ggX2_runRound_X1_through : GoodIn wsX2_runRound wsX1_through := goodIn_r _ [16, 17, 18, 19, 15, 20, 21, 22, 23, 24, 25, 26, 27, 28, 29, 30, 31, 32, 33, 34, 35, 36, 37, 38, 39, 40, 41, 42, 43, 44, 45, 46, 47, 48, 49, 50, 51, 52, 53, 54, 55, 56, 57, 58, 59, 60, 61, 62, 63, 64, 65, 66, 67] (by decide +kernel) (by decide +kernel)
set_option maxRecDepth 20000 in
theorem gX2_runRound_X1_through : GoodIn wsX2_runRound (wsV RX2 62 RX1 yX1_through wsX1_through) := goodIn_app (goodIn_of _ (by decide +kernel)) ggX2_runRound_X1_through
set_option maxRecDepth 20000 in
theorem ggX2_runRound_X2_keepPeaks : GoodIn wsX2_runRound wsX2_keepPeaks := goodIn_r _ [72, 5, 73, 3, 74, 75, 76, 77, 71, 78, 11, 79, 34, 35, 15, 36, 37, 38, 39, 40, 21, 23, 24, 25, 26, 27, 80, 81, 82, 83, 84, 85, 86, 87, 88, 89, 90] (by decide +kernel) (by decide +kernel)
set_option maxRecDepth 20000 in
theorem gX2_runRound_X2_keepPeaks : GoodIn wsX2_runRound (wsV RX2 68 RX2 yX2_keepPeaks wsX2_keepPeaks) := goodIn_app (goodIn_of _ (by decide +kernel)) ggX2_runRound_X2_keepPeaks
theorem dX2_runRound_0 : decode cX2_runRound 0 = .ok (.iconst 0, 1) := by decide +kernel
theorem dX2_runRound_1 : decode cX2_runRound 1 = .ok (.istore_n 1, 1) := by decide +kernel
theorem dX2_runRound_2 : decode cX2_runRound 2 = .ok (.iconst 0, 1) := by decide +kernel
theorem dX2_runRound_3 : decode cX2_runRound 3 = .ok (.istore_n 2, 1) := by decide +kernel
theorem dX2_runRound_4 : decode cX2_runRound 4 = .ok (.iload_n 2, 1) := by decide +kernel
theorem dX2_runRound_5 : decode cX2_runRound 5 = .ok (.aload_n 0, 1) := by decide +kernel
theorem dX2_runRound_6 : decode cX2_runRound 6 = .ok (.getfield 18, 3) := by decide +kernel
theorem dX2_runRound_9 : decode cX2_runRound 9 = .ok (.getfield 49, 3) := by decide +kernel
theorem dX2_runRound_12 : decode cX2_runRound 12 = .ok (.if_icmp .ge 102, 3) := by decide +kernel
theorem dX2_runRound_15 : decode cX2_runRound 15 = .ok (.aload_n 0, 1) := by decide +kernel
theorem dX2_runRound_16 : decode cX2_runRound 16 = .ok (.getfield 38, 3) := by decide +kernel
theorem dX2_runRound_19 : decode cX2_runRound 19 = .ok (.lstore_n 3, 1) := by decide +kernel
theorem dX2_runRound_20 : decode cX2_runRound 20 = .ok (.aload_n 0, 1) := by decide +kernel
theorem dX2_runRound_21 : decode cX2_runRound 21 = .ok (.aload_n 0, 1) := by decide +kernel
theorem dX2_runRound_22 : decode cX2_runRound 22 = .ok (.getfield 18, 3) := by decide +kernel
theorem dX2_runRound_25 : decode cX2_runRound 25 = .ok (.getfield 52, 3) := by decide +kernel
theorem dX2_runRound_28 : decode cX2_runRound 28 = .ok (.iload_n 2, 1) := by decide +kernel
theorem dX2_runRound_29 : decode cX2_runRound 29 = .ok (.baload, 1) := by decide +kernel
theorem dX2_runRound_30 : decode cX2_runRound 30 = .ok (.ifCond .eq 32, 3) := by decide +kernel
theorem dX2_runRound_33 : decode cX2_runRound 33 = .ok (.aload_n 0, 1) := by decide +kernel
theorem dX2_runRound_34 : decode cX2_runRound 34 = .ok (.getfield 9, 3) := by decide +kernel
theorem dX2_runRound_37 : decode cX2_runRound 37 = .ok (.aload_n 0, 1) := by decide +kernel
theorem dX2_runRound_38 : decode cX2_runRound 38 = .ok (.getfield 18, 3) := by decide +kernel
theorem dX2_runRound_41 : decode cX2_runRound 41 = .ok (.getfield 55, 3) := by decide +kernel
theorem dX2_runRound_44 : decode cX2_runRound 44 = .ok (.iload_n 2, 1) := by decide +kernel
theorem dX2_runRound_45 : decode cX2_runRound 45 = .ok (.iaload, 1) := by decide +kernel
theorem dX2_runRound_46 : decode cX2_runRound 46 = .ok (.aload_n 0, 1) := by decide +kernel
theorem dX2_runRound_47 : decode cX2_runRound 47 = .ok (.getfield 18, 3) := by decide +kernel
theorem dX2_runRound_50 : decode cX2_runRound 50 = .ok (.getfield 59, 3) := by decide +kernel
theorem dX2_runRound_53 : decode cX2_runRound 53 = .ok (.iload_n 2, 1) := by decide +kernel
theorem dX2_runRound_54 : decode cX2_runRound 54 = .ok (.laload, 1) := by decide +kernel
theorem dX2_runRound_55 : decode cX2_runRound 55 = .ok (.lload_n 3, 1) := by decide +kernel
theorem dX2_runRound_56 : decode cX2_runRound 56 = .ok (.invokevirtual 62, 3) := by decide +kernel
theorem dX2_runRound_59 : decode cX2_runRound 59 = .ok (.goto 4, 3) := by decide +kernel
theorem dX2_runRound_62 : decode cX2_runRound 62 = .ok (.lload_n 3, 1) := by decide +kernel
theorem dX2_runRound_63 : decode cX2_runRound 63 = .ok (.putfield 38, 3) := by decide +kernel
theorem dX2_runRound_66 : decode cX2_runRound 66 = .ok (.aload_n 0, 1) := by decide +kernel
theorem dX2_runRound_67 : decode cX2_runRound 67 = .ok (.getfield 26, 3) := by decide +kernel
theorem dX2_runRound_70 : decode cX2_runRound 70 = .ok (.iload_n 2, 1) := by decide +kernel
theorem dX2_runRound_71 : decode cX2_runRound 71 = .ok (.aload_n 0, 1) := by decide +kernel
theorem dX2_runRound_72 : decode cX2_runRound 72 = .ok (.getfield 38, 3) := by decide +kernel
theorem dX2_runRound_75 : decode cX2_runRound 75 = .ok (.lastore, 1) := by decide +kernel
theorem dX2_runRound_76 : decode cX2_runRound 76 = .ok (.aload_n 0, 1) := by decide +kernel
theorem dX2_runRound_77 : decode cX2_runRound 77 = .ok (.getfield 30, 3) := by decide +kernel
theorem dX2_runRound_80 : decode cX2_runRound 80 = .ok (.iload_n 2, 1) := by decide +kernel
theorem dX2_runRound_81 : decode cX2_runRound 81 = .ok (.aload_n 0, 1) := by decide +kernel
theorem dX2_runRound_82 : decode cX2_runRound 82 = .ok (.getfield 38, 3) := by decide +kernel
theorem dX2_runRound_85 : decode cX2_runRound 85 = .ok (.lload_n 3, 1) := by decide +kernel
theorem dX2_runRound_86 : decode cX2_runRound 86 = .ok (.lcmp, 1) := by decide +kernel
theorem dX2_runRound_87 : decode cX2_runRound 87 = .ok (.ifCond .eq 7, 3) := by decide +kernel
theorem dX2_runRound_90 : decode cX2_runRound 90 = .ok (.iconst 1, 1) := by decide +kernel
theorem dX2_runRound_91 : decode cX2_runRound 91 = .ok (.goto 4, 3) := by decide +kernel
theorem dX2_runRound_94 : decode cX2_runRound 94 = .ok (.iconst 0, 1) := by decide +kernel
theorem dX2_runRound_95 : decode cX2_runRound 95 = .ok (.bastore, 1) := by decide +kernel
theorem dX2_runRound_96 : decode cX2_runRound 96 = .ok (.aload_n 0, 1) := by decide +kernel
theorem dX2_runRound_97 : decode cX2_runRound 97 = .ok (.getfield 30, 3) := by decide +kernel
theorem dX2_runRound_100 : decode cX2_runRound 100 = .ok (.iload_n 2, 1) := by decide +kernel
theorem dX2_runRound_101 : decode cX2_runRound 101 = .ok (.baload, 1) := by decide +kernel
theorem dX2_runRound_102 : decode cX2_runRound 102 = .ok (.ifCond .eq 6, 3) := by decide +kernel
theorem dX2_runRound_105 : decode cX2_runRound 105 = .ok (.iinc 1 1, 3) := by decide +kernel
theorem dX2_runRound_108 : decode cX2_runRound 108 = .ok (.iinc 2 1, 3) := by decide +kernel
theorem dX2_runRound_111 : decode cX2_runRound 111 = .ok (.goto (-107), 3) := by decide +kernel
theorem dX2_runRound_114 : decode cX2_runRound 114 = .ok (.aload_n 0, 1) := by decide +kernel
theorem dX2_runRound_115 : decode cX2_runRound 115 = .ok (.iconst 1, 1) := by decide +kernel
theorem dX2_runRound_116 : decode cX2_runRound 116 = .ok (.putfield 45, 3) := by decide +kernel
theorem dX2_runRound_119 : decode cX2_runRound 119 = .ok (.aload_n 0, 1) := by decide +kernel
theorem dX2_runRound_120 : decode cX2_runRound 120 = .ok (.invokevirtual 68, 3) := by decide +kernel
theorem dX2_runRound_123 : decode cX2_runRound 123 = .ok (.aload_n 0, 1) := by decide +kernel
theorem dX2_runRound_124 : decode cX2_runRound 124 = .ok (.dup, 1) := by decide +kernel
theorem dX2_runRound_125 : decode cX2_runRound 125 = .ok (.getfield 41, 3) := by decide +kernel
theorem dX2_runRound_128 : decode cX2_runRound 128 = .ok (.iconst 1, 1) := by decide +kernel
theorem dX2_runRound_129 : decode cX2_runRound 129 = .ok (.iadd, 1) := by decide +kernel
theorem dX2_runRound_130 : decode cX2_runRound 130 = .ok (.putfield 41, 3) := by decide +kernel
theorem dX2_runRound_133 : decode cX2_runRound 133 = .ok (.iload_n 1, 1) := by decide +kernel
theorem dX2_runRound_134 : decode cX2_runRound 134 = .ok (.ireturn, 1) := by decide +kernel
theorem dX2_hasPeaks_0 : decode cX2_hasPeaks 0 = .ok (.aload_n 0, 1) := by decide +kernel
theorem dX2_hasPeaks_1 : decode cX2_hasPeaks 1 = .ok (.getfield 41, 3) := by decide +kernel
theorem dX2_hasPeaks_4 : decode cX2_hasPeaks 4 = .ok (.ifCond .le 7, 3) := by decide +kernel
theorem dX2_hasPeaks_7 : decode cX2_hasPeaks 7 = .ok (.iconst 1, 1) := by decide +kernel
theorem dX2_hasPeaks_8 : decode cX2_hasPeaks 8 = .ok (.goto 4, 3) := by decide +kernel
theorem dX2_hasPeaks_11 : decode cX2_hasPeaks 11 = .ok (.iconst 0, 1) := by decide +kernel
theorem dX2_hasPeaks_12 : decode cX2_hasPeaks 12 = .ok (.ireturn, 1) := by decide +kernel
set_option maxRecDepth 20000 in
theorem ggX2_keepPeaks_X2_hasPeaks : GoodIn wsX2_keepPeaks wsX2_hasPeaks := goodIn_r _ [9, 10, 26, 27, 28, 29, 30, 31, 32, 33, 34, 35, 36] (by decide +kernel) (by decide +kernel)
set_option maxRecDepth 20000 in
theorem gX2_keepPeaks_X2_hasPeaks : GoodIn wsX2_keepPeaks (wsV RX2 71 RX2 yX2_hasPeaks wsX2_hasPeaks) := goodIn_app (goodIn_of _ (by decide +kernel)) ggX2_keepPeaks_X2_hasPeaks
set_option maxRecDepth 20000 in
theorem ggX2_keepPeaks_X1_isLess : GoodIn wsX2_keepPeaks wsX1_isLess := goodIn_r _ [15, 16, 17, 18, 14, 19, 20, 21, 22, 23, 24, 25] (by decide +kernel) (by decide +kernel)
set_option maxRecDepth 20000 in
theorem gX2_keepPeaks_X1_isLess : GoodIn wsX2_keepPeaks (wsV RX2 78 RX1 yX1_isLess wsX1_isLess) := goodIn_app (goodIn_of _ (by decide +kernel)) ggX2_keepPeaks_X1_isLess
theorem dX2_keepPeaks_0 : decode cX2_keepPeaks 0 = .ok (.aload_n 0, 1) := by decide +kernel
theorem dX2_keepPeaks_1 : decode cX2_keepPeaks 1 = .ok (.invokevirtual 71, 3) := by decide +kernel
theorem dX2_keepPeaks_4 : decode cX2_keepPeaks 4 = .ok (.ifCond .eq 21, 3) := by decide +kernel
theorem dX2_keepPeaks_7 : decode cX2_keepPeaks 7 = .ok (.aload_n 0, 1) := by decide +kernel
theorem dX2_keepPeaks_8 : decode cX2_keepPeaks 8 = .ok (.getfield 9, 3) := by decide +kernel
theorem dX2_keepPeaks_11 : decode cX2_keepPeaks 11 = .ok (.aload_n 0, 1) := by decide +kernel
theorem dX2_keepPeaks_12 : decode cX2_keepPeaks 12 = .ok (.getfield 75, 3) := by decide +kernel
theorem dX2_keepPeaks_15 : decode cX2_keepPeaks 15 = .ok (.aload_n 0, 1) := by decide +kernel
theorem dX2_keepPeaks_16 : decode cX2_keepPeaks 16 = .ok (.getfield 38, 3) := by decide +kernel
theorem dX2_keepPeaks_19 : decode cX2_keepPeaks 19 = .ok (.invokevirtual 78, 3) := by decide +kernel
theorem dX2_keepPeaks_22 : decode cX2_keepPeaks 22 = .ok (.ifCond .eq 11, 3) := by decide +kernel
theorem dX2_keepPeaks_25 : decode cX2_keepPeaks 25 = .ok (.aload_n 0, 1) := by decide +kernel
theorem dX2_keepPeaks_26 : decode cX2_keepPeaks 26 = .ok (.aload_n 0, 1) := by decide +kernel
theorem dX2_keepPeaks_27 : decode cX2_keepPeaks 27 = .ok (.getfield 38, 3) := by decide +kernel
theorem dX2_keepPeaks_30 : decode cX2_keepPeaks 30 = .ok (.putfield 75, 3) := by decide +kernel
theorem dX2_keepPeaks_33 : decode cX2_keepPeaks 33 = .ok (.aload_n 0, 1) := by decide +kernel
theorem dX2_keepPeaks_34 : decode cX2_keepPeaks 34 = .ok (.invokevirtual 71, 3) := by decide +kernel
theorem dX2_keepPeaks_37 : decode cX2_keepPeaks 37 = .ok (.ifCond .eq 21, 3) := by decide +kernel
theorem dX2_keepPeaks_40 : decode cX2_keepPeaks 40 = .ok (.aload_n 0, 1) := by decide +kernel
theorem dX2_keepPeaks_41 : decode cX2_keepPeaks 41 = .ok (.getfield 9, 3) := by decide +kernel
theorem dX2_keepPeaks_44 : decode cX2_keepPeaks 44 = .ok (.aload_n 0, 1) := by decide +kernel
theorem dX2_keepPeaks_45 : decode cX2_keepPeaks 45 = .ok (.getfield 38, 3) := by decide +kernel
theorem dX2_keepPeaks_48 : decode cX2_keepPeaks 48 = .ok (.aload_n 0, 1) := by decide +kernel
theorem dX2_keepPeaks_49 : decode cX2_keepPeaks 49 = .ok (.getfield 82, 3) := by decide +kernel
theorem dX2_keepPeaks_52 : decode cX2_keepPeaks 52 = .ok (.invokevirtual 78, 3) := by decide +kernel
theorem dX2_keepPeaks_55 : decode cX2_keepPeaks 55 = .ok (.ifCond .eq 11, 3) := by decide +kernel
theorem dX2_keepPeaks_58 : decode cX2_keepPeaks 58 = .ok (.aload_n 0, 1) := by decide +kernel
theorem dX2_keepPeaks_59 : decode cX2_keepPeaks 59 = .ok (.aload_n 0, 1) := by decide +kernel
theorem dX2_keepPeaks_60 : decode cX2_keepPeaks 60 = .ok (.getfield 38, 3) := by decide +kernel
theorem dX2_keepPeaks_63 : decode cX2_keepPeaks 63 = .ok (.putfield 82, 3) := by decide +kernel
theorem dX2_keepPeaks_66 : decode cX2_keepPeaks 66 = .ok (.return_, 1) := by decide +kernel
set_option maxRecDepth 20000 in
theorem ggX2_isLit_X0_has : GoodIn wsX2_isLit wsX0_has := goodIn_r _ [8, 9, 21, 22, 23, 24] (by decide +kernel) (by decide +kernel)
set_option maxRecDepth 20000 in
theorem gX2_isLit_X0_has : GoodIn wsX2_isLit (wsV RX2 85 RX0 yX0_has wsX0_has) := goodIn_app (goodIn_of _ (by decide +kernel)) ggX2_isLit_X0_has
theorem dX2_isLit_0 : decode cX2_isLit 0 = .ok (.aload_n 0, 1) := by decide +kernel
theorem dX2_isLit_1 : decode cX2_isLit 1 = .ok (.getfield 45, 3) := by decide +kernel
theorem dX2_isLit_4 : decode cX2_isLit 4 = .ok (.ifCond .eq 27, 3) := by decide +kernel
theorem dX2_isLit_7 : decode cX2_isLit 7 = .ok (.aload_n 0, 1) := by decide +kernel
theorem dX2_isLit_8 : decode cX2_isLit 8 = .ok (.getfield 18, 3) := by decide +kernel
theorem dX2_isLit_11 : decode cX2_isLit 11 = .ok (.iload_n 1, 1) := by decide +kernel
theorem dX2_isLit_12 : decode cX2_isLit 12 = .ok (.invokevirtual 85, 3) := by decide +kernel
theorem dX2_isLit_15 : decode cX2_isLit 15 = .ok (.ifCond .eq 16, 3) := by decide +kernel
theorem dX2_isLit_18 : decode cX2_isLit 18 = .ok (.aload_n 0, 1) := by decide +kernel
theorem dX2_isLit_19 : decode cX2_isLit 19 = .ok (.getfield 30, 3) := by decide +kernel
theorem dX2_isLit_22 : decode cX2_isLit 22 = .ok (.iload_n 1, 1) := by decide +kernel
theorem dX2_isLit_23 : decode cX2_isLit 23 = .ok (.baload, 1) := by decide +kernel
theorem dX2_isLit_24 : decode cX2_isLit 24 = .ok (.ifCond .eq 7, 3) := by decide +kernel
theorem dX2_isLit_27 : decode cX2_isLit 27 = .ok (.iconst 1, 1) := by decide +kernel
theorem dX2_isLit_28 : decode cX2_isLit 28 = .ok (.goto 4, 3) := by decide +kernel
theorem dX2_isLit_31 : decode cX2_isLit 31 = .ok (.iconst 0, 1) := by decide +kernel
theorem dX2_isLit_32 : decode cX2_isLit 32 = .ok (.ireturn, 1) := by decide +kernel
set_option maxRecDepth 20000 in
theorem ggX2_countLit_X2_isLit : GoodIn wsX2_countLit wsX2_isLit := goodIn_r _ [7, 8, 1, 9, 10, 11, 12, 13, 14, 15, 16, 17, 18, 19, 20, 21, 22, 23, 24, 25, 26, 27, 28, 29, 30] (by decide +kernel) (by decide +kernel)
set_option maxRecDepth 20000 in
theorem gX2_countLit_X2_isLit : GoodIn wsX2_countLit (wsV RX2 89 RX2 yX2_isLit wsX2_isLit) := goodIn_app (goodIn_of _ (by decide +kernel)) ggX2_countLit_X2_isLit
theorem dX2_countLit_0 : decode cX2_countLit 0 = .ok (.iconst 0, 1) := by decide +kernel
theorem dX2_countLit_1 : decode cX2_countLit 1 = .ok (.istore_n 1, 1) := by decide +kernel
theorem dX2_countLit_2 : decode cX2_countLit 2 = .ok (.iconst 0, 1) := by decide +kernel
theorem dX2_countLit_3 : decode cX2_countLit 3 = .ok (.istore_n 2, 1) := by decide +kernel
theorem dX2_countLit_4 : decode cX2_countLit 4 = .ok (.iload_n 2, 1) := by decide +kernel
theorem dX2_countLit_5 : decode cX2_countLit 5 = .ok (.aload_n 0, 1) := by decide +kernel
theorem dX2_countLit_6 : decode cX2_countLit 6 = .ok (.getfield 18, 3) := by decide +kernel
theorem dX2_countLit_9 : decode cX2_countLit 9 = .ok (.getfield 49, 3) := by decide +kernel
theorem dX2_countLit_12 : decode cX2_countLit 12 = .ok (.if_icmp .ge 20, 3) := by decide +kernel
theorem dX2_countLit_15 : decode cX2_countLit 15 = .ok (.aload_n 0, 1) := by decide +kernel
theorem dX2_countLit_16 : decode cX2_countLit 16 = .ok (.iload_n 2, 1) := by decide +kernel
theorem dX2_countLit_17 : decode cX2_countLit 17 = .ok (.invokevirtual 89, 3) := by decide +kernel
theorem dX2_countLit_20 : decode cX2_countLit 20 = .ok (.ifCond .eq 6, 3) := by decide +kernel
theorem dX2_countLit_23 : decode cX2_countLit 23 = .ok (.iinc 1 1, 3) := by decide +kernel
theorem dX2_countLit_26 : decode cX2_countLit 26 = .ok (.iinc 2 1, 3) := by decide +kernel
theorem dX2_countLit_29 : decode cX2_countLit 29 = .ok (.goto (-25), 3) := by decide +kernel
theorem dX2_countLit_32 : decode cX2_countLit 32 = .ok (.iload_n 1, 1) := by decide +kernel
theorem dX2_countLit_33 : decode cX2_countLit 33 = .ok (.ireturn, 1) := by decide +kernel
set_option maxRecDepth 20000 in
theorem ggX3_init_X2_init : GoodIn wsX3_init wsX2_init := goodIn_r _ [11, 12, 2, 3, 13, 14, 15, 16, 17, 18, 19, 20, 21, 22, 23, 24, 25, 26, 27, 28, 29, 30, 32, 33, 34, 35, 36, 37, 38, 39, 40, 41, 42, 43, 44, 45, 46] (by decide +kernel) (by decide +kernel)
set_option maxRecDepth 20000 in
theorem gX3_init_X2_init : GoodIn wsX3_init (wsX2_init) := ggX3_init_X2_init
theorem dX3_init_0 : decode cX3_init 0 = .ok (.aload_n 0, 1) := by decide +kernel
theorem dX3_init_1 : decode cX3_init 1 = .ok (.invokespecial 1, 3) := by decide +kernel
theorem dX3_init_4 : decode cX3_init 4 = .ok (.aload_n 0, 1) := by decide +kernel
theorem dX3_init_5 : decode cX3_init 5 = .ok (.iconst 4, 1) := by decide +kernel
theorem dX3_init_6 : decode cX3_init 6 = .ok (.anewarray 9, 3) := by decide +kernel
theorem dX3_init_9 : decode cX3_init 9 = .ok (.putfield 11, 3) := by decide +kernel
theorem dX3_init_12 : decode cX3_init 12 = .ok (.iconst 0, 1) := by decide +kernel
theorem dX3_init_13 : decode cX3_init 13 = .ok (.istore_n 1, 1) := by decide +kernel
theorem dX3_init_14 : decode cX3_init 14 = .ok (.iload_n 1, 1) := by decide +kernel
theorem dX3_init_15 : decode cX3_init 15 = .ok (.iconst 4, 1) := by decide +kernel
theorem dX3_init_16 : decode cX3_init 16 = .ok (.if_icmp .ge 27, 3) := by decide +kernel
theorem dX3_init_19 : decode cX3_init 19 = .ok (.aload_n 0, 1) := by decide +kernel
theorem dX3_init_20 : decode cX3_init 20 = .ok (.getfield 11, 3) := by decide +kernel
theorem dX3_init_23 : decode cX3_init 23 = .ok (.iload_n 1, 1) := by decide +kernel
theorem dX3_init_24 : decode cX3_init 24 = .ok (.new 9, 3) := by decide +kernel
theorem dX3_init_27 : decode cX3_init 27 = .ok (.dup, 1) := by decide +kernel
theorem dX3_init_28 : decode cX3_init 28 = .ok (.getstatic 15, 3) := by decide +kernel
theorem dX3_init_31 : decode cX3_init 31 = .ok (.iload_n 1, 1) := by decide +kernel
theorem dX3_init_32 : decode cX3_init 32 = .ok (.aaload, 1) := by decide +kernel
theorem dX3_init_33 : decode cX3_init 33 = .ok (.invokespecial 19, 3) := by decide +kernel
theorem dX3_init_36 : decode cX3_init 36 = .ok (.aastore, 1) := by decide +kernel
theorem dX3_init_37 : decode cX3_init 37 = .ok (.iinc 1 1, 3) := by decide +kernel
theorem dX3_init_40 : decode cX3_init 40 = .ok (.goto (-26), 3) := by decide +kernel
theorem dX3_init_43 : decode cX3_init 43 = .ok (.return_, 1) := by decide +kernel
set_option maxRecDepth 20000 in
theorem ggX3_put_X3_wireAt : GoodIn wsX3_put wsX3_wireAt := goodIn_ca (goodIn_r _ [5, 6, 7, 8, 9, 10, 4, 11, 48] (by decide +kernel) (by decide +kernel)) (goodIn_sub (fun _ h => List.mem_cons_of_mem _ (List.mem_append_right _ h)) (by decide +kernel))
set_option maxRecDepth 20000 in
theorem gX3_put_X3_wireAt : GoodIn wsX3_put (wsV RX3 22 RX3 yX3_wireAt wsX3_wireAt) := goodIn_app (goodIn_of _ (by decide +kernel)) ggX3_put_X3_wireAt
set_option maxRecDepth 20000 in
theorem ggX3_put_X3_numberOn : GoodIn wsX3_put wsX3_numberOn := goodIn_ca (goodIn_r _ [14, 6, 7, 15, 16, 17, 18, 19, 20, 21, 22, 23, 24, 25, 26, 27, 28, 29, 30, 31, 32, 33, 34, 35, 36, 37, 38, 49, 50, 51, 52, 53, 54, 55, 56, 57, 58, 59] (by decide +kernel) (by decide +kernel)) (goodIn_sub (fun _ h => List.mem_cons_of_mem _ (List.mem_append_right _ h)) (by decide +kernel))
set_option maxRecDepth 20000 in
theorem gX3_put_X3_numberOn : GoodIn wsX3_put (va_wsS RX3 26 yX3_numberOn wsX3_numberOn) := goodIn_app (goodIn_of _ (by decide +kernel)) ggX3_put_X3_numberOn
set_option maxRecDepth 20000 in
theorem ggX3_put_X2_takeDry : GoodIn wsX3_put wsX2_takeDry := goodIn_r _ [43, 44, 45, 46, 47, 49, 50, 51, 52, 53, 54, 55, 56, 57, 58, 59] (by decide +kernel) (by decide +kernel)
set_option maxRecDepth 20000 in
theorem gX3_put_X2_takeDry : GoodIn wsX3_put (wsV RX3 30 RX2 yX2_takeDry wsX2_takeDry) := goodIn_app (goodIn_of _ (by decide +kernel)) ggX3_put_X2_takeDry
end
section
theorem dX3_put_0 : decode cX3_put 0 = .ok (.aload_n 0, 1) := by decide +kernel
theorem dX3_put_1 : decode cX3_put 1 = .ok (.iload_n 1, 1) := by decide +kernel
theorem dX3_put_2 : decode cX3_put 2 = .ok (.invokevirtual 22, 3) := by decide +kernel
theorem dX3_put_5 : decode cX3_put 5 = .ok (.astore 4, 2) := by decide +kernel
theorem dX3_put_7 : decode cX3_put 7 = .ok (.aload 4, 2) := by decide +kernel
theorem dX3_put_9 : decode cX3_put 9 = .ok (.aload 4, 2) := by decide +kernel
theorem dX3_put_11 : decode cX3_put 11 = .ok (.iload_n 2, 1) := by decide +kernel
theorem dX3_put_12 : decode cX3_put 12 = .ok (.iload_n 3, 1) := by decide +kernel
theorem dX3_put_13 : decode cX3_put 13 = .ok (.invokestatic 26, 3) := by decide +kernel
theorem dX3_put_16 : decode cX3_put 16 = .ok (.invokevirtual 30, 3) := by decide +kernel
theorem dX3_put_19 : decode cX3_put 19 = .ok (.ireturn, 1) := by decide +kernel
set_option maxRecDepth 20000 in
theorem ggX3_pedal_X3_wireAt : GoodIn wsX3_pedal wsX3_wireAt := goodIn_ca (goodIn_r _ [12, 1, 2, 13, 14, 15, 11, 16, 72] (by decide +kernel) (by decide +kernel)) (goodIn_sub (fun _ h => List.mem_cons_of_mem _ (List.mem_append_left _ (List.mem_append_right _ h))) (by decide +kernel))
set_option maxRecDepth 20000 in
theorem gX3_pedal_X3_wireAt : GoodIn wsX3_pedal (wsV RX3 22 RX3 yX3_wireAt wsX3_wireAt) := goodIn_app (goodIn_of _ (by decide +kernel)) ggX3_pedal_X3_wireAt
set_option maxRecDepth 20000 in
theorem ggX3_pedal_X1_hasKind : GoodIn wsX3_pedal wsX1_hasKind := goodIn_r _ [21, 22, 23, 24, 20, 25, 26] (by decide +kernel) (by decide +kernel)
set_option maxRecDepth 20000 in
theorem gX3_pedal_X1_hasKind : GoodIn wsX3_pedal (wsV RX3 38 RX1 yX1_hasKind wsX1_hasKind) := goodIn_app (goodIn_of _ (by decide +kernel)) ggX3_pedal_X1_hasKind
set_option maxRecDepth 20000 in
theorem ggX3_pedal_X3_numberOn : GoodIn wsX3_pedal wsX3_numberOn := goodIn_ca (goodIn_r _ [29, 1, 2, 5, 30, 31, 32, 20, 33, 34, 35, 36, 37, 38, 39, 40, 22, 23, 24, 25, 26, 41, 42, 43, 44, 45, 46, 61, 62, 63, 64, 65, 66, 67, 68, 69, 70, 71] (by decide +kernel) (by decide +kernel)) (goodIn_sub (fun _ h => List.mem_cons_of_mem _ (List.mem_append_left _ (List.mem_append_right _ h))) (by decide +kernel))
set_option maxRecDepth 20000 in
theorem gX3_pedal_X3_numberOn : GoodIn wsX3_pedal (va_wsS RX3 26 yX3_numberOn wsX3_numberOn) := goodIn_app (goodIn_of _ (by decide +kernel)) ggX3_pedal_X3_numberOn
set_option maxRecDepth 20000 in
theorem ggX3_pedal_X0_isFull : GoodIn wsX3_pedal wsX0_isFull := goodIn_r _ [51, 52, 73, 74, 75, 76] (by decide +kernel) (by decide +kernel)
set_option maxRecDepth 20000 in
theorem gX3_pedal_X0_isFull : GoodIn wsX3_pedal (wsV RX3 55 RX0 yX0_isFull wsX0_isFull) := goodIn_app (goodIn_of _ (by decide +kernel)) ggX3_pedal_X0_isFull
set_option maxRecDepth 20000 in
theorem ggX3_pedal_X0_append : GoodIn wsX3_pedal wsX0_append := goodIn_r _ [56, 57, 52, 58, 59, 60, 48, 49, 50, 51, 73, 74, 75, 76] (by decide +kernel) (by decide +kernel)
set_option maxRecDepth 20000 in
theorem gX3_pedal_X0_append : GoodIn wsX3_pedal (wsV RX3 70 RX0 yX0_append wsX0_append) := goodIn_app (goodIn_of _ (by decide +kernel)) ggX3_pedal_X0_append
theorem dX3_pedal_0 : decode cX3_pedal 0 = .ok (.aload_n 0, 1) := by decide +kernel
theorem dX3_pedal_1 : decode cX3_pedal 1 = .ok (.iload_n 1, 1) := by decide +kernel
theorem dX3_pedal_2 : decode cX3_pedal 2 = .ok (.invokevirtual 22, 3) := by decide +kernel
theorem dX3_pedal_5 : decode cX3_pedal 5 = .ok (.astore 5, 2) := by decide +kernel
theorem dX3_pedal_7 : decode cX3_pedal 7 = .ok (.aload 5, 2) := by decide +kernel
theorem dX3_pedal_9 : decode cX3_pedal 9 = .ok (.getfield 34, 3) := by decide +kernel
theorem dX3_pedal_12 : decode cX3_pedal 12 = .ok (.iload_n 2, 1) := by decide +kernel
theorem dX3_pedal_13 : decode cX3_pedal 13 = .ok (.invokevirtual 38, 3) := by decide +kernel
theorem dX3_pedal_16 : decode cX3_pedal 16 = .ok (.ifCond .ne 13, 3) := by decide +kernel
theorem dX3_pedal_19 : decode cX3_pedal 19 = .ok (.new 44, 3) := by decide +kernel
theorem dX3_pedal_22 : decode cX3_pedal 22 = .ok (.dup, 1) := by decide +kernel
theorem dX3_pedal_23 : decode cX3_pedal 23 = .ok (.ldc 46, 2) := by decide +kernel
theorem dX3_pedal_25 : decode cX3_pedal 25 = .ok (.invokespecial 48, 3) := by decide +kernel
theorem dX3_pedal_28 : decode cX3_pedal 28 = .ok (.athrow, 1) := by decide +kernel
theorem dX3_pedal_29 : decode cX3_pedal 29 = .ok (.aload 5, 2) := by decide +kernel
theorem dX3_pedal_31 : decode cX3_pedal 31 = .ok (.iload_n 3, 1) := by decide +kernel
theorem dX3_pedal_32 : decode cX3_pedal 32 = .ok (.iload 4, 2) := by decide +kernel
theorem dX3_pedal_34 : decode cX3_pedal 34 = .ok (.invokestatic 26, 3) := by decide +kernel
theorem dX3_pedal_37 : decode cX3_pedal 37 = .ok (.lstore 6, 2) := by decide +kernel
theorem dX3_pedal_39 : decode cX3_pedal 39 = .ok (.aload 5, 2) := by decide +kernel
theorem dX3_pedal_41 : decode cX3_pedal 41 = .ok (.getfield 51, 3) := by decide +kernel
theorem dX3_pedal_44 : decode cX3_pedal 44 = .ok (.invokevirtual 55, 3) := by decide +kernel
theorem dX3_pedal_47 : decode cX3_pedal 47 = .ok (.ifCond .eq 13, 3) := by decide +kernel
theorem dX3_pedal_50 : decode cX3_pedal 50 = .ok (.new 61, 3) := by decide +kernel
theorem dX3_pedal_53 : decode cX3_pedal 53 = .ok (.dup, 1) := by decide +kernel
theorem dX3_pedal_54 : decode cX3_pedal 54 = .ok (.ldc 63, 2) := by decide +kernel
theorem dX3_pedal_56 : decode cX3_pedal 56 = .ok (.invokespecial 65, 3) := by decide +kernel
theorem dX3_pedal_59 : decode cX3_pedal 59 = .ok (.athrow, 1) := by decide +kernel
theorem dX3_pedal_60 : decode cX3_pedal 60 = .ok (.aload 5, 2) := by decide +kernel
theorem dX3_pedal_62 : decode cX3_pedal 62 = .ok (.iconst 0, 1) := by decide +kernel
theorem dX3_pedal_63 : decode cX3_pedal 63 = .ok (.putfield 66, 3) := by decide +kernel
theorem dX3_pedal_66 : decode cX3_pedal 66 = .ok (.aload 5, 2) := by decide +kernel
theorem dX3_pedal_68 : decode cX3_pedal 68 = .ok (.getfield 51, 3) := by decide +kernel
theorem dX3_pedal_71 : decode cX3_pedal 71 = .ok (.iload_n 2, 1) := by decide +kernel
theorem dX3_pedal_72 : decode cX3_pedal 72 = .ok (.lload 6, 2) := by decide +kernel
theorem dX3_pedal_74 : decode cX3_pedal 74 = .ok (.invokevirtual 70, 3) := by decide +kernel
theorem dX3_pedal_77 : decode cX3_pedal 77 = .ok (.ireturn, 1) := by decide +kernel
set_option maxRecDepth 20000 in
theorem ggX3_turn_X3_wireAt : GoodIn wsX3_turn wsX3_wireAt := goodIn_ca (goodIn_r _ [7, 8, 9, 10, 11, 12, 6, 13, 65] (by decide +kernel) (by decide +kernel)) (goodIn_sub (fun _ h => List.mem_cons_of_mem _ (List.mem_append_right _ h)) (by decide +kernel))
set_option maxRecDepth 20000 in
theorem gX3_turn_X3_wireAt : GoodIn wsX3_turn (wsV RX3 22 RX3 yX3_wireAt wsX3_wireAt) := goodIn_app (goodIn_of _ (by decide +kernel)) ggX3_turn_X3_wireAt
set_option maxRecDepth 20000 in
theorem ggX3_turn_X3_needPedal : GoodIn wsX3_turn wsX3_needPedal := goodIn_ca (goodIn_r _ [16, 8, 9, 1, 17, 18, 19, 20, 21, 22, 50, 51, 52, 53, 54, 55, 56, 57, 58, 59, 60, 61, 62, 63, 64] (by decide +kernel) (by decide +kernel)) (goodIn_sub (fun _ h => List.mem_cons_of_mem _ (List.mem_append_right _ h)) (by decide +kernel))
set_option maxRecDepth 20000 in
theorem gX3_turn_X3_needPedal : GoodIn wsX3_turn (va_wsS RX3 74 yX3_needPedal wsX3_needPedal) := goodIn_app (goodIn_of _ (by decide +kernel)) ggX3_turn_X3_needPedal
set_option maxRecDepth 20000 in
theorem ggX3_turn_X3_numberOn : GoodIn wsX3_turn wsX3_numberOn := goodIn_ca (goodIn_r _ [25, 8, 9, 26, 27, 28, 29, 30, 31, 32, 33, 34, 35, 36, 37, 38, 39, 40, 41, 42, 43, 44, 45, 46, 47, 48, 49, 50, 51, 52, 53, 54, 55, 56, 57, 58, 59, 60] (by decide +kernel) (by decide +kernel)) (goodIn_sub (fun _ h => List.mem_cons_of_mem _ (List.mem_append_right _ h)) (by decide +kernel))
set_option maxRecDepth 20000 in
theorem gX3_turn_X3_numberOn : GoodIn wsX3_turn (va_wsS RX3 26 yX3_numberOn wsX3_numberOn) := goodIn_app (goodIn_of _ (by decide +kernel)) ggX3_turn_X3_numberOn
theorem dX3_turn_0 : decode cX3_turn 0 = .ok (.aload_n 0, 1) := by decide +kernel
theorem dX3_turn_1 : decode cX3_turn 1 = .ok (.iload_n 1, 1) := by decide +kernel
theorem dX3_turn_2 : decode cX3_turn 2 = .ok (.invokevirtual 22, 3) := by decide +kernel
theorem dX3_turn_5 : decode cX3_turn 5 = .ok (.astore 5, 2) := by decide +kernel
theorem dX3_turn_7 : decode cX3_turn 7 = .ok (.aload 5, 2) := by decide +kernel
theorem dX3_turn_9 : decode cX3_turn 9 = .ok (.iload_n 2, 1) := by decide +kernel
theorem dX3_turn_10 : decode cX3_turn 10 = .ok (.invokestatic 74, 3) := by decide +kernel
theorem dX3_turn_13 : decode cX3_turn 13 = .ok (.aload 5, 2) := by decide +kernel
theorem dX3_turn_15 : decode cX3_turn 15 = .ok (.iload_n 3, 1) := by decide +kernel
theorem dX3_turn_16 : decode cX3_turn 16 = .ok (.iload 4, 2) := by decide +kernel
theorem dX3_turn_18 : decode cX3_turn 18 = .ok (.invokestatic 26, 3) := by decide +kernel
theorem dX3_turn_21 : decode cX3_turn 21 = .ok (.lstore 6, 2) := by decide +kernel
theorem dX3_turn_23 : decode cX3_turn 23 = .ok (.aload 5, 2) := by decide +kernel
theorem dX3_turn_25 : decode cX3_turn 25 = .ok (.getfield 51, 3) := by decide +kernel
theorem dX3_turn_28 : decode cX3_turn 28 = .ok (.getfield 78, 3) := by decide +kernel
theorem dX3_turn_31 : decode cX3_turn 31 = .ok (.iload_n 2, 1) := by decide +kernel
theorem dX3_turn_32 : decode cX3_turn 32 = .ok (.laload, 1) := by decide +kernel
theorem dX3_turn_33 : decode cX3_turn 33 = .ok (.lload 6, 2) := by decide +kernel
theorem dX3_turn_35 : decode cX3_turn 35 = .ok (.lcmp, 1) := by decide +kernel
theorem dX3_turn_36 : decode cX3_turn 36 = .ok (.ifCond .eq 7, 3) := by decide +kernel
theorem dX3_turn_39 : decode cX3_turn 39 = .ok (.iconst 1, 1) := by decide +kernel
theorem dX3_turn_40 : decode cX3_turn 40 = .ok (.goto 4, 3) := by decide +kernel
theorem dX3_turn_43 : decode cX3_turn 43 = .ok (.iconst 0, 1) := by decide +kernel
theorem dX3_turn_44 : decode cX3_turn 44 = .ok (.istore 8, 2) := by decide +kernel
theorem dX3_turn_46 : decode cX3_turn 46 = .ok (.aload 5, 2) := by decide +kernel
theorem dX3_turn_48 : decode cX3_turn 48 = .ok (.getfield 51, 3) := by decide +kernel
theorem dX3_turn_51 : decode cX3_turn 51 = .ok (.getfield 78, 3) := by decide +kernel
theorem dX3_turn_54 : decode cX3_turn 54 = .ok (.iload_n 2, 1) := by decide +kernel
theorem dX3_turn_55 : decode cX3_turn 55 = .ok (.lload 6, 2) := by decide +kernel
theorem dX3_turn_57 : decode cX3_turn 57 = .ok (.lastore, 1) := by decide +kernel
theorem dX3_turn_58 : decode cX3_turn 58 = .ok (.iload 8, 2) := by decide +kernel
theorem dX3_turn_60 : decode cX3_turn 60 = .ok (.ireturn, 1) := by decide +kernel
set_option maxRecDepth 20000 in
theorem ggX3_tap_X3_wireAt : GoodIn wsX3_tap wsX3_wireAt := goodIn_ca (goodIn_r _ [7, 8, 9, 10, 11, 12, 6, 13, 38] (by decide +kernel) (by decide +kernel)) (goodIn_sub (fun _ h => List.mem_cons_of_mem _ (List.mem_append_right _ h)) (by decide +kernel))
set_option maxRecDepth 20000 in
theorem gX3_tap_X3_wireAt : GoodIn wsX3_tap (wsV RX3 22 RX3 yX3_wireAt wsX3_wireAt) := goodIn_app (goodIn_of _ (by decide +kernel)) ggX3_tap_X3_wireAt
set_option maxRecDepth 20000 in
theorem ggX3_tap_X3_needPedal : GoodIn wsX3_tap wsX3_needPedal := goodIn_ca (goodIn_r _ [16, 8, 9, 1, 17, 18, 19, 20, 21, 22, 23, 24, 25, 26, 27, 28, 29, 30, 31, 32, 33, 34, 35, 36, 37] (by decide +kernel) (by decide +kernel)) (goodIn_sub (fun _ h => List.mem_cons_of_mem _ (List.mem_append_right _ h)) (by decide +kernel))
set_option maxRecDepth 20000 in
theorem gX3_tap_X3_needPedal : GoodIn wsX3_tap (va_wsS RX3 74 yX3_needPedal wsX3_needPedal) := goodIn_app (goodIn_of _ (by decide +kernel)) ggX3_tap_X3_needPedal
theorem dX3_tap_0 : decode cX3_tap 0 = .ok (.aload_n 0, 1) := by decide +kernel
theorem dX3_tap_1 : decode cX3_tap 1 = .ok (.iload_n 1, 1) := by decide +kernel
theorem dX3_tap_2 : decode cX3_tap 2 = .ok (.invokevirtual 22, 3) := by decide +kernel
theorem dX3_tap_5 : decode cX3_tap 5 = .ok (.astore_n 3, 1) := by decide +kernel
theorem dX3_tap_6 : decode cX3_tap 6 = .ok (.aload_n 3, 1) := by decide +kernel
theorem dX3_tap_7 : decode cX3_tap 7 = .ok (.iload_n 2, 1) := by decide +kernel
theorem dX3_tap_8 : decode cX3_tap 8 = .ok (.invokestatic 74, 3) := by decide +kernel
theorem dX3_tap_11 : decode cX3_tap 11 = .ok (.aload_n 3, 1) := by decide +kernel
theorem dX3_tap_12 : decode cX3_tap 12 = .ok (.getfield 51, 3) := by decide +kernel
theorem dX3_tap_15 : decode cX3_tap 15 = .ok (.getfield 82, 3) := by decide +kernel
theorem dX3_tap_18 : decode cX3_tap 18 = .ok (.iload_n 2, 1) := by decide +kernel
theorem dX3_tap_19 : decode cX3_tap 19 = .ok (.aload_n 3, 1) := by decide +kernel
theorem dX3_tap_20 : decode cX3_tap 20 = .ok (.getfield 51, 3) := by decide +kernel
theorem dX3_tap_23 : decode cX3_tap 23 = .ok (.getfield 82, 3) := by decide +kernel
theorem dX3_tap_26 : decode cX3_tap 26 = .ok (.iload_n 2, 1) := by decide +kernel
theorem dX3_tap_27 : decode cX3_tap 27 = .ok (.baload, 1) := by decide +kernel
theorem dX3_tap_28 : decode cX3_tap 28 = .ok (.ifCond .ne 7, 3) := by decide +kernel
theorem dX3_tap_31 : decode cX3_tap 31 = .ok (.iconst 1, 1) := by decide +kernel
theorem dX3_tap_32 : decode cX3_tap 32 = .ok (.goto 4, 3) := by decide +kernel
theorem dX3_tap_35 : decode cX3_tap 35 = .ok (.iconst 0, 1) := by decide +kernel
theorem dX3_tap_36 : decode cX3_tap 36 = .ok (.bastore, 1) := by decide +kernel
theorem dX3_tap_37 : decode cX3_tap 37 = .ok (.aload_n 3, 1) := by decide +kernel
theorem dX3_tap_38 : decode cX3_tap 38 = .ok (.getfield 51, 3) := by decide +kernel
theorem dX3_tap_41 : decode cX3_tap 41 = .ok (.getfield 82, 3) := by decide +kernel
theorem dX3_tap_44 : decode cX3_tap 44 = .ok (.iload_n 2, 1) := by decide +kernel
theorem dX3_tap_45 : decode cX3_tap 45 = .ok (.baload, 1) := by decide +kernel
theorem dX3_tap_46 : decode cX3_tap 46 = .ok (.ireturn, 1) := by decide +kernel
set_option maxRecDepth 20000 in
theorem ggX3_swap_X3_wireAt : GoodIn wsX3_swap wsX3_wireAt := goodIn_ca (goodIn_r _ [7, 8, 9, 10, 11, 12, 6, 13, 45] (by decide +kernel) (by decide +kernel)) (goodIn_sub (fun _ h => List.mem_cons_of_mem _ (List.mem_append_right _ h)) (by decide +kernel))
set_option maxRecDepth 20000 in
theorem gX3_swap_X3_wireAt : GoodIn wsX3_swap (wsV RX3 22 RX3 yX3_wireAt wsX3_wireAt) := goodIn_app (goodIn_of _ (by decide +kernel)) ggX3_swap_X3_wireAt
set_option maxRecDepth 20000 in
theorem ggX3_swap_X3_needPedal : GoodIn wsX3_swap wsX3_needPedal := goodIn_ca (goodIn_r _ [16, 8, 9, 2, 17, 18, 19, 20, 21, 22, 34, 35, 36, 37, 38, 39, 40, 41, 42, 43, 44, 46, 47, 48, 49] (by decide +kernel) (by decide +kernel)) (goodIn_sub (fun _ h => List.mem_cons_of_mem _ (List.mem_append_right _ h)) (by decide +kernel))
set_option maxRecDepth 20000 in
theorem gX3_swap_X3_needPedal : GoodIn wsX3_swap (va_wsS RX3 74 yX3_needPedal wsX3_needPedal) := goodIn_app (goodIn_of _ (by decide +kernel)) ggX3_swap_X3_needPedal
set_option maxRecDepth 20000 in
theorem ggX3_swap_X0_areUnlike : GoodIn wsX3_swap wsX0_areUnlike := goodIn_r _ [26, 27, 28, 29, 46, 47, 48, 49] (by decide +kernel) (by decide +kernel)
set_option maxRecDepth 20000 in
theorem gX3_swap_X0_areUnlike : GoodIn wsX3_swap (wsV RX3 86 RX0 yX0_areUnlike wsX0_areUnlike) := goodIn_app (goodIn_of _ (by decide +kernel)) ggX3_swap_X0_areUnlike
set_option maxRecDepth 20000 in
theorem ggX3_swap_X0_exchange : GoodIn wsX3_swap wsX0_exchange := goodIn_r _ [33, 27, 28, 29, 46, 47, 48, 49] (by decide +kernel) (by decide +kernel)
set_option maxRecDepth 20000 in
theorem gX3_swap_X0_exchange : GoodIn wsX3_swap (wsV RX3 90 RX0 yX0_exchange wsX0_exchange) := goodIn_app (goodIn_of _ (by decide +kernel)) ggX3_swap_X0_exchange
theorem dX3_swap_0 : decode cX3_swap 0 = .ok (.aload_n 0, 1) := by decide +kernel
theorem dX3_swap_1 : decode cX3_swap 1 = .ok (.iload_n 1, 1) := by decide +kernel
theorem dX3_swap_2 : decode cX3_swap 2 = .ok (.invokevirtual 22, 3) := by decide +kernel
theorem dX3_swap_5 : decode cX3_swap 5 = .ok (.astore 4, 2) := by decide +kernel
theorem dX3_swap_7 : decode cX3_swap 7 = .ok (.aload 4, 2) := by decide +kernel
theorem dX3_swap_9 : decode cX3_swap 9 = .ok (.iload_n 2, 1) := by decide +kernel
theorem dX3_swap_10 : decode cX3_swap 10 = .ok (.invokestatic 74, 3) := by decide +kernel
theorem dX3_swap_13 : decode cX3_swap 13 = .ok (.aload 4, 2) := by decide +kernel
theorem dX3_swap_15 : decode cX3_swap 15 = .ok (.iload_n 3, 1) := by decide +kernel
theorem dX3_swap_16 : decode cX3_swap 16 = .ok (.invokestatic 74, 3) := by decide +kernel
theorem dX3_swap_19 : decode cX3_swap 19 = .ok (.aload 4, 2) := by decide +kernel
theorem dX3_swap_21 : decode cX3_swap 21 = .ok (.iconst 0, 1) := by decide +kernel
theorem dX3_swap_22 : decode cX3_swap 22 = .ok (.putfield 66, 3) := by decide +kernel
theorem dX3_swap_25 : decode cX3_swap 25 = .ok (.aload 4, 2) := by decide +kernel
theorem dX3_swap_27 : decode cX3_swap 27 = .ok (.getfield 51, 3) := by decide +kernel
theorem dX3_swap_30 : decode cX3_swap 30 = .ok (.iload_n 2, 1) := by decide +kernel
theorem dX3_swap_31 : decode cX3_swap 31 = .ok (.iload_n 3, 1) := by decide +kernel
theorem dX3_swap_32 : decode cX3_swap 32 = .ok (.invokevirtual 86, 3) := by decide +kernel
theorem dX3_swap_35 : decode cX3_swap 35 = .ok (.istore 5, 2) := by decide +kernel
theorem dX3_swap_37 : decode cX3_swap 37 = .ok (.aload 4, 2) := by decide +kernel
theorem dX3_swap_39 : decode cX3_swap 39 = .ok (.getfield 51, 3) := by decide +kernel
theorem dX3_swap_42 : decode cX3_swap 42 = .ok (.iload_n 2, 1) := by decide +kernel
theorem dX3_swap_43 : decode cX3_swap 43 = .ok (.iload_n 3, 1) := by decide +kernel
theorem dX3_swap_44 : decode cX3_swap 44 = .ok (.invokevirtual 90, 3) := by decide +kernel
theorem dX3_swap_47 : decode cX3_swap 47 = .ok (.iload 5, 2) := by decide +kernel
theorem dX3_swap_49 : decode cX3_swap 49 = .ok (.ireturn, 1) := by decide +kernel
set_option maxRecDepth 20000 in
theorem ggX3_play_X3_wireAt : GoodIn wsX3_play wsX3_wireAt := goodIn_ca (goodIn_r _ [7, 1, 2, 8, 9, 10, 6, 11, 95] (by decide +kernel) (by decide +kernel)) (goodIn_sub (fun _ h => List.mem_cons_of_mem _ (List.mem_append_right _ h)) (by decide +kernel))
set_option maxRecDepth 20000 in
theorem gX3_play_X3_wireAt : GoodIn wsX3_play (wsV RX3 22 RX3 yX3_wireAt wsX3_wireAt) := goodIn_app (goodIn_of _ (by decide +kernel)) ggX3_play_X3_wireAt
set_option maxRecDepth 20000 in
theorem ggX3_play_X2_runRound : GoodIn wsX3_play wsX2_runRound := goodIn_r _ [16, 17, 18, 19, 20, 21, 22, 23, 24, 25, 26, 27, 28, 29, 30, 31, 32, 33, 34, 35, 36, 37, 38, 39, 40, 41, 42, 43, 44, 45, 46, 47, 48, 49, 50, 51, 52, 53, 54, 55, 56, 57, 58, 59, 60, 61, 62, 63, 64, 65, 66, 67, 68, 69, 70, 71, 72, 73, 74, 75, 76, 77, 78, 79, 80, 81, 82, 83, 84, 85, 86, 15, 87, 88, 89, 90, 91, 92, 93, 94, 96, 97, 98, 99, 100, 101, 102, 103, 104, 105, 106, 107, 108, 109, 110] (by decide +kernel) (by decide +kernel)
set_option maxRecDepth 20000 in
theorem gX3_play_X2_runRound : GoodIn wsX3_play (wsV RX3 96 RX2 yX2_runRound wsX2_runRound) := goodIn_app (goodIn_of _ (by decide +kernel)) ggX3_play_X2_runRound
theorem dX3_play_0 : decode cX3_play 0 = .ok (.aload_n 0, 1) := by decide +kernel
theorem dX3_play_1 : decode cX3_play 1 = .ok (.iload_n 1, 1) := by decide +kernel
theorem dX3_play_2 : decode cX3_play 2 = .ok (.invokevirtual 22, 3) := by decide +kernel
theorem dX3_play_5 : decode cX3_play 5 = .ok (.astore_n 3, 1) := by decide +kernel
theorem dX3_play_6 : decode cX3_play 6 = .ok (.iload_n 2, 1) := by decide +kernel
theorem dX3_play_7 : decode cX3_play 7 = .ok (.iconst 1, 1) := by decide +kernel
theorem dX3_play_8 : decode cX3_play 8 = .ok (.if_icmp .lt 9, 3) := by decide +kernel
theorem dX3_play_11 : decode cX3_play 11 = .ok (.iload_n 2, 1) := by decide +kernel
theorem dX3_play_12 : decode cX3_play 12 = .ok (.bipush 50, 2) := by decide +kernel
theorem dX3_play_14 : decode cX3_play 14 = .ok (.if_icmp .le 13, 3) := by decide +kernel
theorem dX3_play_17 : decode cX3_play 17 = .ok (.new 44, 3) := by decide +kernel
theorem dX3_play_20 : decode cX3_play 20 = .ok (.dup, 1) := by decide +kernel
theorem dX3_play_21 : decode cX3_play 21 = .ok (.ldc 94, 2) := by decide +kernel
theorem dX3_play_23 : decode cX3_play 23 = .ok (.invokespecial 48, 3) := by decide +kernel
theorem dX3_play_26 : decode cX3_play 26 = .ok (.athrow, 1) := by decide +kernel
theorem dX3_play_27 : decode cX3_play 27 = .ok (.iconst 0, 1) := by decide +kernel
theorem dX3_play_28 : decode cX3_play 28 = .ok (.istore 4, 2) := by decide +kernel
theorem dX3_play_30 : decode cX3_play 30 = .ok (.iconst 0, 1) := by decide +kernel
theorem dX3_play_31 : decode cX3_play 31 = .ok (.istore 5, 2) := by decide +kernel
theorem dX3_play_33 : decode cX3_play 33 = .ok (.iload 5, 2) := by decide +kernel
theorem dX3_play_35 : decode cX3_play 35 = .ok (.iload_n 2, 1) := by decide +kernel
theorem dX3_play_36 : decode cX3_play 36 = .ok (.if_icmp .ge 18, 3) := by decide +kernel
theorem dX3_play_39 : decode cX3_play 39 = .ok (.iload 4, 2) := by decide +kernel
theorem dX3_play_41 : decode cX3_play 41 = .ok (.aload_n 3, 1) := by decide +kernel
theorem dX3_play_42 : decode cX3_play 42 = .ok (.invokevirtual 96, 3) := by decide +kernel
theorem dX3_play_45 : decode cX3_play 45 = .ok (.iadd, 1) := by decide +kernel
theorem dX3_play_46 : decode cX3_play 46 = .ok (.istore 4, 2) := by decide +kernel
theorem dX3_play_48 : decode cX3_play 48 = .ok (.iinc 5 1, 3) := by decide +kernel
theorem dX3_play_51 : decode cX3_play 51 = .ok (.goto (-18), 3) := by decide +kernel
theorem dX3_play_54 : decode cX3_play 54 = .ok (.iload 4, 2) := by decide +kernel
theorem dX3_play_56 : decode cX3_play 56 = .ok (.ireturn, 1) := by decide +kernel
set_option maxRecDepth 20000 in
theorem ggX3_code_X3_wireAt : GoodIn wsX3_code wsX3_wireAt := goodIn_ca (goodIn_r _ [13, 1, 2, 14, 15, 16, 12, 17, 35] (by decide +kernel) (by decide +kernel)) (goodIn_sub (fun _ h => List.mem_cons_of_mem _ (List.mem_append_left _ (List.mem_append_right _ h))) (by decide +kernel))
set_option maxRecDepth 20000 in
theorem gX3_code_X3_wireAt : GoodIn wsX3_code (wsV RX3 22 RX3 yX3_wireAt wsX3_wireAt) := goodIn_app (goodIn_of _ (by decide +kernel)) ggX3_code_X3_wireAt
set_option maxRecDepth 20000 in
theorem ggX3_code_X2_hasPeaks : GoodIn wsX3_code wsX2_hasPeaks := goodIn_r _ [22, 23, 24, 25, 26, 27, 28, 29, 30, 31, 32, 33, 34] (by decide +kernel) (by decide +kernel)
set_option maxRecDepth 20000 in
theorem gX3_code_X2_hasPeaks : GoodIn wsX3_code (wsV RX3 109 RX2 yX2_hasPeaks wsX2_hasPeaks) := goodIn_app (goodIn_of _ (by decide +kernel)) ggX3_code_X2_hasPeaks
theorem dX3_code_0 : decode cX3_code 0 = .ok (.aload_n 0, 1) := by decide +kernel
theorem dX3_code_1 : decode cX3_code 1 = .ok (.iload_n 1, 1) := by decide +kernel
theorem dX3_code_2 : decode cX3_code 2 = .ok (.invokevirtual 22, 3) := by decide +kernel
theorem dX3_code_5 : decode cX3_code 5 = .ok (.astore_n 3, 1) := by decide +kernel
theorem dX3_code_6 : decode cX3_code 6 = .ok (.iload_n 2, 1) := by decide +kernel
theorem dX3_code_7 : decode cX3_code 7 = .ok (.ifCond .lt 8, 3) := by decide +kernel
theorem dX3_code_10 : decode cX3_code 10 = .ok (.iload_n 2, 1) := by decide +kernel
theorem dX3_code_11 : decode cX3_code 11 = .ok (.iconst 3, 1) := by decide +kernel
theorem dX3_code_12 : decode cX3_code 12 = .ok (.if_icmp .le 13, 3) := by decide +kernel
theorem dX3_code_15 : decode cX3_code 15 = .ok (.new 44, 3) := by decide +kernel
theorem dX3_code_18 : decode cX3_code 18 = .ok (.dup, 1) := by decide +kernel
theorem dX3_code_19 : decode cX3_code 19 = .ok (.ldc 100, 2) := by decide +kernel
theorem dX3_code_21 : decode cX3_code 21 = .ok (.invokespecial 48, 3) := by decide +kernel
theorem dX3_code_24 : decode cX3_code 24 = .ok (.athrow, 1) := by decide +kernel
theorem dX3_code_25 : decode cX3_code 25 = .ok (.iload_n 2, 1) := by decide +kernel
theorem dX3_code_26 : decode cX3_code 26 = .ok (.ifCond .ne 8, 3) := by decide +kernel
theorem dX3_code_29 : decode cX3_code 29 = .ok (.aload_n 3, 1) := by decide +kernel
theorem dX3_code_30 : decode cX3_code 30 = .ok (.getfield 102, 3) := by decide +kernel
theorem dX3_code_33 : decode cX3_code 33 = .ok (.lreturn, 1) := by decide +kernel
theorem dX3_code_34 : decode cX3_code 34 = .ok (.iload_n 2, 1) := by decide +kernel
theorem dX3_code_35 : decode cX3_code 35 = .ok (.iconst 1, 1) := by decide +kernel
theorem dX3_code_36 : decode cX3_code 36 = .ok (.if_icmp .ne 8, 3) := by decide +kernel
theorem dX3_code_39 : decode cX3_code 39 = .ok (.aload_n 3, 1) := by decide +kernel
theorem dX3_code_40 : decode cX3_code 40 = .ok (.getfield 106, 3) := by decide +kernel
theorem dX3_code_43 : decode cX3_code 43 = .ok (.lreturn, 1) := by decide +kernel
theorem dX3_code_44 : decode cX3_code 44 = .ok (.aload_n 3, 1) := by decide +kernel
theorem dX3_code_45 : decode cX3_code 45 = .ok (.invokevirtual 109, 3) := by decide +kernel
theorem dX3_code_48 : decode cX3_code 48 = .ok (.ifCond .ne 13, 3) := by decide +kernel
theorem dX3_code_51 : decode cX3_code 51 = .ok (.new 61, 3) := by decide +kernel
theorem dX3_code_54 : decode cX3_code 54 = .ok (.dup, 1) := by decide +kernel
theorem dX3_code_55 : decode cX3_code 55 = .ok (.ldc 112, 2) := by decide +kernel
theorem dX3_code_57 : decode cX3_code 57 = .ok (.invokespecial 65, 3) := by decide +kernel
theorem dX3_code_60 : decode cX3_code 60 = .ok (.athrow, 1) := by decide +kernel
theorem dX3_code_61 : decode cX3_code 61 = .ok (.iload_n 2, 1) := by decide +kernel
theorem dX3_code_62 : decode cX3_code 62 = .ok (.iconst 2, 1) := by decide +kernel
theorem dX3_code_63 : decode cX3_code 63 = .ok (.if_icmp .ne 10, 3) := by decide +kernel
theorem dX3_code_66 : decode cX3_code 66 = .ok (.aload_n 3, 1) := by decide +kernel
theorem dX3_code_67 : decode cX3_code 67 = .ok (.getfield 114, 3) := by decide +kernel
theorem dX3_code_70 : decode cX3_code 70 = .ok (.goto 7, 3) := by decide +kernel
theorem dX3_code_73 : decode cX3_code 73 = .ok (.aload_n 3, 1) := by decide +kernel
theorem dX3_code_74 : decode cX3_code 74 = .ok (.getfield 117, 3) := by decide +kernel
theorem dX3_code_77 : decode cX3_code 77 = .ok (.lreturn, 1) := by decide +kernel
set_option maxRecDepth 20000 in
theorem ggX3_trace_X3_wireAt : GoodIn wsX3_trace wsX3_wireAt := goodIn_ca (goodIn_r _ [9, 10, 11, 12, 13, 14, 8, 15, 37] (by decide +kernel) (by decide +kernel)) (goodIn_sub (fun _ h => List.mem_cons_of_mem _ (List.mem_append_right _ h)) (by decide +kernel))
set_option maxRecDepth 20000 in
theorem gX3_trace_X3_wireAt : GoodIn wsX3_trace (wsV RX3 22 RX3 yX3_wireAt wsX3_wireAt) := goodIn_app (goodIn_of _ (by decide +kernel)) ggX3_trace_X3_wireAt
set_option maxRecDepth 20000 in
theorem ggX3_trace_X3_needPedal : GoodIn wsX3_trace wsX3_needPedal := goodIn_ca (goodIn_r _ [18, 10, 11, 19, 20, 21, 22, 23, 24, 25, 26, 27, 28, 29, 30, 31, 32, 33, 34, 35, 36, 38, 39, 40, 41] (by decide +kernel) (by decide +kernel)) (goodIn_sub (fun _ h => List.mem_cons_of_mem _ (List.mem_append_right _ h)) (by decide +kernel))
set_option maxRecDepth 20000 in
theorem gX3_trace_X3_needPedal : GoodIn wsX3_trace (va_wsS RX3 74 yX3_needPedal wsX3_needPedal) := goodIn_app (goodIn_of _ (by decide +kernel)) ggX3_trace_X3_needPedal
theorem dX3_trace_0 : decode cX3_trace 0 = .ok (.aload_n 0, 1) := by decide +kernel
theorem dX3_trace_1 : decode cX3_trace 1 = .ok (.iload_n 1, 1) := by decide +kernel
theorem dX3_trace_2 : decode cX3_trace 2 = .ok (.invokevirtual 22, 3) := by decide +kernel
theorem dX3_trace_5 : decode cX3_trace 5 = .ok (.astore_n 3, 1) := by decide +kernel
theorem dX3_trace_6 : decode cX3_trace 6 = .ok (.aload_n 3, 1) := by decide +kernel
theorem dX3_trace_7 : decode cX3_trace 7 = .ok (.iload_n 2, 1) := by decide +kernel
theorem dX3_trace_8 : decode cX3_trace 8 = .ok (.invokestatic 74, 3) := by decide +kernel
theorem dX3_trace_11 : decode cX3_trace 11 = .ok (.aload_n 3, 1) := by decide +kernel
theorem dX3_trace_12 : decode cX3_trace 12 = .ok (.getfield 66, 3) := by decide +kernel
theorem dX3_trace_15 : decode cX3_trace 15 = .ok (.ifCond .ne 13, 3) := by decide +kernel
theorem dX3_trace_18 : decode cX3_trace 18 = .ok (.new 61, 3) := by decide +kernel
theorem dX3_trace_21 : decode cX3_trace 21 = .ok (.dup, 1) := by decide +kernel
theorem dX3_trace_22 : decode cX3_trace 22 = .ok (.ldc 120, 2) := by decide +kernel
theorem dX3_trace_24 : decode cX3_trace 24 = .ok (.invokespecial 65, 3) := by decide +kernel
theorem dX3_trace_27 : decode cX3_trace 27 = .ok (.athrow, 1) := by decide +kernel
theorem dX3_trace_28 : decode cX3_trace 28 = .ok (.aload_n 3, 1) := by decide +kernel
theorem dX3_trace_29 : decode cX3_trace 29 = .ok (.getfield 122, 3) := by decide +kernel
theorem dX3_trace_32 : decode cX3_trace 32 = .ok (.iload_n 2, 1) := by decide +kernel
theorem dX3_trace_33 : decode cX3_trace 33 = .ok (.laload, 1) := by decide +kernel
theorem dX3_trace_34 : decode cX3_trace 34 = .ok (.lreturn, 1) := by decide +kernel
set_option maxRecDepth 20000 in
theorem ggX3_light_X3_isWire : GoodIn wsX3_light wsX3_isWire := goodIn_r _ [5] (by decide +kernel) (by decide +kernel)
set_option maxRecDepth 20000 in
theorem gX3_light_X3_isWire : GoodIn wsX3_light (va_wsS RX3 125 yX3_isWire wsX3_isWire) := goodIn_app (goodIn_of _ (by decide +kernel)) ggX3_light_X3_isWire
set_option maxRecDepth 20000 in
theorem ggX3_light_X2_isLit : GoodIn wsX3_light wsX2_isLit := goodIn_r _ [10, 11, 12, 13, 14, 15, 16, 17, 18, 19, 21, 22, 23, 24, 25, 26, 27, 28, 29, 30, 31, 32, 33, 34, 35] (by decide +kernel) (by decide +kernel)
set_option maxRecDepth 20000 in
theorem gX3_light_X2_isLit : GoodIn wsX3_light (wsV RX3 128 RX2 yX2_isLit wsX2_isLit) := goodIn_app (goodIn_of _ (by decide +kernel)) ggX3_light_X2_isLit
theorem dX3_light_0 : decode cX3_light 0 = .ok (.iload_n 1, 1) := by decide +kernel
theorem dX3_light_1 : decode cX3_light 1 = .ok (.invokestatic 125, 3) := by decide +kernel
theorem dX3_light_4 : decode cX3_light 4 = .ok (.ifCond .eq 20, 3) := by decide +kernel
theorem dX3_light_7 : decode cX3_light 7 = .ok (.aload_n 0, 1) := by decide +kernel
theorem dX3_light_8 : decode cX3_light 8 = .ok (.getfield 11, 3) := by decide +kernel
theorem dX3_light_11 : decode cX3_light 11 = .ok (.iload_n 1, 1) := by decide +kernel
theorem dX3_light_12 : decode cX3_light 12 = .ok (.aaload, 1) := by decide +kernel
theorem dX3_light_13 : decode cX3_light 13 = .ok (.iload_n 2, 1) := by decide +kernel
theorem dX3_light_14 : decode cX3_light 14 = .ok (.invokevirtual 128, 3) := by decide +kernel
theorem dX3_light_17 : decode cX3_light 17 = .ok (.ifCond .eq 7, 3) := by decide +kernel
theorem dX3_light_20 : decode cX3_light 20 = .ok (.iconst 1, 1) := by decide +kernel
theorem dX3_light_21 : decode cX3_light 21 = .ok (.goto 4, 3) := by decide +kernel
theorem dX3_light_24 : decode cX3_light 24 = .ok (.iconst 0, 1) := by decide +kernel
theorem dX3_light_25 : decode cX3_light 25 = .ok (.ireturn, 1) := by decide +kernel
set_option maxRecDepth 20000 in
theorem ggX3_against_X3_wireAt : GoodIn wsX3_against wsX3_wireAt := goodIn_ca (goodIn_r _ [8, 9, 10, 11, 12, 13, 7, 14, 45] (by decide +kernel) (by decide +kernel)) (goodIn_sub (fun _ h => List.mem_cons_of_mem _ (List.mem_append_right _ h)) (by decide +kernel))
set_option maxRecDepth 20000 in
theorem gX3_against_X3_wireAt : GoodIn wsX3_against (wsV RX3 22 RX3 yX3_wireAt wsX3_wireAt) := goodIn_app (goodIn_of _ (by decide +kernel)) ggX3_against_X3_wireAt
set_option maxRecDepth 20000 in
theorem ggX3_against_X1_isZero : GoodIn wsX3_against wsX1_isZero := goodIn_r _ [19, 20, 21, 22, 23, 18, 24, 25] (by decide +kernel) (by decide +kernel)
set_option maxRecDepth 20000 in
theorem gX3_against_X1_isZero : GoodIn wsX3_against (wsV RX3 131 RX1 yX1_isZero wsX1_isZero) := goodIn_app (goodIn_of _ (by decide +kernel)) ggX3_against_X1_isZero
set_option maxRecDepth 20000 in
theorem ggX3_against_X1_isLess : GoodIn wsX3_against wsX1_isLess := goodIn_r _ [29, 30, 31, 32, 18, 33, 20, 21, 22, 23, 24, 25] (by decide +kernel) (by decide +kernel)
set_option maxRecDepth 20000 in
theorem gX3_against_X1_isLess : GoodIn wsX3_against (wsV RX3 134 RX1 yX1_isLess wsX1_isLess) := goodIn_app (goodIn_of _ (by decide +kernel)) ggX3_against_X1_isLess
theorem dX3_against_0 : decode cX3_against 0 = .ok (.aload_n 0, 1) := by decide +kernel
theorem dX3_against_1 : decode cX3_against 1 = .ok (.iload_n 1, 1) := by decide +kernel
theorem dX3_against_2 : decode cX3_against 2 = .ok (.invokevirtual 22, 3) := by decide +kernel
theorem dX3_against_5 : decode cX3_against 5 = .ok (.astore_n 2, 1) := by decide +kernel
theorem dX3_against_6 : decode cX3_against 6 = .ok (.aload_n 2, 1) := by decide +kernel
theorem dX3_against_7 : decode cX3_against 7 = .ok (.getfield 106, 3) := by decide +kernel
theorem dX3_against_10 : decode cX3_against 10 = .ok (.aload_n 2, 1) := by decide +kernel
theorem dX3_against_11 : decode cX3_against 11 = .ok (.getfield 102, 3) := by decide +kernel
theorem dX3_against_14 : decode cX3_against 14 = .ok (.lcmp, 1) := by decide +kernel
theorem dX3_against_15 : decode cX3_against 15 = .ok (.ifCond .ne 5, 3) := by decide +kernel
theorem dX3_against_18 : decode cX3_against 18 = .ok (.iconst 0, 1) := by decide +kernel
theorem dX3_against_19 : decode cX3_against 19 = .ok (.ireturn, 1) := by decide +kernel
theorem dX3_against_20 : decode cX3_against 20 = .ok (.aload_n 2, 1) := by decide +kernel
theorem dX3_against_21 : decode cX3_against 21 = .ok (.getfield 34, 3) := by decide +kernel
theorem dX3_against_24 : decode cX3_against 24 = .ok (.aload_n 2, 1) := by decide +kernel
theorem dX3_against_25 : decode cX3_against 25 = .ok (.getfield 106, 3) := by decide +kernel
theorem dX3_against_28 : decode cX3_against 28 = .ok (.invokevirtual 131, 3) := by decide +kernel
theorem dX3_against_31 : decode cX3_against 31 = .ok (.ifCond .eq 19, 3) := by decide +kernel
theorem dX3_against_34 : decode cX3_against 34 = .ok (.aload_n 2, 1) := by decide +kernel
theorem dX3_against_35 : decode cX3_against 35 = .ok (.getfield 34, 3) := by decide +kernel
theorem dX3_against_38 : decode cX3_against 38 = .ok (.aload_n 2, 1) := by decide +kernel
theorem dX3_against_39 : decode cX3_against 39 = .ok (.getfield 102, 3) := by decide +kernel
theorem dX3_against_42 : decode cX3_against 42 = .ok (.invokevirtual 131, 3) := by decide +kernel
theorem dX3_against_45 : decode cX3_against 45 = .ok (.ifCond .eq 5, 3) := by decide +kernel
theorem dX3_against_48 : decode cX3_against 48 = .ok (.iconst 2, 1) := by decide +kernel
theorem dX3_against_49 : decode cX3_against 49 = .ok (.ireturn, 1) := by decide +kernel
theorem dX3_against_50 : decode cX3_against 50 = .ok (.aload_n 2, 1) := by decide +kernel
theorem dX3_against_51 : decode cX3_against 51 = .ok (.getfield 34, 3) := by decide +kernel
theorem dX3_against_54 : decode cX3_against 54 = .ok (.aload_n 2, 1) := by decide +kernel
theorem dX3_against_55 : decode cX3_against 55 = .ok (.getfield 106, 3) := by decide +kernel
theorem dX3_against_58 : decode cX3_against 58 = .ok (.aload_n 2, 1) := by decide +kernel
theorem dX3_against_59 : decode cX3_against 59 = .ok (.getfield 102, 3) := by decide +kernel
theorem dX3_against_62 : decode cX3_against 62 = .ok (.invokevirtual 134, 3) := by decide +kernel
theorem dX3_against_65 : decode cX3_against 65 = .ok (.ifCond .eq 7, 3) := by decide +kernel
theorem dX3_against_68 : decode cX3_against 68 = .ok (.iconst (-1), 1) := by decide +kernel
theorem dX3_against_69 : decode cX3_against 69 = .ok (.goto 4, 3) := by decide +kernel
theorem dX3_against_72 : decode cX3_against 72 = .ok (.iconst 1, 1) := by decide +kernel
theorem dX3_against_73 : decode cX3_against 73 = .ok (.ireturn, 1) := by decide +kernel
set_option maxRecDepth 20000 in
theorem ggX3_save_X3_wireAt : GoodIn wsX3_save wsX3_wireAt := goodIn_ca (goodIn_r _ [7, 8, 9, 10, 11, 12, 6, 13, 42] (by decide +kernel) (by decide +kernel)) (goodIn_sub (fun _ h => List.mem_cons_of_mem _ (List.mem_append_right _ h)) (by decide +kernel))
set_option maxRecDepth 20000 in
theorem gX3_save_X3_wireAt : GoodIn wsX3_save (wsV RX3 22 RX3 yX3_wireAt wsX3_wireAt) := goodIn_app (goodIn_of _ (by decide +kernel)) ggX3_save_X3_wireAt
set_option maxRecDepth 20000 in
theorem ggX3_save_X3_presetOf : GoodIn wsX3_save wsX3_presetOf := goodIn_ca (goodIn_r _ [16, 8, 9, 17, 27, 28, 29, 30, 31, 32, 33, 34, 35, 36, 37] (by decide +kernel) (by decide +kernel)) (goodIn_sub (fun _ h => List.mem_cons_of_mem _ (List.mem_append_right _ h)) (by decide +kernel))
set_option maxRecDepth 20000 in
theorem gX3_save_X3_presetOf : GoodIn wsX3_save (va_wsS RX3 138 yX3_presetOf wsX3_presetOf) := goodIn_app (goodIn_of _ (by decide +kernel)) ggX3_save_X3_presetOf
set_option maxRecDepth 20000 in
theorem ggX3_save_X0_become : GoodIn wsX3_save wsX0_become := goodIn_r _ [22, 23, 24, 25, 26, 38, 39, 40, 41] (by decide +kernel) (by decide +kernel)
set_option maxRecDepth 20000 in
theorem gX3_save_X0_become : GoodIn wsX3_save (wsV RX3 142 RX0 yX0_become wsX0_become) := goodIn_app (goodIn_of _ (by decide +kernel)) ggX3_save_X0_become
theorem dX3_save_0 : decode cX3_save 0 = .ok (.aload_n 0, 1) := by decide +kernel
theorem dX3_save_1 : decode cX3_save 1 = .ok (.iload_n 1, 1) := by decide +kernel
theorem dX3_save_2 : decode cX3_save 2 = .ok (.invokevirtual 22, 3) := by decide +kernel
theorem dX3_save_5 : decode cX3_save 5 = .ok (.astore_n 3, 1) := by decide +kernel
theorem dX3_save_6 : decode cX3_save 6 = .ok (.aload_n 3, 1) := by decide +kernel
theorem dX3_save_7 : decode cX3_save 7 = .ok (.iload_n 2, 1) := by decide +kernel
theorem dX3_save_8 : decode cX3_save 8 = .ok (.invokestatic 138, 3) := by decide +kernel
theorem dX3_save_11 : decode cX3_save 11 = .ok (.astore 4, 2) := by decide +kernel
theorem dX3_save_13 : decode cX3_save 13 = .ok (.aload 4, 2) := by decide +kernel
theorem dX3_save_15 : decode cX3_save 15 = .ok (.aload_n 3, 1) := by decide +kernel
theorem dX3_save_16 : decode cX3_save 16 = .ok (.getfield 51, 3) := by decide +kernel
theorem dX3_save_19 : decode cX3_save 19 = .ok (.invokevirtual 142, 3) := by decide +kernel
theorem dX3_save_22 : decode cX3_save 22 = .ok (.aload 4, 2) := by decide +kernel
theorem dX3_save_24 : decode cX3_save 24 = .ok (.getfield 146, 3) := by decide +kernel
theorem dX3_save_27 : decode cX3_save 27 = .ok (.ireturn, 1) := by decide +kernel
set_option maxRecDepth 20000 in
theorem ggX3_recall_X3_wireAt : GoodIn wsX3_recall wsX3_wireAt := goodIn_ca (goodIn_r _ [8, 9, 10, 11, 12, 13, 7, 14, 43] (by decide +kernel) (by decide +kernel)) (goodIn_sub (fun _ h => List.mem_cons_of_mem _ (List.mem_append_right _ h)) (by decide +kernel))
set_option maxRecDepth 20000 in
theorem gX3_recall_X3_wireAt : GoodIn wsX3_recall (wsV RX3 22 RX3 yX3_wireAt wsX3_wireAt) := goodIn_app (goodIn_of _ (by decide +kernel)) ggX3_recall_X3_wireAt
set_option maxRecDepth 20000 in
theorem ggX3_recall_X3_presetOf : GoodIn wsX3_recall wsX3_presetOf := goodIn_ca (goodIn_r _ [17, 9, 10, 18, 28, 29, 30, 31, 32, 33, 34, 35, 36, 37, 38] (by decide +kernel) (by decide +kernel)) (goodIn_sub (fun _ h => List.mem_cons_of_mem _ (List.mem_append_right _ h)) (by decide +kernel))
set_option maxRecDepth 20000 in
theorem gX3_recall_X3_presetOf : GoodIn wsX3_recall (va_wsS RX3 138 yX3_presetOf wsX3_presetOf) := goodIn_app (goodIn_of _ (by decide +kernel)) ggX3_recall_X3_presetOf
set_option maxRecDepth 20000 in
theorem ggX3_recall_X0_become : GoodIn wsX3_recall wsX0_become := goodIn_r _ [23, 24, 25, 26, 27, 39, 40, 41, 42] (by decide +kernel) (by decide +kernel)
set_option maxRecDepth 20000 in
theorem gX3_recall_X0_become : GoodIn wsX3_recall (wsV RX3 142 RX0 yX0_become wsX0_become) := goodIn_app (goodIn_of _ (by decide +kernel)) ggX3_recall_X0_become
theorem dX3_recall_0 : decode cX3_recall 0 = .ok (.aload_n 0, 1) := by decide +kernel
theorem dX3_recall_1 : decode cX3_recall 1 = .ok (.iload_n 1, 1) := by decide +kernel
theorem dX3_recall_2 : decode cX3_recall 2 = .ok (.invokevirtual 22, 3) := by decide +kernel
end
section
theorem dX3_recall_5 : decode cX3_recall 5 = .ok (.astore_n 3, 1) := by decide +kernel
theorem dX3_recall_6 : decode cX3_recall 6 = .ok (.aload_n 3, 1) := by decide +kernel
theorem dX3_recall_7 : decode cX3_recall 7 = .ok (.iload_n 2, 1) := by decide +kernel
theorem dX3_recall_8 : decode cX3_recall 8 = .ok (.invokestatic 138, 3) := by decide +kernel
theorem dX3_recall_11 : decode cX3_recall 11 = .ok (.astore 4, 2) := by decide +kernel
theorem dX3_recall_13 : decode cX3_recall 13 = .ok (.aload_n 3, 1) := by decide +kernel
theorem dX3_recall_14 : decode cX3_recall 14 = .ok (.getfield 51, 3) := by decide +kernel
theorem dX3_recall_17 : decode cX3_recall 17 = .ok (.aload 4, 2) := by decide +kernel
theorem dX3_recall_19 : decode cX3_recall 19 = .ok (.invokevirtual 142, 3) := by decide +kernel
theorem dX3_recall_22 : decode cX3_recall 22 = .ok (.aload_n 3, 1) := by decide +kernel
theorem dX3_recall_23 : decode cX3_recall 23 = .ok (.iconst 0, 1) := by decide +kernel
theorem dX3_recall_24 : decode cX3_recall 24 = .ok (.putfield 66, 3) := by decide +kernel
theorem dX3_recall_27 : decode cX3_recall 27 = .ok (.aload_n 3, 1) := by decide +kernel
theorem dX3_recall_28 : decode cX3_recall 28 = .ok (.getfield 51, 3) := by decide +kernel
theorem dX3_recall_31 : decode cX3_recall 31 = .ok (.getfield 146, 3) := by decide +kernel
theorem dX3_recall_34 : decode cX3_recall 34 = .ok (.ireturn, 1) := by decide +kernel
set_option maxRecDepth 20000 in
theorem ggX3_patch_X3_wireAt : GoodIn wsX3_patch wsX3_wireAt := goodIn_ca (goodIn_r _ [7, 8, 9, 10, 11, 12, 6, 13, 88] (by decide +kernel) (by decide +kernel)) (goodIn_sub (fun _ h => List.mem_cons_of_mem _ (List.mem_append_right _ h)) (by decide +kernel))
set_option maxRecDepth 20000 in
theorem gX3_patch_X3_wireAt : GoodIn wsX3_patch (wsV RX3 22 RX3 yX3_wireAt wsX3_wireAt) := goodIn_app (goodIn_of _ (by decide +kernel)) ggX3_patch_X3_wireAt
set_option maxRecDepth 20000 in
theorem ggX3_patch_X1_castTo : GoodIn wsX3_patch wsX1_castTo := goodIn_r _ [18, 19, 20, 21, 17, 22, 23, 24, 25, 26, 27, 28, 29, 30, 31, 32, 33, 34, 35, 36, 37, 38, 39, 40, 41, 42, 43, 44, 45, 46, 47, 48, 49, 50, 51, 52, 53, 54, 55, 56, 57, 58, 59, 60, 61, 62, 63, 64, 65, 66, 67] (by decide +kernel) (by decide +kernel)
set_option maxRecDepth 20000 in
theorem gX3_patch_X1_castTo : GoodIn wsX3_patch (wsV RX3 150 RX1 yX1_castTo wsX1_castTo) := goodIn_app (goodIn_of _ (by decide +kernel)) ggX3_patch_X1_castTo
set_option maxRecDepth 20000 in
theorem ggX3_patch_X2_takeDry : GoodIn wsX3_patch wsX2_takeDry := goodIn_r _ [72, 73, 74, 75, 76, 77, 78, 79, 80, 81, 82, 83, 84, 85, 86, 87] (by decide +kernel) (by decide +kernel)
set_option maxRecDepth 20000 in
theorem gX3_patch_X2_takeDry : GoodIn wsX3_patch (wsV RX3 30 RX2 yX2_takeDry wsX2_takeDry) := goodIn_app (goodIn_of _ (by decide +kernel)) ggX3_patch_X2_takeDry
theorem dX3_patch_0 : decode cX3_patch 0 = .ok (.aload_n 0, 1) := by decide +kernel
theorem dX3_patch_1 : decode cX3_patch 1 = .ok (.iload_n 1, 1) := by decide +kernel
theorem dX3_patch_2 : decode cX3_patch 2 = .ok (.invokevirtual 22, 3) := by decide +kernel
theorem dX3_patch_5 : decode cX3_patch 5 = .ok (.astore_n 3, 1) := by decide +kernel
theorem dX3_patch_6 : decode cX3_patch 6 = .ok (.aload_n 0, 1) := by decide +kernel
theorem dX3_patch_7 : decode cX3_patch 7 = .ok (.iload_n 2, 1) := by decide +kernel
theorem dX3_patch_8 : decode cX3_patch 8 = .ok (.invokevirtual 22, 3) := by decide +kernel
theorem dX3_patch_11 : decode cX3_patch 11 = .ok (.astore 4, 2) := by decide +kernel
theorem dX3_patch_13 : decode cX3_patch 13 = .ok (.aload_n 3, 1) := by decide +kernel
theorem dX3_patch_14 : decode cX3_patch 14 = .ok (.getfield 34, 3) := by decide +kernel
theorem dX3_patch_17 : decode cX3_patch 17 = .ok (.aload 4, 2) := by decide +kernel
theorem dX3_patch_19 : decode cX3_patch 19 = .ok (.getfield 34, 3) := by decide +kernel
theorem dX3_patch_22 : decode cX3_patch 22 = .ok (.aload_n 3, 1) := by decide +kernel
theorem dX3_patch_23 : decode cX3_patch 23 = .ok (.getfield 106, 3) := by decide +kernel
theorem dX3_patch_26 : decode cX3_patch 26 = .ok (.invokevirtual 150, 3) := by decide +kernel
theorem dX3_patch_29 : decode cX3_patch 29 = .ok (.lstore 5, 2) := by decide +kernel
theorem dX3_patch_31 : decode cX3_patch 31 = .ok (.aload 4, 2) := by decide +kernel
theorem dX3_patch_33 : decode cX3_patch 33 = .ok (.lload 5, 2) := by decide +kernel
theorem dX3_patch_35 : decode cX3_patch 35 = .ok (.invokevirtual 30, 3) := by decide +kernel
theorem dX3_patch_38 : decode cX3_patch 38 = .ok (.pop, 1) := by decide +kernel
theorem dX3_patch_39 : decode cX3_patch 39 = .ok (.lload 5, 2) := by decide +kernel
theorem dX3_patch_41 : decode cX3_patch 41 = .ok (.lreturn, 1) := by decide +kernel
set_option maxRecDepth 20000 in
theorem ggX3_about_X3_isWire : GoodIn wsX3_about wsX3_isWire := goodIn_r _ [8] (by decide +kernel) (by decide +kernel)
set_option maxRecDepth 20000 in
theorem gX3_about_X3_isWire : GoodIn wsX3_about (va_wsS RX3 125 yX3_isWire wsX3_isWire) := goodIn_app (goodIn_of _ (by decide +kernel)) ggX3_about_X3_isWire
set_option maxRecDepth 20000 in
theorem ggX3_about_X0_countOn : GoodIn wsX3_about wsX0_countOn := goodIn_r _ [13, 14, 15, 45, 46, 47, 48] (by decide +kernel) (by decide +kernel)
set_option maxRecDepth 20000 in
theorem gX3_about_X0_countOn : GoodIn wsX3_about (wsV RX3 154 RX0 yX0_countOn wsX0_countOn) := goodIn_app (goodIn_of _ (by decide +kernel)) ggX3_about_X0_countOn
set_option maxRecDepth 20000 in
theorem ggX3_about_X2_countLit : GoodIn wsX3_about wsX2_countLit := goodIn_r _ [20, 21, 22, 23, 24, 25, 19, 26, 27, 28, 29, 30, 31, 12, 32, 14, 34, 35, 36, 37, 38, 39, 40, 41, 42, 43, 44, 45, 46, 47, 48] (by decide +kernel) (by decide +kernel)
set_option maxRecDepth 20000 in
theorem gX3_about_X2_countLit : GoodIn wsX3_about (wsV RX3 157 RX2 yX2_countLit wsX2_countLit) := goodIn_app (goodIn_of _ (by decide +kernel)) ggX3_about_X2_countLit
theorem dX3_about_0 : decode cX3_about 0 = .ok (.iload_n 1, 1) := by decide +kernel
theorem dX3_about_1 : decode cX3_about 1 = .ok (.invokestatic 125, 3) := by decide +kernel
theorem dX3_about_4 : decode cX3_about 4 = .ok (.ifCond .ne 5, 3) := by decide +kernel
theorem dX3_about_7 : decode cX3_about 7 = .ok (.iconst (-1), 1) := by decide +kernel
theorem dX3_about_8 : decode cX3_about 8 = .ok (.ireturn, 1) := by decide +kernel
theorem dX3_about_9 : decode cX3_about 9 = .ok (.aload_n 0, 1) := by decide +kernel
theorem dX3_about_10 : decode cX3_about 10 = .ok (.getfield 11, 3) := by decide +kernel
theorem dX3_about_13 : decode cX3_about 13 = .ok (.iload_n 1, 1) := by decide +kernel
theorem dX3_about_14 : decode cX3_about 14 = .ok (.aaload, 1) := by decide +kernel
theorem dX3_about_15 : decode cX3_about 15 = .ok (.astore_n 3, 1) := by decide +kernel
theorem dX3_about_16 : decode cX3_about 16 = .ok (.iload_n 2, 1) := by decide +kernel
theorem dX3_about_17 : decode cX3_about 17 = .ok (.tableswitch 57 0 3 #[31, 39, 47, 52], 31) := by decide +kernel
theorem dX3_about_48 : decode cX3_about 48 = .ok (.aload_n 3, 1) := by decide +kernel
theorem dX3_about_49 : decode cX3_about 49 = .ok (.getfield 51, 3) := by decide +kernel
theorem dX3_about_52 : decode cX3_about 52 = .ok (.getfield 146, 3) := by decide +kernel
theorem dX3_about_55 : decode cX3_about 55 = .ok (.ireturn, 1) := by decide +kernel
theorem dX3_about_56 : decode cX3_about 56 = .ok (.aload_n 3, 1) := by decide +kernel
theorem dX3_about_57 : decode cX3_about 57 = .ok (.getfield 51, 3) := by decide +kernel
theorem dX3_about_60 : decode cX3_about 60 = .ok (.invokevirtual 154, 3) := by decide +kernel
theorem dX3_about_63 : decode cX3_about 63 = .ok (.ireturn, 1) := by decide +kernel
theorem dX3_about_64 : decode cX3_about 64 = .ok (.aload_n 3, 1) := by decide +kernel
theorem dX3_about_65 : decode cX3_about 65 = .ok (.invokevirtual 157, 3) := by decide +kernel
theorem dX3_about_68 : decode cX3_about 68 = .ok (.ireturn, 1) := by decide +kernel
theorem dX3_about_69 : decode cX3_about 69 = .ok (.aload_n 3, 1) := by decide +kernel
theorem dX3_about_70 : decode cX3_about 70 = .ok (.getfield 160, 3) := by decide +kernel
theorem dX3_about_73 : decode cX3_about 73 = .ok (.ireturn, 1) := by decide +kernel
theorem dX3_about_74 : decode cX3_about 74 = .ok (.iconst (-1), 1) := by decide +kernel
theorem dX3_about_75 : decode cX3_about 75 = .ok (.ireturn, 1) := by decide +kernel
theorem dX3_isWire_0 : decode cX3_isWire 0 = .ok (.iload_n 0, 1) := by decide +kernel
theorem dX3_isWire_1 : decode cX3_isWire 1 = .ok (.ifCond .lt 12, 3) := by decide +kernel
theorem dX3_isWire_4 : decode cX3_isWire 4 = .ok (.iload_n 0, 1) := by decide +kernel
theorem dX3_isWire_5 : decode cX3_isWire 5 = .ok (.iconst 4, 1) := by decide +kernel
theorem dX3_isWire_6 : decode cX3_isWire 6 = .ok (.if_icmp .ge 7, 3) := by decide +kernel
theorem dX3_isWire_9 : decode cX3_isWire 9 = .ok (.iconst 1, 1) := by decide +kernel
theorem dX3_isWire_10 : decode cX3_isWire 10 = .ok (.goto 4, 3) := by decide +kernel
theorem dX3_isWire_13 : decode cX3_isWire 13 = .ok (.iconst 0, 1) := by decide +kernel
theorem dX3_isWire_14 : decode cX3_isWire 14 = .ok (.ireturn, 1) := by decide +kernel
set_option maxRecDepth 20000 in
theorem ggX3_wireAt_X3_isWire : GoodIn wsX3_wireAt wsX3_isWire := goodIn_r _ [7] (by decide +kernel) (by decide +kernel)
set_option maxRecDepth 20000 in
theorem gX3_wireAt_X3_isWire : GoodIn wsX3_wireAt (va_wsS RX3 125 yX3_isWire wsX3_isWire) := goodIn_app (goodIn_of _ (by decide +kernel)) ggX3_wireAt_X3_isWire
theorem dX3_wireAt_0 : decode cX3_wireAt 0 = .ok (.iload_n 1, 1) := by decide +kernel
theorem dX3_wireAt_1 : decode cX3_wireAt 1 = .ok (.invokestatic 125, 3) := by decide +kernel
theorem dX3_wireAt_4 : decode cX3_wireAt 4 = .ok (.ifCond .ne 13, 3) := by decide +kernel
theorem dX3_wireAt_7 : decode cX3_wireAt 7 = .ok (.new 44, 3) := by decide +kernel
theorem dX3_wireAt_10 : decode cX3_wireAt 10 = .ok (.dup, 1) := by decide +kernel
theorem dX3_wireAt_11 : decode cX3_wireAt 11 = .ok (.ldc 163, 2) := by decide +kernel
theorem dX3_wireAt_13 : decode cX3_wireAt 13 = .ok (.invokespecial 48, 3) := by decide +kernel
theorem dX3_wireAt_16 : decode cX3_wireAt 16 = .ok (.athrow, 1) := by decide +kernel
theorem dX3_wireAt_17 : decode cX3_wireAt 17 = .ok (.aload_n 0, 1) := by decide +kernel
theorem dX3_wireAt_18 : decode cX3_wireAt 18 = .ok (.getfield 11, 3) := by decide +kernel
theorem dX3_wireAt_21 : decode cX3_wireAt 21 = .ok (.iload_n 1, 1) := by decide +kernel
theorem dX3_wireAt_22 : decode cX3_wireAt 22 = .ok (.aaload, 1) := by decide +kernel
theorem dX3_wireAt_23 : decode cX3_wireAt 23 = .ok (.areturn, 1) := by decide +kernel
set_option maxRecDepth 20000 in
theorem ggX3_needPedal_X0_has : GoodIn wsX3_needPedal wsX0_has := goodIn_r _ [8, 9, 21, 22, 23, 24] (by decide +kernel) (by decide +kernel)
set_option maxRecDepth 20000 in
theorem gX3_needPedal_X0_has : GoodIn wsX3_needPedal (wsV RX3 165 RX0 yX0_has wsX0_has) := goodIn_app (goodIn_of _ (by decide +kernel)) ggX3_needPedal_X0_has
theorem dX3_needPedal_0 : decode cX3_needPedal 0 = .ok (.aload_n 0, 1) := by decide +kernel
theorem dX3_needPedal_1 : decode cX3_needPedal 1 = .ok (.getfield 51, 3) := by decide +kernel
theorem dX3_needPedal_4 : decode cX3_needPedal 4 = .ok (.iload_n 1, 1) := by decide +kernel
theorem dX3_needPedal_5 : decode cX3_needPedal 5 = .ok (.invokevirtual 165, 3) := by decide +kernel
theorem dX3_needPedal_8 : decode cX3_needPedal 8 = .ok (.ifCond .ne 13, 3) := by decide +kernel
theorem dX3_needPedal_11 : decode cX3_needPedal 11 = .ok (.new 44, 3) := by decide +kernel
theorem dX3_needPedal_14 : decode cX3_needPedal 14 = .ok (.dup, 1) := by decide +kernel
theorem dX3_needPedal_15 : decode cX3_needPedal 15 = .ok (.ldc 168, 2) := by decide +kernel
theorem dX3_needPedal_17 : decode cX3_needPedal 17 = .ok (.invokespecial 48, 3) := by decide +kernel
theorem dX3_needPedal_20 : decode cX3_needPedal 20 = .ok (.athrow, 1) := by decide +kernel
theorem dX3_needPedal_21 : decode cX3_needPedal 21 = .ok (.return_, 1) := by decide +kernel
theorem dX3_presetOf_0 : decode cX3_presetOf 0 = .ok (.iload_n 1, 1) := by decide +kernel
theorem dX3_presetOf_1 : decode cX3_presetOf 1 = .ok (.ifCond .lt 8, 3) := by decide +kernel
theorem dX3_presetOf_4 : decode cX3_presetOf 4 = .ok (.iload_n 1, 1) := by decide +kernel
theorem dX3_presetOf_5 : decode cX3_presetOf 5 = .ok (.iconst 4, 1) := by decide +kernel
theorem dX3_presetOf_6 : decode cX3_presetOf 6 = .ok (.if_icmp .lt 13, 3) := by decide +kernel
theorem dX3_presetOf_9 : decode cX3_presetOf 9 = .ok (.new 44, 3) := by decide +kernel
theorem dX3_presetOf_12 : decode cX3_presetOf 12 = .ok (.dup, 1) := by decide +kernel
theorem dX3_presetOf_13 : decode cX3_presetOf 13 = .ok (.ldc 170, 2) := by decide +kernel
theorem dX3_presetOf_15 : decode cX3_presetOf 15 = .ok (.invokespecial 48, 3) := by decide +kernel
theorem dX3_presetOf_18 : decode cX3_presetOf 18 = .ok (.athrow, 1) := by decide +kernel
theorem dX3_presetOf_19 : decode cX3_presetOf 19 = .ok (.aload_n 0, 1) := by decide +kernel
theorem dX3_presetOf_20 : decode cX3_presetOf 20 = .ok (.getfield 172, 3) := by decide +kernel
theorem dX3_presetOf_23 : decode cX3_presetOf 23 = .ok (.iload_n 1, 1) := by decide +kernel
theorem dX3_presetOf_24 : decode cX3_presetOf 24 = .ok (.aaload, 1) := by decide +kernel
theorem dX3_presetOf_25 : decode cX3_presetOf 25 = .ok (.areturn, 1) := by decide +kernel
set_option maxRecDepth 20000 in
theorem ggX3_numberOn_X1_codeOf : GoodIn wsX3_numberOn wsX1_codeOf := goodIn_r _ [8, 9, 10] (by decide +kernel) (by decide +kernel)
set_option maxRecDepth 20000 in
theorem gX3_numberOn_X1_codeOf : GoodIn wsX3_numberOn (wsV RX3 176 RX1 yX1_codeOf wsX1_codeOf) := goodIn_app (goodIn_of _ (by decide +kernel)) ggX3_numberOn_X1_codeOf
set_option maxRecDepth 20000 in
theorem ggX3_numberOn_X1_isIll : GoodIn wsX3_numberOn wsX1_isIll := goodIn_r _ [14, 15, 16, 17, 18, 7, 19, 20, 21, 22, 23, 24, 25, 26] (by decide +kernel) (by decide +kernel)
set_option maxRecDepth 20000 in
theorem gX3_numberOn_X1_isIll : GoodIn wsX3_numberOn (wsV RX3 180 RX1 yX1_isIll wsX1_isIll) := goodIn_app (goodIn_of _ (by decide +kernel)) ggX3_numberOn_X1_isIll
theorem dX3_numberOn_0 : decode cX3_numberOn 0 = .ok (.aload_n 0, 1) := by decide +kernel
theorem dX3_numberOn_1 : decode cX3_numberOn 1 = .ok (.getfield 34, 3) := by decide +kernel
theorem dX3_numberOn_4 : decode cX3_numberOn 4 = .ok (.iload_n 1, 1) := by decide +kernel
theorem dX3_numberOn_5 : decode cX3_numberOn 5 = .ok (.iload_n 2, 1) := by decide +kernel
theorem dX3_numberOn_6 : decode cX3_numberOn 6 = .ok (.invokevirtual 176, 3) := by decide +kernel
theorem dX3_numberOn_9 : decode cX3_numberOn 9 = .ok (.lstore_n 3, 1) := by decide +kernel
theorem dX3_numberOn_10 : decode cX3_numberOn 10 = .ok (.aload_n 0, 1) := by decide +kernel
theorem dX3_numberOn_11 : decode cX3_numberOn 11 = .ok (.getfield 34, 3) := by decide +kernel
theorem dX3_numberOn_14 : decode cX3_numberOn 14 = .ok (.lload_n 3, 1) := by decide +kernel
theorem dX3_numberOn_15 : decode cX3_numberOn 15 = .ok (.invokevirtual 180, 3) := by decide +kernel
theorem dX3_numberOn_18 : decode cX3_numberOn 18 = .ok (.ifCond .eq 13, 3) := by decide +kernel
theorem dX3_numberOn_21 : decode cX3_numberOn 21 = .ok (.new 44, 3) := by decide +kernel
theorem dX3_numberOn_24 : decode cX3_numberOn 24 = .ok (.dup, 1) := by decide +kernel
theorem dX3_numberOn_25 : decode cX3_numberOn 25 = .ok (.ldc 183, 2) := by decide +kernel
theorem dX3_numberOn_27 : decode cX3_numberOn 27 = .ok (.invokespecial 48, 3) := by decide +kernel
theorem dX3_numberOn_30 : decode cX3_numberOn 30 = .ok (.athrow, 1) := by decide +kernel
theorem dX3_numberOn_31 : decode cX3_numberOn 31 = .ok (.lload_n 3, 1) := by decide +kernel
theorem dX3_numberOn_32 : decode cX3_numberOn 32 = .ok (.lreturn, 1) := by decide +kernel
theorem dX4_init_0 : decode cX4_init 0 = .ok (.aload_n 0, 1) := by decide +kernel
theorem dX4_init_1 : decode cX4_init 1 = .ok (.invokespecial 1, 3) := by decide +kernel
theorem dX4_init_4 : decode cX4_init 4 = .ok (.aload_n 0, 1) := by decide +kernel
theorem dX4_init_5 : decode cX4_init 5 = .ok (.iconst 4, 1) := by decide +kernel
theorem dX4_init_6 : decode cX4_init 6 = .ok (.newarray .long, 2) := by decide +kernel
theorem dX4_init_8 : decode cX4_init 8 = .ok (.putfield 7, 3) := by decide +kernel
theorem dX4_init_11 : decode cX4_init 11 = .ok (.aload_n 0, 1) := by decide +kernel
theorem dX4_init_12 : decode cX4_init 12 = .ok (.iconst 4, 1) := by decide +kernel
theorem dX4_init_13 : decode cX4_init 13 = .ok (.newarray .long, 2) := by decide +kernel
theorem dX4_init_15 : decode cX4_init 15 = .ok (.putfield 13, 3) := by decide +kernel
theorem dX4_init_18 : decode cX4_init 18 = .ok (.aload_n 0, 1) := by decide +kernel
theorem dX4_init_19 : decode cX4_init 19 = .ok (.iconst 4, 1) := by decide +kernel
theorem dX4_init_20 : decode cX4_init 20 = .ok (.newarray .long, 2) := by decide +kernel
theorem dX4_init_22 : decode cX4_init 22 = .ok (.putfield 16, 3) := by decide +kernel
theorem dX4_init_25 : decode cX4_init 25 = .ok (.aload_n 0, 1) := by decide +kernel
theorem dX4_init_26 : decode cX4_init 26 = .ok (.iconst 4, 1) := by decide +kernel
theorem dX4_init_27 : decode cX4_init 27 = .ok (.newarray .long, 2) := by decide +kernel
theorem dX4_init_29 : decode cX4_init 29 = .ok (.putfield 19, 3) := by decide +kernel
theorem dX4_init_32 : decode cX4_init 32 = .ok (.aload_n 0, 1) := by decide +kernel
theorem dX4_init_33 : decode cX4_init 33 = .ok (.iconst 4, 1) := by decide +kernel
theorem dX4_init_34 : decode cX4_init 34 = .ok (.newarray .int, 2) := by decide +kernel
theorem dX4_init_36 : decode cX4_init 36 = .ok (.putfield 22, 3) := by decide +kernel
theorem dX4_init_39 : decode cX4_init 39 = .ok (.aload_n 0, 1) := by decide +kernel
theorem dX4_init_40 : decode cX4_init 40 = .ok (.iconst 4, 1) := by decide +kernel
theorem dX4_init_41 : decode cX4_init 41 = .ok (.newarray .int, 2) := by decide +kernel
theorem dX4_init_43 : decode cX4_init 43 = .ok (.putfield 26, 3) := by decide +kernel
theorem dX4_init_46 : decode cX4_init 46 = .ok (.aload_n 0, 1) := by decide +kernel
theorem dX4_init_47 : decode cX4_init 47 = .ok (.iconst 4, 1) := by decide +kernel
theorem dX4_init_48 : decode cX4_init 48 = .ok (.newarray .boolean, 2) := by decide +kernel
theorem dX4_init_50 : decode cX4_init 50 = .ok (.putfield 29, 3) := by decide +kernel
theorem dX4_init_53 : decode cX4_init 53 = .ok (.aload_n 0, 1) := by decide +kernel
theorem dX4_init_54 : decode cX4_init 54 = .ok (.iconst 4, 1) := by decide +kernel
theorem dX4_init_55 : decode cX4_init 55 = .ok (.newarray .boolean, 2) := by decide +kernel
theorem dX4_init_57 : decode cX4_init 57 = .ok (.putfield 33, 3) := by decide +kernel
theorem dX4_init_60 : decode cX4_init 60 = .ok (.aload_n 0, 1) := by decide +kernel
theorem dX4_init_61 : decode cX4_init 61 = .ok (.bipush 48, 2) := by decide +kernel
theorem dX4_init_63 : decode cX4_init 63 = .ok (.newarray .int, 2) := by decide +kernel
theorem dX4_init_65 : decode cX4_init 65 = .ok (.putfield 36, 3) := by decide +kernel
theorem dX4_init_68 : decode cX4_init 68 = .ok (.aload_n 0, 1) := by decide +kernel
theorem dX4_init_69 : decode cX4_init 69 = .ok (.bipush 48, 2) := by decide +kernel
theorem dX4_init_71 : decode cX4_init 71 = .ok (.newarray .long, 2) := by decide +kernel
theorem dX4_init_73 : decode cX4_init 73 = .ok (.putfield 39, 3) := by decide +kernel
theorem dX4_init_76 : decode cX4_init 76 = .ok (.aload_n 0, 1) := by decide +kernel
theorem dX4_init_77 : decode cX4_init 77 = .ok (.bipush 48, 2) := by decide +kernel
theorem dX4_init_79 : decode cX4_init 79 = .ok (.newarray .long, 2) := by decide +kernel
theorem dX4_init_81 : decode cX4_init 81 = .ok (.putfield 42, 3) := by decide +kernel
theorem dX4_init_84 : decode cX4_init 84 = .ok (.aload_n 0, 1) := by decide +kernel
theorem dX4_init_85 : decode cX4_init 85 = .ok (.bipush 48, 2) := by decide +kernel
theorem dX4_init_87 : decode cX4_init 87 = .ok (.newarray .boolean, 2) := by decide +kernel
theorem dX4_init_89 : decode cX4_init 89 = .ok (.putfield 45, 3) := by decide +kernel
theorem dX4_init_92 : decode cX4_init 92 = .ok (.aload_n 0, 1) := by decide +kernel
theorem dX4_init_93 : decode cX4_init 93 = .ok (.bipush 48, 2) := by decide +kernel
theorem dX4_init_95 : decode cX4_init 95 = .ok (.newarray .boolean, 2) := by decide +kernel
theorem dX4_init_97 : decode cX4_init 97 = .ok (.putfield 48, 3) := by decide +kernel
theorem dX4_init_100 : decode cX4_init 100 = .ok (.aload_n 0, 1) := by decide +kernel
theorem dX4_init_101 : decode cX4_init 101 = .ok (.bipush 16, 2) := by decide +kernel
theorem dX4_init_103 : decode cX4_init 103 = .ok (.newarray .int, 2) := by decide +kernel
theorem dX4_init_105 : decode cX4_init 105 = .ok (.putfield 51, 3) := by decide +kernel
theorem dX4_init_108 : decode cX4_init 108 = .ok (.aload_n 0, 1) := by decide +kernel
theorem dX4_init_109 : decode cX4_init 109 = .ok (.sipush 192, 3) := by decide +kernel
theorem dX4_init_112 : decode cX4_init 112 = .ok (.newarray .int, 2) := by decide +kernel
theorem dX4_init_114 : decode cX4_init 114 = .ok (.putfield 54, 3) := by decide +kernel
theorem dX4_init_117 : decode cX4_init 117 = .ok (.aload_n 0, 1) := by decide +kernel
theorem dX4_init_118 : decode cX4_init 118 = .ok (.sipush 192, 3) := by decide +kernel
theorem dX4_init_121 : decode cX4_init 121 = .ok (.newarray .long, 2) := by decide +kernel
theorem dX4_init_123 : decode cX4_init 123 = .ok (.putfield 57, 3) := by decide +kernel
theorem dX4_init_126 : decode cX4_init 126 = .ok (.aload_n 0, 1) := by decide +kernel
theorem dX4_init_127 : decode cX4_init 127 = .ok (.sipush 192, 3) := by decide +kernel
theorem dX4_init_130 : decode cX4_init 130 = .ok (.newarray .boolean, 2) := by decide +kernel
theorem dX4_init_132 : decode cX4_init 132 = .ok (.putfield 60, 3) := by decide +kernel
theorem dX4_init_135 : decode cX4_init 135 = .ok (.return_, 1) := by decide +kernel
theorem dX4_thrown_0 : decode cX4_thrown 0 = .ok (.aload_n 0, 1) := by decide +kernel
theorem dX4_thrown_1 : decode cX4_thrown 1 = .ok (.getfield 63, 3) := by decide +kernel
theorem dX4_thrown_4 : decode cX4_thrown 4 = .ok (.ireturn, 1) := by decide +kernel
theorem dX4_isWire_0 : decode cX4_isWire 0 = .ok (.iload_n 0, 1) := by decide +kernel
theorem dX4_isWire_1 : decode cX4_isWire 1 = .ok (.ifCond .lt 12, 3) := by decide +kernel
theorem dX4_isWire_4 : decode cX4_isWire 4 = .ok (.iload_n 0, 1) := by decide +kernel
theorem dX4_isWire_5 : decode cX4_isWire 5 = .ok (.iconst 4, 1) := by decide +kernel
theorem dX4_isWire_6 : decode cX4_isWire 6 = .ok (.if_icmp .ge 7, 3) := by decide +kernel
theorem dX4_isWire_9 : decode cX4_isWire 9 = .ok (.iconst 1, 1) := by decide +kernel
theorem dX4_isWire_10 : decode cX4_isWire 10 = .ok (.goto 4, 3) := by decide +kernel
theorem dX4_isWire_13 : decode cX4_isWire 13 = .ok (.iconst 0, 1) := by decide +kernel
theorem dX4_isWire_14 : decode cX4_isWire 14 = .ok (.ireturn, 1) := by decide +kernel
theorem dX4_fractionBits_0 : decode cX4_fractionBits 0 = .ok (.iload_n 0, 1) := by decide +kernel
theorem dX4_fractionBits_1 : decode cX4_fractionBits 1 = .ok (.iconst 2, 1) := by decide +kernel
theorem dX4_fractionBits_2 : decode cX4_fractionBits 2 = .ok (.if_icmp .ne 8, 3) := by decide +kernel
theorem dX4_fractionBits_5 : decode cX4_fractionBits 5 = .ok (.bipush 23, 2) := by decide +kernel
theorem dX4_fractionBits_7 : decode cX4_fractionBits 7 = .ok (.goto 5, 3) := by decide +kernel
theorem dX4_fractionBits_10 : decode cX4_fractionBits 10 = .ok (.bipush 52, 2) := by decide +kernel
theorem dX4_fractionBits_12 : decode cX4_fractionBits 12 = .ok (.ireturn, 1) := by decide +kernel
theorem dX4_signBit_0 : decode cX4_signBit 0 = .ok (.iload_n 0, 1) := by decide +kernel
theorem dX4_signBit_1 : decode cX4_signBit 1 = .ok (.iconst 2, 1) := by decide +kernel
theorem dX4_signBit_2 : decode cX4_signBit 2 = .ok (.if_icmp .ne 9, 3) := by decide +kernel
theorem dX4_signBit_5 : decode cX4_signBit 5 = .ok (.ldc2_w 67, 3) := by decide +kernel
theorem dX4_signBit_8 : decode cX4_signBit 8 = .ok (.goto 6, 3) := by decide +kernel
theorem dX4_signBit_11 : decode cX4_signBit 11 = .ok (.ldc2_w 69, 3) := by decide +kernel
theorem dX4_signBit_14 : decode cX4_signBit 14 = .ok (.lreturn, 1) := by decide +kernel
theorem dX4_endless_0 : decode cX4_endless 0 = .ok (.iload_n 0, 1) := by decide +kernel
theorem dX4_endless_1 : decode cX4_endless 1 = .ok (.iconst 2, 1) := by decide +kernel
theorem dX4_endless_2 : decode cX4_endless 2 = .ok (.if_icmp .ne 9, 3) := by decide +kernel
theorem dX4_endless_5 : decode cX4_endless 5 = .ok (.ldc2_w 71, 3) := by decide +kernel
theorem dX4_endless_8 : decode cX4_endless 8 = .ok (.goto 6, 3) := by decide +kernel
theorem dX4_endless_11 : decode cX4_endless 11 = .ok (.ldc2_w 73, 3) := by decide +kernel
theorem dX4_endless_14 : decode cX4_endless 14 = .ok (.lreturn, 1) := by decide +kernel
theorem dX4_bare_0 : decode cX4_bare 0 = .ok (.iload_n 0, 1) := by decide +kernel
theorem dX4_bare_1 : decode cX4_bare 1 = .ok (.iconst 2, 1) := by decide +kernel
theorem dX4_bare_2 : decode cX4_bare 2 = .ok (.if_icmp .ne 11, 3) := by decide +kernel
theorem dX4_bare_5 : decode cX4_bare 5 = .ok (.lload_n 1, 1) := by decide +kernel
theorem dX4_bare_6 : decode cX4_bare 6 = .ok (.ldc2_w 75, 3) := by decide +kernel
theorem dX4_bare_9 : decode cX4_bare 9 = .ok (.land, 1) := by decide +kernel
theorem dX4_bare_10 : decode cX4_bare 10 = .ok (.goto 4, 3) := by decide +kernel
theorem dX4_bare_13 : decode cX4_bare 13 = .ok (.lload_n 1, 1) := by decide +kernel
theorem dX4_bare_14 : decode cX4_bare 14 = .ok (.lreturn, 1) := by decide +kernel
theorem dX4_asCode_0 : decode cX4_asCode 0 = .ok (.iload_n 0, 1) := by decide +kernel
theorem dX4_asCode_1 : decode cX4_asCode 1 = .ok (.iconst 2, 1) := by decide +kernel
theorem dX4_asCode_2 : decode cX4_asCode 2 = .ok (.if_icmp .ne 9, 3) := by decide +kernel
theorem dX4_asCode_5 : decode cX4_asCode 5 = .ok (.lload_n 1, 1) := by decide +kernel
theorem dX4_asCode_6 : decode cX4_asCode 6 = .ok (.l2i, 1) := by decide +kernel
theorem dX4_asCode_7 : decode cX4_asCode 7 = .ok (.i2l, 1) := by decide +kernel
theorem dX4_asCode_8 : decode cX4_asCode 8 = .ok (.goto 4, 3) := by decide +kernel
theorem dX4_asCode_11 : decode cX4_asCode 11 = .ok (.lload_n 1, 1) := by decide +kernel
theorem dX4_asCode_12 : decode cX4_asCode 12 = .ok (.lreturn, 1) := by decide +kernel
set_option maxRecDepth 20000 in
theorem ggX4_size_X4_bare : GoodIn wsX4_size wsX4_bare := goodIn_r _ [5, 6] (by decide +kernel) (by decide +kernel)
set_option maxRecDepth 20000 in
theorem gX4_size_X4_bare : GoodIn wsX4_size (va_wsS RX4 77 yX4_bare wsX4_bare) := goodIn_app (goodIn_of _ (by decide +kernel)) ggX4_size_X4_bare
set_option maxRecDepth 20000 in
theorem ggX4_size_X4_signBit : GoodIn wsX4_size wsX4_signBit := goodIn_r _ [9, 10, 11] (by decide +kernel) (by decide +kernel)
set_option maxRecDepth 20000 in
theorem gX4_size_X4_signBit : GoodIn wsX4_size (va_wsS RX4 81 yX4_signBit wsX4_signBit) := goodIn_app (goodIn_of _ (by decide +kernel)) ggX4_size_X4_signBit
theorem dX4_size_0 : decode cX4_size 0 = .ok (.iload_n 0, 1) := by decide +kernel
theorem dX4_size_1 : decode cX4_size 1 = .ok (.lload_n 1, 1) := by decide +kernel
theorem dX4_size_2 : decode cX4_size 2 = .ok (.invokestatic 77, 3) := by decide +kernel
theorem dX4_size_5 : decode cX4_size 5 = .ok (.iload_n 0, 1) := by decide +kernel
theorem dX4_size_6 : decode cX4_size 6 = .ok (.invokestatic 81, 3) := by decide +kernel
theorem dX4_size_9 : decode cX4_size 9 = .ok (.ldc2_w 85, 3) := by decide +kernel
theorem dX4_size_12 : decode cX4_size 12 = .ok (.lxor, 1) := by decide +kernel
theorem dX4_size_13 : decode cX4_size 13 = .ok (.land, 1) := by decide +kernel
theorem dX4_size_14 : decode cX4_size 14 = .ok (.lreturn, 1) := by decide +kernel
set_option maxRecDepth 20000 in
theorem ggX4_below_X4_signBit : GoodIn wsX4_below wsX4_signBit := goodIn_r _ [4, 5, 6] (by decide +kernel) (by decide +kernel)
set_option maxRecDepth 20000 in
theorem gX4_below_X4_signBit : GoodIn wsX4_below (va_wsS RX4 81 yX4_signBit wsX4_signBit) := goodIn_app (goodIn_of _ (by decide +kernel)) ggX4_below_X4_signBit
theorem dX4_below_0 : decode cX4_below 0 = .ok (.lload_n 1, 1) := by decide +kernel
theorem dX4_below_1 : decode cX4_below 1 = .ok (.iload_n 0, 1) := by decide +kernel
theorem dX4_below_2 : decode cX4_below 2 = .ok (.invokestatic 81, 3) := by decide +kernel
theorem dX4_below_5 : decode cX4_below 5 = .ok (.land, 1) := by decide +kernel
theorem dX4_below_6 : decode cX4_below 6 = .ok (.lconst 0, 1) := by decide +kernel
theorem dX4_below_7 : decode cX4_below 7 = .ok (.lcmp, 1) := by decide +kernel
theorem dX4_below_8 : decode cX4_below 8 = .ok (.ifCond .eq 7, 3) := by decide +kernel
theorem dX4_below_11 : decode cX4_below 11 = .ok (.iconst 1, 1) := by decide +kernel
theorem dX4_below_12 : decode cX4_below 12 = .ok (.goto 4, 3) := by decide +kernel
theorem dX4_below_15 : decode cX4_below 15 = .ok (.iconst 0, 1) := by decide +kernel
theorem dX4_below_16 : decode cX4_below 16 = .ok (.ireturn, 1) := by decide +kernel
theorem dX4_coded_0 : decode cX4_coded 0 = .ok (.iload_n 0, 1) := by decide +kernel
theorem dX4_coded_1 : decode cX4_coded 1 = .ok (.ifCond .eq 8, 3) := by decide +kernel
theorem dX4_coded_4 : decode cX4_coded 4 = .ok (.iload_n 0, 1) := by decide +kernel
theorem dX4_coded_5 : decode cX4_coded 5 = .ok (.iconst 2, 1) := by decide +kernel
theorem dX4_coded_6 : decode cX4_coded 6 = .ok (.if_icmp .ne 6, 3) := by decide +kernel
theorem dX4_coded_9 : decode cX4_coded 9 = .ok (.iload_n 2, 1) := by decide +kernel
theorem dX4_coded_10 : decode cX4_coded 10 = .ok (.i2l, 1) := by decide +kernel
theorem dX4_coded_11 : decode cX4_coded 11 = .ok (.lreturn, 1) := by decide +kernel
theorem dX4_coded_12 : decode cX4_coded 12 = .ok (.iload_n 1, 1) := by decide +kernel
theorem dX4_coded_13 : decode cX4_coded 13 = .ok (.i2l, 1) := by decide +kernel
theorem dX4_coded_14 : decode cX4_coded 14 = .ok (.bipush 32, 2) := by decide +kernel
theorem dX4_coded_16 : decode cX4_coded 16 = .ok (.lshl, 1) := by decide +kernel
theorem dX4_coded_17 : decode cX4_coded 17 = .ok (.iload_n 2, 1) := by decide +kernel
theorem dX4_coded_18 : decode cX4_coded 18 = .ok (.i2l, 1) := by decide +kernel
theorem dX4_coded_19 : decode cX4_coded 19 = .ok (.ldc2_w 75, 3) := by decide +kernel
theorem dX4_coded_22 : decode cX4_coded 22 = .ok (.land, 1) := by decide +kernel
theorem dX4_coded_23 : decode cX4_coded 23 = .ok (.lor, 1) := by decide +kernel
theorem dX4_coded_24 : decode cX4_coded 24 = .ok (.lreturn, 1) := by decide +kernel
set_option maxRecDepth 20000 in
theorem ggX4_isIll_X4_size : GoodIn wsX4_isIll wsX4_size := goodIn_r _ [4, 5, 6, 7, 3, 8, 9, 10, 11, 12, 13, 14] (by decide +kernel) (by decide +kernel)
set_option maxRecDepth 20000 in
theorem gX4_isIll_X4_size : GoodIn wsX4_isIll (va_wsS RX4 87 yX4_size wsX4_size) := goodIn_app (goodIn_of _ (by decide +kernel)) ggX4_isIll_X4_size
set_option maxRecDepth 20000 in
theorem ggX4_isIll_X4_endless : GoodIn wsX4_isIll wsX4_endless := goodIn_r _ [17, 18, 19] (by decide +kernel) (by decide +kernel)
set_option maxRecDepth 20000 in
theorem gX4_isIll_X4_endless : GoodIn wsX4_isIll (va_wsS RX4 90 yX4_endless wsX4_endless) := goodIn_app (goodIn_of _ (by decide +kernel)) ggX4_isIll_X4_endless
theorem dX4_isIll_0 : decode cX4_isIll 0 = .ok (.iload_n 0, 1) := by decide +kernel
theorem dX4_isIll_1 : decode cX4_isIll 1 = .ok (.iconst 1, 1) := by decide +kernel
theorem dX4_isIll_2 : decode cX4_isIll 2 = .ok (.if_icmp .le 20, 3) := by decide +kernel
theorem dX4_isIll_5 : decode cX4_isIll 5 = .ok (.iload_n 0, 1) := by decide +kernel
theorem dX4_isIll_6 : decode cX4_isIll 6 = .ok (.lload_n 1, 1) := by decide +kernel
theorem dX4_isIll_7 : decode cX4_isIll 7 = .ok (.invokestatic 87, 3) := by decide +kernel
theorem dX4_isIll_10 : decode cX4_isIll 10 = .ok (.iload_n 0, 1) := by decide +kernel
theorem dX4_isIll_11 : decode cX4_isIll 11 = .ok (.invokestatic 90, 3) := by decide +kernel
theorem dX4_isIll_14 : decode cX4_isIll 14 = .ok (.lcmp, 1) := by decide +kernel
theorem dX4_isIll_15 : decode cX4_isIll 15 = .ok (.ifCond .le 7, 3) := by decide +kernel
theorem dX4_isIll_18 : decode cX4_isIll 18 = .ok (.iconst 1, 1) := by decide +kernel
theorem dX4_isIll_19 : decode cX4_isIll 19 = .ok (.goto 4, 3) := by decide +kernel
theorem dX4_isIll_22 : decode cX4_isIll 22 = .ok (.iconst 0, 1) := by decide +kernel
theorem dX4_isIll_23 : decode cX4_isIll 23 = .ok (.ireturn, 1) := by decide +kernel
set_option maxRecDepth 20000 in
theorem ggX4_order_X4_below : GoodIn wsX4_order wsX4_below := goodIn_r _ [4, 5, 6, 3, 7, 8, 9] (by decide +kernel) (by decide +kernel)
set_option maxRecDepth 20000 in
theorem gX4_order_X4_below : GoodIn wsX4_order (va_wsS RX4 93 yX4_below wsX4_below) := goodIn_app (goodIn_of _ (by decide +kernel)) ggX4_order_X4_below
set_option maxRecDepth 20000 in
theorem ggX4_order_X4_size : GoodIn wsX4_order wsX4_size := goodIn_r _ [12, 13, 14, 15, 3, 16, 17, 5, 6, 7, 8, 9] (by decide +kernel) (by decide +kernel)
set_option maxRecDepth 20000 in
theorem gX4_order_X4_size : GoodIn wsX4_order (va_wsS RX4 87 yX4_size wsX4_size) := goodIn_app (goodIn_of _ (by decide +kernel)) ggX4_order_X4_size
theorem dX4_order_0 : decode cX4_order 0 = .ok (.iload_n 0, 1) := by decide +kernel
theorem dX4_order_1 : decode cX4_order 1 = .ok (.iconst 2, 1) := by decide +kernel
theorem dX4_order_2 : decode cX4_order 2 = .ok (.if_icmp .ge 25, 3) := by decide +kernel
theorem dX4_order_5 : decode cX4_order 5 = .ok (.lload_n 1, 1) := by decide +kernel
theorem dX4_order_6 : decode cX4_order 6 = .ok (.lload_n 3, 1) := by decide +kernel
theorem dX4_order_7 : decode cX4_order 7 = .ok (.lcmp, 1) := by decide +kernel
theorem dX4_order_8 : decode cX4_order 8 = .ok (.ifCond .ge 7, 3) := by decide +kernel
theorem dX4_order_11 : decode cX4_order 11 = .ok (.iconst (-1), 1) := by decide +kernel
theorem dX4_order_12 : decode cX4_order 12 = .ok (.goto 14, 3) := by decide +kernel
theorem dX4_order_15 : decode cX4_order 15 = .ok (.lload_n 1, 1) := by decide +kernel
theorem dX4_order_16 : decode cX4_order 16 = .ok (.lload_n 3, 1) := by decide +kernel
theorem dX4_order_17 : decode cX4_order 17 = .ok (.lcmp, 1) := by decide +kernel
theorem dX4_order_18 : decode cX4_order 18 = .ok (.ifCond .ne 7, 3) := by decide +kernel
theorem dX4_order_21 : decode cX4_order 21 = .ok (.iconst 0, 1) := by decide +kernel
theorem dX4_order_22 : decode cX4_order 22 = .ok (.goto 4, 3) := by decide +kernel
theorem dX4_order_25 : decode cX4_order 25 = .ok (.iconst 1, 1) := by decide +kernel
theorem dX4_order_26 : decode cX4_order 26 = .ok (.ireturn, 1) := by decide +kernel
theorem dX4_order_27 : decode cX4_order 27 = .ok (.iload_n 0, 1) := by decide +kernel
theorem dX4_order_28 : decode cX4_order 28 = .ok (.lload_n 1, 1) := by decide +kernel
theorem dX4_order_29 : decode cX4_order 29 = .ok (.invokestatic 93, 3) := by decide +kernel
theorem dX4_order_32 : decode cX4_order 32 = .ok (.istore 5, 2) := by decide +kernel
theorem dX4_order_34 : decode cX4_order 34 = .ok (.iload_n 0, 1) := by decide +kernel
theorem dX4_order_35 : decode cX4_order 35 = .ok (.lload_n 3, 1) := by decide +kernel
theorem dX4_order_36 : decode cX4_order 36 = .ok (.invokestatic 93, 3) := by decide +kernel
theorem dX4_order_39 : decode cX4_order 39 = .ok (.istore 6, 2) := by decide +kernel
theorem dX4_order_41 : decode cX4_order 41 = .ok (.iload 5, 2) := by decide +kernel
theorem dX4_order_43 : decode cX4_order 43 = .ok (.iload 6, 2) := by decide +kernel
theorem dX4_order_45 : decode cX4_order 45 = .ok (.if_icmp .eq 14, 3) := by decide +kernel
theorem dX4_order_48 : decode cX4_order 48 = .ok (.iload 5, 2) := by decide +kernel
theorem dX4_order_50 : decode cX4_order 50 = .ok (.ifCond .eq 7, 3) := by decide +kernel
theorem dX4_order_53 : decode cX4_order 53 = .ok (.iconst (-1), 1) := by decide +kernel
theorem dX4_order_54 : decode cX4_order 54 = .ok (.goto 4, 3) := by decide +kernel
theorem dX4_order_57 : decode cX4_order 57 = .ok (.iconst 1, 1) := by decide +kernel
theorem dX4_order_58 : decode cX4_order 58 = .ok (.ireturn, 1) := by decide +kernel
theorem dX4_order_59 : decode cX4_order 59 = .ok (.iload_n 0, 1) := by decide +kernel
theorem dX4_order_60 : decode cX4_order 60 = .ok (.lload_n 1, 1) := by decide +kernel
theorem dX4_order_61 : decode cX4_order 61 = .ok (.invokestatic 87, 3) := by decide +kernel
theorem dX4_order_64 : decode cX4_order 64 = .ok (.lstore 7, 2) := by decide +kernel
theorem dX4_order_66 : decode cX4_order 66 = .ok (.iload_n 0, 1) := by decide +kernel
theorem dX4_order_67 : decode cX4_order 67 = .ok (.lload_n 3, 1) := by decide +kernel
theorem dX4_order_68 : decode cX4_order 68 = .ok (.invokestatic 87, 3) := by decide +kernel
theorem dX4_order_71 : decode cX4_order 71 = .ok (.lstore 9, 2) := by decide +kernel
theorem dX4_order_73 : decode cX4_order 73 = .ok (.lload 7, 2) := by decide +kernel
theorem dX4_order_75 : decode cX4_order 75 = .ok (.lload 9, 2) := by decide +kernel
theorem dX4_order_77 : decode cX4_order 77 = .ok (.lcmp, 1) := by decide +kernel
theorem dX4_order_78 : decode cX4_order 78 = .ok (.ifCond .ne 5, 3) := by decide +kernel
end
section
theorem dX4_order_81 : decode cX4_order 81 = .ok (.iconst 0, 1) := by decide +kernel
theorem dX4_order_82 : decode cX4_order 82 = .ok (.ireturn, 1) := by decide +kernel
theorem dX4_order_83 : decode cX4_order 83 = .ok (.lload 7, 2) := by decide +kernel
theorem dX4_order_85 : decode cX4_order 85 = .ok (.lload 9, 2) := by decide +kernel
theorem dX4_order_87 : decode cX4_order 87 = .ok (.lcmp, 1) := by decide +kernel
theorem dX4_order_88 : decode cX4_order 88 = .ok (.ifCond .ge 7, 3) := by decide +kernel
theorem dX4_order_91 : decode cX4_order 91 = .ok (.iconst 1, 1) := by decide +kernel
theorem dX4_order_92 : decode cX4_order 92 = .ok (.goto 4, 3) := by decide +kernel
theorem dX4_order_95 : decode cX4_order 95 = .ok (.iconst 0, 1) := by decide +kernel
theorem dX4_order_96 : decode cX4_order 96 = .ok (.iload 5, 2) := by decide +kernel
theorem dX4_order_98 : decode cX4_order 98 = .ok (.ifCond .ne 7, 3) := by decide +kernel
theorem dX4_order_101 : decode cX4_order 101 = .ok (.iconst 1, 1) := by decide +kernel
theorem dX4_order_102 : decode cX4_order 102 = .ok (.goto 4, 3) := by decide +kernel
theorem dX4_order_105 : decode cX4_order 105 = .ok (.iconst 0, 1) := by decide +kernel
theorem dX4_order_106 : decode cX4_order 106 = .ok (.if_icmp .ne 7, 3) := by decide +kernel
theorem dX4_order_109 : decode cX4_order 109 = .ok (.iconst (-1), 1) := by decide +kernel
theorem dX4_order_110 : decode cX4_order 110 = .ok (.goto 4, 3) := by decide +kernel
theorem dX4_order_113 : decode cX4_order 113 = .ok (.iconst 1, 1) := by decide +kernel
theorem dX4_order_114 : decode cX4_order 114 = .ok (.ireturn, 1) := by decide +kernel
set_option maxRecDepth 20000 in
theorem ggX4_negative_X4_bare : GoodIn wsX4_negative wsX4_bare := goodIn_r _ [4, 5] (by decide +kernel) (by decide +kernel)
set_option maxRecDepth 20000 in
theorem gX4_negative_X4_bare : GoodIn wsX4_negative (va_wsS RX4 77 yX4_bare wsX4_bare) := goodIn_app (goodIn_of _ (by decide +kernel)) ggX4_negative_X4_bare
set_option maxRecDepth 20000 in
theorem ggX4_negative_X4_signBit : GoodIn wsX4_negative wsX4_signBit := goodIn_r _ [8, 9, 10] (by decide +kernel) (by decide +kernel)
set_option maxRecDepth 20000 in
theorem gX4_negative_X4_signBit : GoodIn wsX4_negative (va_wsS RX4 81 yX4_signBit wsX4_signBit) := goodIn_app (goodIn_of _ (by decide +kernel)) ggX4_negative_X4_signBit
set_option maxRecDepth 20000 in
theorem ggX4_negative_X4_asCode : GoodIn wsX4_negative wsX4_asCode := goodIn_r _ [13] (by decide +kernel) (by decide +kernel)
set_option maxRecDepth 20000 in
theorem gX4_negative_X4_asCode : GoodIn wsX4_negative (va_wsS RX4 97 yX4_asCode wsX4_asCode) := goodIn_app (goodIn_of _ (by decide +kernel)) ggX4_negative_X4_asCode
theorem dX4_negative_0 : decode cX4_negative 0 = .ok (.iload_n 0, 1) := by decide +kernel
theorem dX4_negative_1 : decode cX4_negative 1 = .ok (.ifCond .ne 8, 3) := by decide +kernel
theorem dX4_negative_4 : decode cX4_negative 4 = .ok (.lload_n 1, 1) := by decide +kernel
theorem dX4_negative_5 : decode cX4_negative 5 = .ok (.l2i, 1) := by decide +kernel
theorem dX4_negative_6 : decode cX4_negative 6 = .ok (.ineg, 1) := by decide +kernel
theorem dX4_negative_7 : decode cX4_negative 7 = .ok (.i2l, 1) := by decide +kernel
theorem dX4_negative_8 : decode cX4_negative 8 = .ok (.lreturn, 1) := by decide +kernel
theorem dX4_negative_9 : decode cX4_negative 9 = .ok (.iload_n 0, 1) := by decide +kernel
theorem dX4_negative_10 : decode cX4_negative 10 = .ok (.iconst 1, 1) := by decide +kernel
theorem dX4_negative_11 : decode cX4_negative 11 = .ok (.if_icmp .ne 8, 3) := by decide +kernel
theorem dX4_negative_14 : decode cX4_negative 14 = .ok (.lload_n 1, 1) := by decide +kernel
theorem dX4_negative_15 : decode cX4_negative 15 = .ok (.lneg, 1) := by decide +kernel
theorem dX4_negative_16 : decode cX4_negative 16 = .ok (.goto 17, 3) := by decide +kernel
theorem dX4_negative_19 : decode cX4_negative 19 = .ok (.iload_n 0, 1) := by decide +kernel
theorem dX4_negative_20 : decode cX4_negative 20 = .ok (.iload_n 0, 1) := by decide +kernel
theorem dX4_negative_21 : decode cX4_negative 21 = .ok (.lload_n 1, 1) := by decide +kernel
theorem dX4_negative_22 : decode cX4_negative 22 = .ok (.invokestatic 77, 3) := by decide +kernel
theorem dX4_negative_25 : decode cX4_negative 25 = .ok (.iload_n 0, 1) := by decide +kernel
theorem dX4_negative_26 : decode cX4_negative 26 = .ok (.invokestatic 81, 3) := by decide +kernel
theorem dX4_negative_29 : decode cX4_negative 29 = .ok (.lxor, 1) := by decide +kernel
theorem dX4_negative_30 : decode cX4_negative 30 = .ok (.invokestatic 97, 3) := by decide +kernel
theorem dX4_negative_33 : decode cX4_negative 33 = .ok (.lreturn, 1) := by decide +kernel
set_option maxRecDepth 20000 in
theorem ggX4_upright_X4_negative : GoodIn wsX4_upright wsX4_negative := goodIn_r _ [4, 5, 6, 3, 7, 8, 9, 10, 11, 12, 13, 14, 15, 16] (by decide +kernel) (by decide +kernel)
set_option maxRecDepth 20000 in
theorem gX4_upright_X4_negative : GoodIn wsX4_upright (va_wsS RX4 100 yX4_negative wsX4_negative) := goodIn_app (goodIn_of _ (by decide +kernel)) ggX4_upright_X4_negative
set_option maxRecDepth 20000 in
theorem ggX4_upright_X4_size : GoodIn wsX4_upright wsX4_size := goodIn_r _ [19, 20, 5, 6, 3, 7, 8, 9, 10, 11, 12, 13] (by decide +kernel) (by decide +kernel)
set_option maxRecDepth 20000 in
theorem gX4_upright_X4_size : GoodIn wsX4_upright (va_wsS RX4 87 yX4_size wsX4_size) := goodIn_app (goodIn_of _ (by decide +kernel)) ggX4_upright_X4_size
set_option maxRecDepth 20000 in
theorem ggX4_upright_X4_asCode : GoodIn wsX4_upright wsX4_asCode := goodIn_r _ [16] (by decide +kernel) (by decide +kernel)
set_option maxRecDepth 20000 in
theorem gX4_upright_X4_asCode : GoodIn wsX4_upright (va_wsS RX4 97 yX4_asCode wsX4_asCode) := goodIn_app (goodIn_of _ (by decide +kernel)) ggX4_upright_X4_asCode
theorem dX4_upright_0 : decode cX4_upright 0 = .ok (.iload_n 0, 1) := by decide +kernel
theorem dX4_upright_1 : decode cX4_upright 1 = .ok (.iconst 2, 1) := by decide +kernel
theorem dX4_upright_2 : decode cX4_upright 2 = .ok (.if_icmp .ge 19, 3) := by decide +kernel
theorem dX4_upright_5 : decode cX4_upright 5 = .ok (.lload_n 1, 1) := by decide +kernel
theorem dX4_upright_6 : decode cX4_upright 6 = .ok (.lconst 0, 1) := by decide +kernel
theorem dX4_upright_7 : decode cX4_upright 7 = .ok (.lcmp, 1) := by decide +kernel
theorem dX4_upright_8 : decode cX4_upright 8 = .ok (.ifCond .ge 11, 3) := by decide +kernel
theorem dX4_upright_11 : decode cX4_upright 11 = .ok (.iload_n 0, 1) := by decide +kernel
theorem dX4_upright_12 : decode cX4_upright 12 = .ok (.lload_n 1, 1) := by decide +kernel
theorem dX4_upright_13 : decode cX4_upright 13 = .ok (.invokestatic 100, 3) := by decide +kernel
theorem dX4_upright_16 : decode cX4_upright 16 = .ok (.goto 4, 3) := by decide +kernel
theorem dX4_upright_19 : decode cX4_upright 19 = .ok (.lload_n 1, 1) := by decide +kernel
theorem dX4_upright_20 : decode cX4_upright 20 = .ok (.lreturn, 1) := by decide +kernel
theorem dX4_upright_21 : decode cX4_upright 21 = .ok (.iload_n 0, 1) := by decide +kernel
theorem dX4_upright_22 : decode cX4_upright 22 = .ok (.iload_n 0, 1) := by decide +kernel
theorem dX4_upright_23 : decode cX4_upright 23 = .ok (.lload_n 1, 1) := by decide +kernel
theorem dX4_upright_24 : decode cX4_upright 24 = .ok (.invokestatic 87, 3) := by decide +kernel
theorem dX4_upright_27 : decode cX4_upright 27 = .ok (.invokestatic 97, 3) := by decide +kernel
theorem dX4_upright_30 : decode cX4_upright 30 = .ok (.lreturn, 1) := by decide +kernel
set_option maxRecDepth 20000 in
theorem ggX4_whole_X4_size : GoodIn wsX4_whole wsX4_size := goodIn_r _ [7, 8, 9, 10, 6, 11, 12, 13, 14, 15, 16, 17] (by decide +kernel) (by decide +kernel)
set_option maxRecDepth 20000 in
theorem gX4_whole_X4_size : GoodIn wsX4_whole (va_wsS RX4 87 yX4_size wsX4_size) := goodIn_app (goodIn_of _ (by decide +kernel)) ggX4_whole_X4_size
set_option maxRecDepth 20000 in
theorem ggX4_whole_X4_fractionBits : GoodIn wsX4_whole wsX4_fractionBits := goodIn_r _ [20] (by decide +kernel) (by decide +kernel)
set_option maxRecDepth 20000 in
theorem gX4_whole_X4_fractionBits : GoodIn wsX4_whole (va_wsS RX4 103 yX4_fractionBits wsX4_fractionBits) := goodIn_app (goodIn_of _ (by decide +kernel)) ggX4_whole_X4_fractionBits
set_option maxRecDepth 20000 in
theorem ggX4_whole_X4_below : GoodIn wsX4_whole wsX4_below := goodIn_r _ [23, 13, 14, 6, 15, 16, 17] (by decide +kernel) (by decide +kernel)
set_option maxRecDepth 20000 in
theorem gX4_whole_X4_below : GoodIn wsX4_whole (va_wsS RX4 93 yX4_below wsX4_below) := goodIn_app (goodIn_of _ (by decide +kernel)) ggX4_whole_X4_below
set_option maxRecDepth 20000 in
theorem ggX4_whole_X4_signBit : GoodIn wsX4_whole wsX4_signBit := goodIn_r _ [15, 16, 17] (by decide +kernel) (by decide +kernel)
set_option maxRecDepth 20000 in
theorem gX4_whole_X4_signBit : GoodIn wsX4_whole (va_wsS RX4 81 yX4_signBit wsX4_signBit) := goodIn_app (goodIn_of _ (by decide +kernel)) ggX4_whole_X4_signBit
set_option maxRecDepth 20000 in
theorem ggX4_whole_X4_asCode : GoodIn wsX4_whole wsX4_asCode := goodIn_r _ [26] (by decide +kernel) (by decide +kernel)
set_option maxRecDepth 20000 in
theorem gX4_whole_X4_asCode : GoodIn wsX4_whole (va_wsS RX4 97 yX4_asCode wsX4_asCode) := goodIn_app (goodIn_of _ (by decide +kernel)) ggX4_whole_X4_asCode
theorem dX4_whole_0 : decode cX4_whole 0 = .ok (.iload_n 0, 1) := by decide +kernel
theorem dX4_whole_1 : decode cX4_whole 1 = .ok (.lload_n 1, 1) := by decide +kernel
theorem dX4_whole_2 : decode cX4_whole 2 = .ok (.invokestatic 87, 3) := by decide +kernel
theorem dX4_whole_5 : decode cX4_whole 5 = .ok (.lstore 4, 2) := by decide +kernel
theorem dX4_whole_7 : decode cX4_whole 7 = .ok (.iload_n 0, 1) := by decide +kernel
theorem dX4_whole_8 : decode cX4_whole 8 = .ok (.invokestatic 103, 3) := by decide +kernel
theorem dX4_whole_11 : decode cX4_whole 11 = .ok (.istore 6, 2) := by decide +kernel
theorem dX4_whole_13 : decode cX4_whole 13 = .ok (.lload 4, 2) := by decide +kernel
theorem dX4_whole_15 : decode cX4_whole 15 = .ok (.iload 6, 2) := by decide +kernel
theorem dX4_whole_17 : decode cX4_whole 17 = .ok (.lshr, 1) := by decide +kernel
theorem dX4_whole_18 : decode cX4_whole 18 = .ok (.l2i, 1) := by decide +kernel
theorem dX4_whole_19 : decode cX4_whole 19 = .ok (.iload_n 0, 1) := by decide +kernel
theorem dX4_whole_20 : decode cX4_whole 20 = .ok (.iconst 2, 1) := by decide +kernel
theorem dX4_whole_21 : decode cX4_whole 21 = .ok (.if_icmp .ne 8, 3) := by decide +kernel
theorem dX4_whole_24 : decode cX4_whole 24 = .ok (.bipush 127, 2) := by decide +kernel
theorem dX4_whole_26 : decode cX4_whole 26 = .ok (.goto 6, 3) := by decide +kernel
theorem dX4_whole_29 : decode cX4_whole 29 = .ok (.sipush 1023, 3) := by decide +kernel
theorem dX4_whole_32 : decode cX4_whole 32 = .ok (.isub, 1) := by decide +kernel
theorem dX4_whole_33 : decode cX4_whole 33 = .ok (.istore 7, 2) := by decide +kernel
theorem dX4_whole_35 : decode cX4_whole 35 = .ok (.lload 4, 2) := by decide +kernel
theorem dX4_whole_37 : decode cX4_whole 37 = .ok (.lconst 0, 1) := by decide +kernel
theorem dX4_whole_38 : decode cX4_whole 38 = .ok (.lcmp, 1) := by decide +kernel
theorem dX4_whole_39 : decode cX4_whole 39 = .ok (.ifCond .eq 10, 3) := by decide +kernel
theorem dX4_whole_42 : decode cX4_whole 42 = .ok (.iload 7, 2) := by decide +kernel
theorem dX4_whole_44 : decode cX4_whole 44 = .ok (.iload 6, 2) := by decide +kernel
theorem dX4_whole_46 : decode cX4_whole 46 = .ok (.if_icmp .lt 5, 3) := by decide +kernel
theorem dX4_whole_49 : decode cX4_whole 49 = .ok (.lload_n 1, 1) := by decide +kernel
theorem dX4_whole_50 : decode cX4_whole 50 = .ok (.lreturn, 1) := by decide +kernel
theorem dX4_whole_51 : decode cX4_whole 51 = .ok (.iload_n 0, 1) := by decide +kernel
theorem dX4_whole_52 : decode cX4_whole 52 = .ok (.lload_n 1, 1) := by decide +kernel
theorem dX4_whole_53 : decode cX4_whole 53 = .ok (.invokestatic 93, 3) := by decide +kernel
theorem dX4_whole_56 : decode cX4_whole 56 = .ok (.istore 8, 2) := by decide +kernel
theorem dX4_whole_58 : decode cX4_whole 58 = .ok (.iload 8, 2) := by decide +kernel
theorem dX4_whole_60 : decode cX4_whole 60 = .ok (.ifCond .eq 10, 3) := by decide +kernel
theorem dX4_whole_63 : decode cX4_whole 63 = .ok (.iload_n 0, 1) := by decide +kernel
theorem dX4_whole_64 : decode cX4_whole 64 = .ok (.invokestatic 81, 3) := by decide +kernel
theorem dX4_whole_67 : decode cX4_whole 67 = .ok (.goto 4, 3) := by decide +kernel
theorem dX4_whole_70 : decode cX4_whole 70 = .ok (.lconst 0, 1) := by decide +kernel
theorem dX4_whole_71 : decode cX4_whole 71 = .ok (.lstore 9, 2) := by decide +kernel
theorem dX4_whole_73 : decode cX4_whole 73 = .ok (.iload_n 0, 1) := by decide +kernel
theorem dX4_whole_74 : decode cX4_whole 74 = .ok (.iconst 2, 1) := by decide +kernel
theorem dX4_whole_75 : decode cX4_whole 75 = .ok (.if_icmp .ne 9, 3) := by decide +kernel
theorem dX4_whole_78 : decode cX4_whole 78 = .ok (.ldc2_w 107, 3) := by decide +kernel
theorem dX4_whole_81 : decode cX4_whole 81 = .ok (.goto 6, 3) := by decide +kernel
theorem dX4_whole_84 : decode cX4_whole 84 = .ok (.ldc2_w 109, 3) := by decide +kernel
theorem dX4_whole_87 : decode cX4_whole 87 = .ok (.lstore 11, 2) := by decide +kernel
theorem dX4_whole_89 : decode cX4_whole 89 = .ok (.iload 7, 2) := by decide +kernel
theorem dX4_whole_91 : decode cX4_whole 91 = .ok (.ifCond .ge 74, 3) := by decide +kernel
theorem dX4_whole_94 : decode cX4_whole 94 = .ok (.lload 11, 2) := by decide +kernel
theorem dX4_whole_96 : decode cX4_whole 96 = .ok (.lconst 1, 1) := by decide +kernel
theorem dX4_whole_97 : decode cX4_whole 97 = .ok (.iload 6, 2) := by decide +kernel
theorem dX4_whole_99 : decode cX4_whole 99 = .ok (.lshl, 1) := by decide +kernel
theorem dX4_whole_100 : decode cX4_whole 100 = .ok (.lsub, 1) := by decide +kernel
theorem dX4_whole_101 : decode cX4_whole 101 = .ok (.lstore 13, 2) := by decide +kernel
theorem dX4_whole_103 : decode cX4_whole 103 = .ok (.iload_n 3, 1) := by decide +kernel
theorem dX4_whole_104 : decode cX4_whole 104 = .ok (.iconst 5, 1) := by decide +kernel
theorem dX4_whole_105 : decode cX4_whole 105 = .ok (.if_icmp .ne 19, 3) := by decide +kernel
theorem dX4_whole_108 : decode cX4_whole 108 = .ok (.lload 4, 2) := by decide +kernel
theorem dX4_whole_110 : decode cX4_whole 110 = .ok (.lload 13, 2) := by decide +kernel
theorem dX4_whole_112 : decode cX4_whole 112 = .ok (.lcmp, 1) := by decide +kernel
theorem dX4_whole_113 : decode cX4_whole 113 = .ok (.ifCond .le 7, 3) := by decide +kernel
theorem dX4_whole_116 : decode cX4_whole 116 = .ok (.iconst 1, 1) := by decide +kernel
theorem dX4_whole_117 : decode cX4_whole 117 = .ok (.goto 27, 3) := by decide +kernel
theorem dX4_whole_120 : decode cX4_whole 120 = .ok (.iconst 0, 1) := by decide +kernel
theorem dX4_whole_121 : decode cX4_whole 121 = .ok (.goto 23, 3) := by decide +kernel
theorem dX4_whole_124 : decode cX4_whole 124 = .ok (.iload 8, 2) := by decide +kernel
theorem dX4_whole_126 : decode cX4_whole 126 = .ok (.iload_n 3, 1) := by decide +kernel
theorem dX4_whole_127 : decode cX4_whole 127 = .ok (.iconst 3, 1) := by decide +kernel
theorem dX4_whole_128 : decode cX4_whole 128 = .ok (.if_icmp .ne 7, 3) := by decide +kernel
theorem dX4_whole_131 : decode cX4_whole 131 = .ok (.iconst 1, 1) := by decide +kernel
theorem dX4_whole_132 : decode cX4_whole 132 = .ok (.goto 4, 3) := by decide +kernel
theorem dX4_whole_135 : decode cX4_whole 135 = .ok (.iconst 0, 1) := by decide +kernel
theorem dX4_whole_136 : decode cX4_whole 136 = .ok (.if_icmp .ne 7, 3) := by decide +kernel
theorem dX4_whole_139 : decode cX4_whole 139 = .ok (.iconst 1, 1) := by decide +kernel
theorem dX4_whole_140 : decode cX4_whole 140 = .ok (.goto 4, 3) := by decide +kernel
theorem dX4_whole_143 : decode cX4_whole 143 = .ok (.iconst 0, 1) := by decide +kernel
theorem dX4_whole_144 : decode cX4_whole 144 = .ok (.istore 15, 2) := by decide +kernel
theorem dX4_whole_146 : decode cX4_whole 146 = .ok (.iload_n 0, 1) := by decide +kernel
theorem dX4_whole_147 : decode cX4_whole 147 = .ok (.lload 9, 2) := by decide +kernel
theorem dX4_whole_149 : decode cX4_whole 149 = .ok (.iload 15, 2) := by decide +kernel
theorem dX4_whole_151 : decode cX4_whole 151 = .ok (.ifCond .eq 8, 3) := by decide +kernel
theorem dX4_whole_154 : decode cX4_whole 154 = .ok (.lload 11, 2) := by decide +kernel
theorem dX4_whole_156 : decode cX4_whole 156 = .ok (.goto 4, 3) := by decide +kernel
theorem dX4_whole_159 : decode cX4_whole 159 = .ok (.lconst 0, 1) := by decide +kernel
theorem dX4_whole_160 : decode cX4_whole 160 = .ok (.lor, 1) := by decide +kernel
theorem dX4_whole_161 : decode cX4_whole 161 = .ok (.invokestatic 97, 3) := by decide +kernel
theorem dX4_whole_164 : decode cX4_whole 164 = .ok (.lreturn, 1) := by decide +kernel
theorem dX4_whole_165 : decode cX4_whole 165 = .ok (.lconst 1, 1) := by decide +kernel
theorem dX4_whole_166 : decode cX4_whole 166 = .ok (.iload 6, 2) := by decide +kernel
theorem dX4_whole_168 : decode cX4_whole 168 = .ok (.iload 7, 2) := by decide +kernel
theorem dX4_whole_170 : decode cX4_whole 170 = .ok (.isub, 1) := by decide +kernel
theorem dX4_whole_171 : decode cX4_whole 171 = .ok (.lshl, 1) := by decide +kernel
theorem dX4_whole_172 : decode cX4_whole 172 = .ok (.lstore 13, 2) := by decide +kernel
theorem dX4_whole_174 : decode cX4_whole 174 = .ok (.lload 4, 2) := by decide +kernel
theorem dX4_whole_176 : decode cX4_whole 176 = .ok (.lload 13, 2) := by decide +kernel
theorem dX4_whole_178 : decode cX4_whole 178 = .ok (.lconst 1, 1) := by decide +kernel
theorem dX4_whole_179 : decode cX4_whole 179 = .ok (.lsub, 1) := by decide +kernel
theorem dX4_whole_180 : decode cX4_whole 180 = .ok (.land, 1) := by decide +kernel
theorem dX4_whole_181 : decode cX4_whole 181 = .ok (.lstore 15, 2) := by decide +kernel
theorem dX4_whole_183 : decode cX4_whole 183 = .ok (.lload 15, 2) := by decide +kernel
theorem dX4_whole_185 : decode cX4_whole 185 = .ok (.lconst 0, 1) := by decide +kernel
theorem dX4_whole_186 : decode cX4_whole 186 = .ok (.lcmp, 1) := by decide +kernel
theorem dX4_whole_187 : decode cX4_whole 187 = .ok (.ifCond .ne 5, 3) := by decide +kernel
theorem dX4_whole_190 : decode cX4_whole 190 = .ok (.lload_n 1, 1) := by decide +kernel
theorem dX4_whole_191 : decode cX4_whole 191 = .ok (.lreturn, 1) := by decide +kernel
theorem dX4_whole_192 : decode cX4_whole 192 = .ok (.lload 4, 2) := by decide +kernel
theorem dX4_whole_194 : decode cX4_whole 194 = .ok (.lload 13, 2) := by decide +kernel
theorem dX4_whole_196 : decode cX4_whole 196 = .ok (.land, 1) := by decide +kernel
theorem dX4_whole_197 : decode cX4_whole 197 = .ok (.lconst 0, 1) := by decide +kernel
theorem dX4_whole_198 : decode cX4_whole 198 = .ok (.lcmp, 1) := by decide +kernel
theorem dX4_whole_199 : decode cX4_whole 199 = .ok (.ifCond .eq 7, 3) := by decide +kernel
theorem dX4_whole_202 : decode cX4_whole 202 = .ok (.iconst 1, 1) := by decide +kernel
theorem dX4_whole_203 : decode cX4_whole 203 = .ok (.goto 4, 3) := by decide +kernel
theorem dX4_whole_206 : decode cX4_whole 206 = .ok (.iconst 0, 1) := by decide +kernel
theorem dX4_whole_207 : decode cX4_whole 207 = .ok (.istore 17, 2) := by decide +kernel
theorem dX4_whole_209 : decode cX4_whole 209 = .ok (.iload_n 3, 1) := by decide +kernel
theorem dX4_whole_210 : decode cX4_whole 210 = .ok (.iconst 5, 1) := by decide +kernel
theorem dX4_whole_211 : decode cX4_whole 211 = .ok (.if_icmp .ne 40, 3) := by decide +kernel
theorem dX4_whole_214 : decode cX4_whole 214 = .ok (.ldc2_w 111, 3) := by decide +kernel
theorem dX4_whole_217 : decode cX4_whole 217 = .ok (.lload 15, 2) := by decide +kernel
theorem dX4_whole_219 : decode cX4_whole 219 = .ok (.lmul, 1) := by decide +kernel
theorem dX4_whole_220 : decode cX4_whole 220 = .ok (.lload 13, 2) := by decide +kernel
theorem dX4_whole_222 : decode cX4_whole 222 = .ok (.lcmp, 1) := by decide +kernel
theorem dX4_whole_223 : decode cX4_whole 223 = .ok (.ifCond .gt 20, 3) := by decide +kernel
theorem dX4_whole_226 : decode cX4_whole 226 = .ok (.ldc2_w 111, 3) := by decide +kernel
theorem dX4_whole_229 : decode cX4_whole 229 = .ok (.lload 15, 2) := by decide +kernel
theorem dX4_whole_231 : decode cX4_whole 231 = .ok (.lmul, 1) := by decide +kernel
theorem dX4_whole_232 : decode cX4_whole 232 = .ok (.lload 13, 2) := by decide +kernel
theorem dX4_whole_234 : decode cX4_whole 234 = .ok (.lcmp, 1) := by decide +kernel
theorem dX4_whole_235 : decode cX4_whole 235 = .ok (.ifCond .ne 12, 3) := by decide +kernel
theorem dX4_whole_238 : decode cX4_whole 238 = .ok (.iload 17, 2) := by decide +kernel
theorem dX4_whole_240 : decode cX4_whole 240 = .ok (.ifCond .eq 7, 3) := by decide +kernel
theorem dX4_whole_243 : decode cX4_whole 243 = .ok (.iconst 1, 1) := by decide +kernel
theorem dX4_whole_244 : decode cX4_whole 244 = .ok (.goto 27, 3) := by decide +kernel
theorem dX4_whole_247 : decode cX4_whole 247 = .ok (.iconst 0, 1) := by decide +kernel
theorem dX4_whole_248 : decode cX4_whole 248 = .ok (.goto 23, 3) := by decide +kernel
theorem dX4_whole_251 : decode cX4_whole 251 = .ok (.iload 8, 2) := by decide +kernel
theorem dX4_whole_253 : decode cX4_whole 253 = .ok (.iload_n 3, 1) := by decide +kernel
theorem dX4_whole_254 : decode cX4_whole 254 = .ok (.iconst 3, 1) := by decide +kernel
theorem dX4_whole_255 : decode cX4_whole 255 = .ok (.if_icmp .ne 7, 3) := by decide +kernel
theorem dX4_whole_258 : decode cX4_whole 258 = .ok (.iconst 1, 1) := by decide +kernel
theorem dX4_whole_259 : decode cX4_whole 259 = .ok (.goto 4, 3) := by decide +kernel
theorem dX4_whole_262 : decode cX4_whole 262 = .ok (.iconst 0, 1) := by decide +kernel
theorem dX4_whole_263 : decode cX4_whole 263 = .ok (.if_icmp .ne 7, 3) := by decide +kernel
theorem dX4_whole_266 : decode cX4_whole 266 = .ok (.iconst 1, 1) := by decide +kernel
theorem dX4_whole_267 : decode cX4_whole 267 = .ok (.goto 4, 3) := by decide +kernel
theorem dX4_whole_270 : decode cX4_whole 270 = .ok (.iconst 0, 1) := by decide +kernel
theorem dX4_whole_271 : decode cX4_whole 271 = .ok (.istore 18, 2) := by decide +kernel
theorem dX4_whole_273 : decode cX4_whole 273 = .ok (.iload_n 0, 1) := by decide +kernel
theorem dX4_whole_274 : decode cX4_whole 274 = .ok (.lload 9, 2) := by decide +kernel
theorem dX4_whole_276 : decode cX4_whole 276 = .ok (.lload 4, 2) := by decide +kernel
theorem dX4_whole_278 : decode cX4_whole 278 = .ok (.lload 15, 2) := by decide +kernel
theorem dX4_whole_280 : decode cX4_whole 280 = .ok (.lsub, 1) := by decide +kernel
theorem dX4_whole_281 : decode cX4_whole 281 = .ok (.iload 18, 2) := by decide +kernel
theorem dX4_whole_283 : decode cX4_whole 283 = .ok (.ifCond .eq 8, 3) := by decide +kernel
theorem dX4_whole_286 : decode cX4_whole 286 = .ok (.lload 13, 2) := by decide +kernel
theorem dX4_whole_288 : decode cX4_whole 288 = .ok (.goto 4, 3) := by decide +kernel
theorem dX4_whole_291 : decode cX4_whole 291 = .ok (.lconst 0, 1) := by decide +kernel
theorem dX4_whole_292 : decode cX4_whole 292 = .ok (.ladd, 1) := by decide +kernel
theorem dX4_whole_293 : decode cX4_whole 293 = .ok (.lor, 1) := by decide +kernel
theorem dX4_whole_294 : decode cX4_whole 294 = .ok (.invokestatic 97, 3) := by decide +kernel
theorem dX4_whole_297 : decode cX4_whole 297 = .ok (.lreturn, 1) := by decide +kernel
set_option maxRecDepth 20000 in
theorem ggX4_signOf_X4_size : GoodIn wsX4_signOf wsX4_size := goodIn_r _ [6, 7, 8, 9, 5, 10, 11, 12, 13, 14, 15, 16] (by decide +kernel) (by decide +kernel)
set_option maxRecDepth 20000 in
theorem gX4_signOf_X4_size : GoodIn wsX4_signOf (va_wsS RX4 87 yX4_size wsX4_size) := goodIn_app (goodIn_of _ (by decide +kernel)) ggX4_signOf_X4_size
set_option maxRecDepth 20000 in
theorem ggX4_signOf_X4_below : GoodIn wsX4_signOf wsX4_below := goodIn_r _ [19, 12, 13, 5, 14, 15, 16] (by decide +kernel) (by decide +kernel)
set_option maxRecDepth 20000 in
theorem gX4_signOf_X4_below : GoodIn wsX4_signOf (va_wsS RX4 93 yX4_below wsX4_below) := goodIn_app (goodIn_of _ (by decide +kernel)) ggX4_signOf_X4_below
set_option maxRecDepth 20000 in
theorem ggX4_signOf_X4_signBit : GoodIn wsX4_signOf wsX4_signBit := goodIn_r _ [14, 15, 16] (by decide +kernel) (by decide +kernel)
set_option maxRecDepth 20000 in
theorem gX4_signOf_X4_signBit : GoodIn wsX4_signOf (va_wsS RX4 81 yX4_signBit wsX4_signBit) := goodIn_app (goodIn_of _ (by decide +kernel)) ggX4_signOf_X4_signBit
set_option maxRecDepth 20000 in
theorem ggX4_signOf_X4_asCode : GoodIn wsX4_signOf wsX4_asCode := goodIn_r _ [22] (by decide +kernel) (by decide +kernel)
set_option maxRecDepth 20000 in
theorem gX4_signOf_X4_asCode : GoodIn wsX4_signOf (va_wsS RX4 97 yX4_asCode wsX4_asCode) := goodIn_app (goodIn_of _ (by decide +kernel)) ggX4_signOf_X4_asCode
theorem dX4_signOf_0 : decode cX4_signOf 0 = .ok (.iload_n 0, 1) := by decide +kernel
theorem dX4_signOf_1 : decode cX4_signOf 1 = .ok (.lload_n 1, 1) := by decide +kernel
theorem dX4_signOf_2 : decode cX4_signOf 2 = .ok (.invokestatic 87, 3) := by decide +kernel
theorem dX4_signOf_5 : decode cX4_signOf 5 = .ok (.lconst 0, 1) := by decide +kernel
theorem dX4_signOf_6 : decode cX4_signOf 6 = .ok (.lcmp, 1) := by decide +kernel
theorem dX4_signOf_7 : decode cX4_signOf 7 = .ok (.ifCond .ne 5, 3) := by decide +kernel
theorem dX4_signOf_10 : decode cX4_signOf 10 = .ok (.lload_n 1, 1) := by decide +kernel
theorem dX4_signOf_11 : decode cX4_signOf 11 = .ok (.lreturn, 1) := by decide +kernel
theorem dX4_signOf_12 : decode cX4_signOf 12 = .ok (.iload_n 0, 1) := by decide +kernel
theorem dX4_signOf_13 : decode cX4_signOf 13 = .ok (.iconst 2, 1) := by decide +kernel
theorem dX4_signOf_14 : decode cX4_signOf 14 = .ok (.if_icmp .ne 9, 3) := by decide +kernel
theorem dX4_signOf_17 : decode cX4_signOf 17 = .ok (.ldc2_w 107, 3) := by decide +kernel
theorem dX4_signOf_20 : decode cX4_signOf 20 = .ok (.goto 6, 3) := by decide +kernel
theorem dX4_signOf_23 : decode cX4_signOf 23 = .ok (.ldc2_w 109, 3) := by decide +kernel
theorem dX4_signOf_26 : decode cX4_signOf 26 = .ok (.lstore_n 3, 1) := by decide +kernel
theorem dX4_signOf_27 : decode cX4_signOf 27 = .ok (.iload_n 0, 1) := by decide +kernel
theorem dX4_signOf_28 : decode cX4_signOf 28 = .ok (.iload_n 0, 1) := by decide +kernel
theorem dX4_signOf_29 : decode cX4_signOf 29 = .ok (.lload_n 1, 1) := by decide +kernel
theorem dX4_signOf_30 : decode cX4_signOf 30 = .ok (.invokestatic 93, 3) := by decide +kernel
theorem dX4_signOf_33 : decode cX4_signOf 33 = .ok (.ifCond .eq 12, 3) := by decide +kernel
theorem dX4_signOf_36 : decode cX4_signOf 36 = .ok (.lload_n 3, 1) := by decide +kernel
theorem dX4_signOf_37 : decode cX4_signOf 37 = .ok (.iload_n 0, 1) := by decide +kernel
theorem dX4_signOf_38 : decode cX4_signOf 38 = .ok (.invokestatic 81, 3) := by decide +kernel
theorem dX4_signOf_41 : decode cX4_signOf 41 = .ok (.lor, 1) := by decide +kernel
theorem dX4_signOf_42 : decode cX4_signOf 42 = .ok (.goto 4, 3) := by decide +kernel
theorem dX4_signOf_45 : decode cX4_signOf 45 = .ok (.lload_n 3, 1) := by decide +kernel
theorem dX4_signOf_46 : decode cX4_signOf 46 = .ok (.invokestatic 97, 3) := by decide +kernel
theorem dX4_signOf_49 : decode cX4_signOf 49 = .ok (.lreturn, 1) := by decide +kernel
set_option maxRecDepth 20000 in
theorem ggX4_works_X4_upright : GoodIn wsX4_works wsX4_upright := goodIn_r _ [4, 5, 6, 3, 7, 8, 9, 10, 11, 12, 13, 14, 15, 16, 17, 18, 19, 20, 21, 22, 23] (by decide +kernel) (by decide +kernel)
set_option maxRecDepth 20000 in
theorem gX4_works_X4_upright : GoodIn wsX4_works (va_wsS RX4 113 yX4_upright wsX4_upright) := goodIn_app (goodIn_of _ (by decide +kernel)) ggX4_works_X4_upright
set_option maxRecDepth 20000 in
theorem ggX4_works_X4_order : GoodIn wsX4_works wsX4_order := goodIn_r _ [26, 27, 28, 3, 29, 12, 13, 14, 15, 16, 20, 21, 22, 23, 8, 9, 10, 11] (by decide +kernel) (by decide +kernel)
set_option maxRecDepth 20000 in
theorem gX4_works_X4_order : GoodIn wsX4_works (va_wsS RX4 116 yX4_order wsX4_order) := goodIn_app (goodIn_of _ (by decide +kernel)) ggX4_works_X4_order
set_option maxRecDepth 20000 in
theorem ggX4_works_X4_whole : GoodIn wsX4_works wsX4_whole := goodIn_r _ [32, 33, 34, 35, 20, 21, 3, 22, 23, 8, 9, 10, 11, 12, 13, 14, 15, 16, 36, 37, 38, 27, 28, 29, 17, 18, 19] (by decide +kernel) (by decide +kernel)
set_option maxRecDepth 20000 in
theorem gX4_works_X4_whole : GoodIn wsX4_works (va_wsS RX4 120 yX4_whole wsX4_whole) := goodIn_app (goodIn_of _ (by decide +kernel)) ggX4_works_X4_whole
set_option maxRecDepth 20000 in
theorem ggX4_works_X4_signOf : GoodIn wsX4_works wsX4_signOf := goodIn_r _ [41, 33, 34, 20, 21, 3, 22, 23, 8, 9, 10, 11, 12, 13, 14, 15, 16, 27, 28, 29, 17, 18, 19] (by decide +kernel) (by decide +kernel)
set_option maxRecDepth 20000 in
theorem gX4_works_X4_signOf : GoodIn wsX4_works (va_wsS RX4 124 yX4_signOf wsX4_signOf) := goodIn_app (goodIn_of _ (by decide +kernel)) ggX4_works_X4_signOf
set_option maxRecDepth 20000 in
theorem ggX4_works_X4_below : GoodIn wsX4_works wsX4_below := goodIn_r _ [29, 12, 13, 3, 14, 15, 16] (by decide +kernel) (by decide +kernel)
set_option maxRecDepth 20000 in
theorem gX4_works_X4_below : GoodIn wsX4_works (va_wsS RX4 93 yX4_below wsX4_below) := goodIn_app (goodIn_of _ (by decide +kernel)) ggX4_works_X4_below
set_option maxRecDepth 20000 in
theorem ggX4_works_X4_size : GoodIn wsX4_works wsX4_size := goodIn_r _ [22, 23, 8, 9, 3, 10, 11, 12, 13, 14, 15, 16] (by decide +kernel) (by decide +kernel)
set_option maxRecDepth 20000 in
theorem gX4_works_X4_size : GoodIn wsX4_works (va_wsS RX4 87 yX4_size wsX4_size) := goodIn_app (goodIn_of _ (by decide +kernel)) ggX4_works_X4_size
set_option maxRecDepth 20000 in
theorem ggX4_works_X4_signBit : GoodIn wsX4_works wsX4_signBit := goodIn_r _ [14, 15, 16] (by decide +kernel) (by decide +kernel)
set_option maxRecDepth 20000 in
theorem gX4_works_X4_signBit : GoodIn wsX4_works (va_wsS RX4 81 yX4_signBit wsX4_signBit) := goodIn_app (goodIn_of _ (by decide +kernel)) ggX4_works_X4_signBit
set_option maxRecDepth 20000 in
theorem ggX4_works_X4_asCode : GoodIn wsX4_works wsX4_asCode := goodIn_r _ [19] (by decide +kernel) (by decide +kernel)
set_option maxRecDepth 20000 in
theorem gX4_works_X4_asCode : GoodIn wsX4_works (va_wsS RX4 97 yX4_asCode wsX4_asCode) := goodIn_app (goodIn_of _ (by decide +kernel)) ggX4_works_X4_asCode
set_option maxRecDepth 20000 in
theorem ggX4_works_X4_negative : GoodIn wsX4_works wsX4_negative := goodIn_r _ [7, 8, 9, 3, 10, 11, 12, 13, 14, 15, 16, 17, 18, 19] (by decide +kernel) (by decide +kernel)
set_option maxRecDepth 20000 in
theorem gX4_works_X4_negative : GoodIn wsX4_works (va_wsS RX4 100 yX4_negative wsX4_negative) := goodIn_app (goodIn_of _ (by decide +kernel)) ggX4_works_X4_negative
theorem dX4_works_0 : decode cX4_works 0 = .ok (.iload_n 1, 1) := by decide +kernel
theorem dX4_works_1 : decode cX4_works 1 = .ok (.tableswitch 132 0 7 #[47, 53, 70, 87, 87, 87, 94, 100], 47) := by decide +kernel
theorem dX4_works_48 : decode cX4_works 48 = .ok (.iload_n 0, 1) := by decide +kernel
theorem dX4_works_49 : decode cX4_works 49 = .ok (.lload_n 2, 1) := by decide +kernel
theorem dX4_works_50 : decode cX4_works 50 = .ok (.invokestatic 113, 3) := by decide +kernel
theorem dX4_works_53 : decode cX4_works 53 = .ok (.lreturn, 1) := by decide +kernel
theorem dX4_works_54 : decode cX4_works 54 = .ok (.iload_n 0, 1) := by decide +kernel
theorem dX4_works_55 : decode cX4_works 55 = .ok (.lload_n 2, 1) := by decide +kernel
theorem dX4_works_56 : decode cX4_works 56 = .ok (.lload 4, 2) := by decide +kernel
theorem dX4_works_58 : decode cX4_works 58 = .ok (.invokestatic 116, 3) := by decide +kernel
theorem dX4_works_61 : decode cX4_works 61 = .ok (.ifCond .gt 7, 3) := by decide +kernel
theorem dX4_works_64 : decode cX4_works 64 = .ok (.lload_n 2, 1) := by decide +kernel
theorem dX4_works_65 : decode cX4_works 65 = .ok (.goto 5, 3) := by decide +kernel
theorem dX4_works_68 : decode cX4_works 68 = .ok (.lload 4, 2) := by decide +kernel
theorem dX4_works_70 : decode cX4_works 70 = .ok (.lreturn, 1) := by decide +kernel
theorem dX4_works_71 : decode cX4_works 71 = .ok (.iload_n 0, 1) := by decide +kernel
theorem dX4_works_72 : decode cX4_works 72 = .ok (.lload_n 2, 1) := by decide +kernel
theorem dX4_works_73 : decode cX4_works 73 = .ok (.lload 4, 2) := by decide +kernel
theorem dX4_works_75 : decode cX4_works 75 = .ok (.invokestatic 116, 3) := by decide +kernel
theorem dX4_works_78 : decode cX4_works 78 = .ok (.ifCond .lt 7, 3) := by decide +kernel
theorem dX4_works_81 : decode cX4_works 81 = .ok (.lload_n 2, 1) := by decide +kernel
theorem dX4_works_82 : decode cX4_works 82 = .ok (.goto 5, 3) := by decide +kernel
theorem dX4_works_85 : decode cX4_works 85 = .ok (.lload 4, 2) := by decide +kernel
theorem dX4_works_87 : decode cX4_works 87 = .ok (.lreturn, 1) := by decide +kernel
theorem dX4_works_88 : decode cX4_works 88 = .ok (.iload_n 0, 1) := by decide +kernel
theorem dX4_works_89 : decode cX4_works 89 = .ok (.lload_n 2, 1) := by decide +kernel
theorem dX4_works_90 : decode cX4_works 90 = .ok (.iload_n 1, 1) := by decide +kernel
theorem dX4_works_91 : decode cX4_works 91 = .ok (.invokestatic 120, 3) := by decide +kernel
theorem dX4_works_94 : decode cX4_works 94 = .ok (.lreturn, 1) := by decide +kernel
theorem dX4_works_95 : decode cX4_works 95 = .ok (.iload_n 0, 1) := by decide +kernel
theorem dX4_works_96 : decode cX4_works 96 = .ok (.lload_n 2, 1) := by decide +kernel
theorem dX4_works_97 : decode cX4_works 97 = .ok (.invokestatic 124, 3) := by decide +kernel
theorem dX4_works_100 : decode cX4_works 100 = .ok (.lreturn, 1) := by decide +kernel
theorem dX4_works_101 : decode cX4_works 101 = .ok (.iload_n 0, 1) := by decide +kernel
theorem dX4_works_102 : decode cX4_works 102 = .ok (.iload_n 0, 1) := by decide +kernel
theorem dX4_works_103 : decode cX4_works 103 = .ok (.lload 4, 2) := by decide +kernel
theorem dX4_works_105 : decode cX4_works 105 = .ok (.invokestatic 93, 3) := by decide +kernel
theorem dX4_works_108 : decode cX4_works 108 = .ok (.ifCond .eq 16, 3) := by decide +kernel
theorem dX4_works_111 : decode cX4_works 111 = .ok (.iload_n 0, 1) := by decide +kernel
theorem dX4_works_112 : decode cX4_works 112 = .ok (.lload_n 2, 1) := by decide +kernel
theorem dX4_works_113 : decode cX4_works 113 = .ok (.invokestatic 87, 3) := by decide +kernel
theorem dX4_works_116 : decode cX4_works 116 = .ok (.iload_n 0, 1) := by decide +kernel
theorem dX4_works_117 : decode cX4_works 117 = .ok (.invokestatic 81, 3) := by decide +kernel
theorem dX4_works_120 : decode cX4_works 120 = .ok (.lor, 1) := by decide +kernel
theorem dX4_works_121 : decode cX4_works 121 = .ok (.goto 8, 3) := by decide +kernel
theorem dX4_works_124 : decode cX4_works 124 = .ok (.iload_n 0, 1) := by decide +kernel
theorem dX4_works_125 : decode cX4_works 125 = .ok (.lload_n 2, 1) := by decide +kernel
theorem dX4_works_126 : decode cX4_works 126 = .ok (.invokestatic 87, 3) := by decide +kernel
theorem dX4_works_129 : decode cX4_works 129 = .ok (.invokestatic 97, 3) := by decide +kernel
theorem dX4_works_132 : decode cX4_works 132 = .ok (.lreturn, 1) := by decide +kernel
theorem dX4_works_133 : decode cX4_works 133 = .ok (.iload_n 0, 1) := by decide +kernel
theorem dX4_works_134 : decode cX4_works 134 = .ok (.lload_n 2, 1) := by decide +kernel
theorem dX4_works_135 : decode cX4_works 135 = .ok (.invokestatic 100, 3) := by decide +kernel
theorem dX4_works_138 : decode cX4_works 138 = .ok (.lreturn, 1) := by decide +kernel
theorem dX4_bitsOf_0 : decode cX4_bitsOf 0 = .ok (.iconst 0, 1) := by decide +kernel
theorem dX4_bitsOf_1 : decode cX4_bitsOf 1 = .ok (.istore_n 2, 1) := by decide +kernel
theorem dX4_bitsOf_2 : decode cX4_bitsOf 2 = .ok (.iconst 0, 1) := by decide +kernel
theorem dX4_bitsOf_3 : decode cX4_bitsOf 3 = .ok (.istore_n 3, 1) := by decide +kernel
theorem dX4_bitsOf_4 : decode cX4_bitsOf 4 = .ok (.iload_n 3, 1) := by decide +kernel
theorem dX4_bitsOf_5 : decode cX4_bitsOf 5 = .ok (.bipush 64, 2) := by decide +kernel
theorem dX4_bitsOf_7 : decode cX4_bitsOf 7 = .ok (.if_icmp .ge 27, 3) := by decide +kernel
theorem dX4_bitsOf_10 : decode cX4_bitsOf 10 = .ok (.lload_n 0, 1) := by decide +kernel
theorem dX4_bitsOf_11 : decode cX4_bitsOf 11 = .ok (.iload_n 3, 1) := by decide +kernel
theorem dX4_bitsOf_12 : decode cX4_bitsOf 12 = .ok (.lushr, 1) := by decide +kernel
theorem dX4_bitsOf_13 : decode cX4_bitsOf 13 = .ok (.lconst 1, 1) := by decide +kernel
theorem dX4_bitsOf_14 : decode cX4_bitsOf 14 = .ok (.land, 1) := by decide +kernel
theorem dX4_bitsOf_15 : decode cX4_bitsOf 15 = .ok (.lconst 1, 1) := by decide +kernel
theorem dX4_bitsOf_16 : decode cX4_bitsOf 16 = .ok (.lcmp, 1) := by decide +kernel
theorem dX4_bitsOf_17 : decode cX4_bitsOf 17 = .ok (.ifCond .ne 9, 3) := by decide +kernel
theorem dX4_bitsOf_20 : decode cX4_bitsOf 20 = .ok (.iload_n 3, 1) := by decide +kernel
theorem dX4_bitsOf_21 : decode cX4_bitsOf 21 = .ok (.iconst 1, 1) := by decide +kernel
theorem dX4_bitsOf_22 : decode cX4_bitsOf 22 = .ok (.iadd, 1) := by decide +kernel
theorem dX4_bitsOf_23 : decode cX4_bitsOf 23 = .ok (.goto 4, 3) := by decide +kernel
theorem dX4_bitsOf_26 : decode cX4_bitsOf 26 = .ok (.iload_n 2, 1) := by decide +kernel
end
section
theorem dX4_bitsOf_27 : decode cX4_bitsOf 27 = .ok (.istore_n 2, 1) := by decide +kernel
theorem dX4_bitsOf_28 : decode cX4_bitsOf 28 = .ok (.iinc 3 1, 3) := by decide +kernel
theorem dX4_bitsOf_31 : decode cX4_bitsOf 31 = .ok (.goto (-27), 3) := by decide +kernel
theorem dX4_bitsOf_34 : decode cX4_bitsOf 34 = .ok (.iload_n 2, 1) := by decide +kernel
theorem dX4_bitsOf_35 : decode cX4_bitsOf 35 = .ok (.ireturn, 1) := by decide +kernel
set_option maxRecDepth 20000 in
theorem ggX4_near_X4_signBit : GoodIn wsX4_near wsX4_signBit := goodIn_r _ [4, 5, 6] (by decide +kernel) (by decide +kernel)
set_option maxRecDepth 20000 in
theorem gX4_near_X4_signBit : GoodIn wsX4_near (va_wsS RX4 81 yX4_signBit wsX4_signBit) := goodIn_app (goodIn_of _ (by decide +kernel)) ggX4_near_X4_signBit
set_option maxRecDepth 20000 in
theorem ggX4_near_X4_asCode : GoodIn wsX4_near wsX4_asCode := goodIn_r _ [9] (by decide +kernel) (by decide +kernel)
set_option maxRecDepth 20000 in
theorem gX4_near_X4_asCode : GoodIn wsX4_near (va_wsS RX4 97 yX4_asCode wsX4_asCode) := goodIn_app (goodIn_of _ (by decide +kernel)) ggX4_near_X4_asCode
set_option maxRecDepth 20000 in
theorem ggX4_near_X4_fractionBits : GoodIn wsX4_near wsX4_fractionBits := goodIn_r _ [12] (by decide +kernel) (by decide +kernel)
set_option maxRecDepth 20000 in
theorem gX4_near_X4_fractionBits : GoodIn wsX4_near (va_wsS RX4 103 yX4_fractionBits wsX4_fractionBits) := goodIn_app (goodIn_of _ (by decide +kernel)) ggX4_near_X4_fractionBits
set_option maxRecDepth 20000 in
theorem ggX4_near_X4_bitsOf : GoodIn wsX4_near wsX4_bitsOf := goodIn_r _ [15] (by decide +kernel) (by decide +kernel)
set_option maxRecDepth 20000 in
theorem gX4_near_X4_bitsOf : GoodIn wsX4_near (va_wsS RX4 127 yX4_bitsOf wsX4_bitsOf) := goodIn_app (goodIn_of _ (by decide +kernel)) ggX4_near_X4_bitsOf
set_option maxRecDepth 20000 in
theorem ggX4_near_X4_endless : GoodIn wsX4_near wsX4_endless := goodIn_r _ [18, 19, 20] (by decide +kernel) (by decide +kernel)
set_option maxRecDepth 20000 in
theorem gX4_near_X4_endless : GoodIn wsX4_near (va_wsS RX4 90 yX4_endless wsX4_endless) := goodIn_app (goodIn_of _ (by decide +kernel)) ggX4_near_X4_endless
theorem dX4_near_0 : decode cX4_near 0 = .ok (.iload_n 1, 1) := by decide +kernel
theorem dX4_near_1 : decode cX4_near 1 = .ok (.ifCond .eq 10, 3) := by decide +kernel
theorem dX4_near_4 : decode cX4_near 4 = .ok (.iload_n 0, 1) := by decide +kernel
theorem dX4_near_5 : decode cX4_near 5 = .ok (.invokestatic 81, 3) := by decide +kernel
theorem dX4_near_8 : decode cX4_near 8 = .ok (.goto 4, 3) := by decide +kernel
theorem dX4_near_11 : decode cX4_near 11 = .ok (.lconst 0, 1) := by decide +kernel
theorem dX4_near_12 : decode cX4_near 12 = .ok (.lstore 5, 2) := by decide +kernel
theorem dX4_near_14 : decode cX4_near 14 = .ok (.lload_n 2, 1) := by decide +kernel
theorem dX4_near_15 : decode cX4_near 15 = .ok (.lconst 0, 1) := by decide +kernel
theorem dX4_near_16 : decode cX4_near 16 = .ok (.lcmp, 1) := by decide +kernel
theorem dX4_near_17 : decode cX4_near 17 = .ok (.ifCond .ne 10, 3) := by decide +kernel
theorem dX4_near_20 : decode cX4_near 20 = .ok (.iload_n 0, 1) := by decide +kernel
theorem dX4_near_21 : decode cX4_near 21 = .ok (.lload 5, 2) := by decide +kernel
theorem dX4_near_23 : decode cX4_near 23 = .ok (.invokestatic 97, 3) := by decide +kernel
theorem dX4_near_26 : decode cX4_near 26 = .ok (.lreturn, 1) := by decide +kernel
theorem dX4_near_27 : decode cX4_near 27 = .ok (.iload_n 0, 1) := by decide +kernel
theorem dX4_near_28 : decode cX4_near 28 = .ok (.invokestatic 103, 3) := by decide +kernel
theorem dX4_near_31 : decode cX4_near 31 = .ok (.iconst 1, 1) := by decide +kernel
theorem dX4_near_32 : decode cX4_near 32 = .ok (.iadd, 1) := by decide +kernel
theorem dX4_near_33 : decode cX4_near 33 = .ok (.istore 7, 2) := by decide +kernel
theorem dX4_near_35 : decode cX4_near 35 = .ok (.iload_n 0, 1) := by decide +kernel
theorem dX4_near_36 : decode cX4_near 36 = .ok (.iconst 2, 1) := by decide +kernel
theorem dX4_near_37 : decode cX4_near 37 = .ok (.if_icmp .ne 9, 3) := by decide +kernel
theorem dX4_near_40 : decode cX4_near 40 = .ok (.sipush (-149), 3) := by decide +kernel
theorem dX4_near_43 : decode cX4_near 43 = .ok (.goto 6, 3) := by decide +kernel
theorem dX4_near_46 : decode cX4_near 46 = .ok (.sipush (-1074), 3) := by decide +kernel
theorem dX4_near_49 : decode cX4_near 49 = .ok (.istore 8, 2) := by decide +kernel
theorem dX4_near_51 : decode cX4_near 51 = .ok (.iload 4, 2) := by decide +kernel
theorem dX4_near_53 : decode cX4_near 53 = .ok (.lload_n 2, 1) := by decide +kernel
theorem dX4_near_54 : decode cX4_near 54 = .ok (.invokestatic 127, 3) := by decide +kernel
theorem dX4_near_57 : decode cX4_near 57 = .ok (.iadd, 1) := by decide +kernel
theorem dX4_near_58 : decode cX4_near 58 = .ok (.iload 7, 2) := by decide +kernel
theorem dX4_near_60 : decode cX4_near 60 = .ok (.isub, 1) := by decide +kernel
theorem dX4_near_61 : decode cX4_near 61 = .ok (.istore 9, 2) := by decide +kernel
theorem dX4_near_63 : decode cX4_near 63 = .ok (.iload 9, 2) := by decide +kernel
theorem dX4_near_65 : decode cX4_near 65 = .ok (.iload 8, 2) := by decide +kernel
theorem dX4_near_67 : decode cX4_near 67 = .ok (.if_icmp .ge 7, 3) := by decide +kernel
theorem dX4_near_70 : decode cX4_near 70 = .ok (.iload 8, 2) := by decide +kernel
theorem dX4_near_72 : decode cX4_near 72 = .ok (.istore 9, 2) := by decide +kernel
theorem dX4_near_74 : decode cX4_near 74 = .ok (.iload 9, 2) := by decide +kernel
theorem dX4_near_76 : decode cX4_near 76 = .ok (.iload 4, 2) := by decide +kernel
theorem dX4_near_78 : decode cX4_near 78 = .ok (.if_icmp .gt 15, 3) := by decide +kernel
theorem dX4_near_81 : decode cX4_near 81 = .ok (.lload_n 2, 1) := by decide +kernel
theorem dX4_near_82 : decode cX4_near 82 = .ok (.iload 4, 2) := by decide +kernel
theorem dX4_near_84 : decode cX4_near 84 = .ok (.iload 9, 2) := by decide +kernel
theorem dX4_near_86 : decode cX4_near 86 = .ok (.isub, 1) := by decide +kernel
theorem dX4_near_87 : decode cX4_near 87 = .ok (.lshl, 1) := by decide +kernel
theorem dX4_near_88 : decode cX4_near 88 = .ok (.lstore 10, 2) := by decide +kernel
theorem dX4_near_90 : decode cX4_near 90 = .ok (.goto 81, 3) := by decide +kernel
theorem dX4_near_93 : decode cX4_near 93 = .ok (.iload 9, 2) := by decide +kernel
theorem dX4_near_95 : decode cX4_near 95 = .ok (.iload 4, 2) := by decide +kernel
theorem dX4_near_97 : decode cX4_near 97 = .ok (.isub, 1) := by decide +kernel
theorem dX4_near_98 : decode cX4_near 98 = .ok (.bipush 63, 2) := by decide +kernel
theorem dX4_near_100 : decode cX4_near 100 = .ok (.if_icmp .le 9, 3) := by decide +kernel
theorem dX4_near_103 : decode cX4_near 103 = .ok (.lconst 0, 1) := by decide +kernel
theorem dX4_near_104 : decode cX4_near 104 = .ok (.lstore 10, 2) := by decide +kernel
theorem dX4_near_106 : decode cX4_near 106 = .ok (.goto 65, 3) := by decide +kernel
theorem dX4_near_109 : decode cX4_near 109 = .ok (.iload 9, 2) := by decide +kernel
theorem dX4_near_111 : decode cX4_near 111 = .ok (.iload 4, 2) := by decide +kernel
theorem dX4_near_113 : decode cX4_near 113 = .ok (.isub, 1) := by decide +kernel
theorem dX4_near_114 : decode cX4_near 114 = .ok (.istore 12, 2) := by decide +kernel
theorem dX4_near_116 : decode cX4_near 116 = .ok (.lload_n 2, 1) := by decide +kernel
theorem dX4_near_117 : decode cX4_near 117 = .ok (.iload 12, 2) := by decide +kernel
theorem dX4_near_119 : decode cX4_near 119 = .ok (.lushr, 1) := by decide +kernel
theorem dX4_near_120 : decode cX4_near 120 = .ok (.lstore 10, 2) := by decide +kernel
theorem dX4_near_122 : decode cX4_near 122 = .ok (.lload_n 2, 1) := by decide +kernel
theorem dX4_near_123 : decode cX4_near 123 = .ok (.lconst 1, 1) := by decide +kernel
theorem dX4_near_124 : decode cX4_near 124 = .ok (.iload 12, 2) := by decide +kernel
theorem dX4_near_126 : decode cX4_near 126 = .ok (.lshl, 1) := by decide +kernel
theorem dX4_near_127 : decode cX4_near 127 = .ok (.lconst 1, 1) := by decide +kernel
theorem dX4_near_128 : decode cX4_near 128 = .ok (.lsub, 1) := by decide +kernel
theorem dX4_near_129 : decode cX4_near 129 = .ok (.land, 1) := by decide +kernel
theorem dX4_near_130 : decode cX4_near 130 = .ok (.lstore 13, 2) := by decide +kernel
theorem dX4_near_132 : decode cX4_near 132 = .ok (.lconst 1, 1) := by decide +kernel
theorem dX4_near_133 : decode cX4_near 133 = .ok (.iload 12, 2) := by decide +kernel
theorem dX4_near_135 : decode cX4_near 135 = .ok (.iconst 1, 1) := by decide +kernel
theorem dX4_near_136 : decode cX4_near 136 = .ok (.isub, 1) := by decide +kernel
theorem dX4_near_137 : decode cX4_near 137 = .ok (.lshl, 1) := by decide +kernel
theorem dX4_near_138 : decode cX4_near 138 = .ok (.lstore 15, 2) := by decide +kernel
theorem dX4_near_140 : decode cX4_near 140 = .ok (.lload 13, 2) := by decide +kernel
theorem dX4_near_142 : decode cX4_near 142 = .ok (.lload 15, 2) := by decide +kernel
theorem dX4_near_144 : decode cX4_near 144 = .ok (.lcmp, 1) := by decide +kernel
theorem dX4_near_145 : decode cX4_near 145 = .ok (.ifCond .gt 20, 3) := by decide +kernel
theorem dX4_near_148 : decode cX4_near 148 = .ok (.lload 13, 2) := by decide +kernel
theorem dX4_near_150 : decode cX4_near 150 = .ok (.lload 15, 2) := by decide +kernel
theorem dX4_near_152 : decode cX4_near 152 = .ok (.lcmp, 1) := by decide +kernel
theorem dX4_near_153 : decode cX4_near 153 = .ok (.ifCond .ne 18, 3) := by decide +kernel
theorem dX4_near_156 : decode cX4_near 156 = .ok (.lload 10, 2) := by decide +kernel
theorem dX4_near_158 : decode cX4_near 158 = .ok (.lconst 1, 1) := by decide +kernel
theorem dX4_near_159 : decode cX4_near 159 = .ok (.land, 1) := by decide +kernel
theorem dX4_near_160 : decode cX4_near 160 = .ok (.lconst 1, 1) := by decide +kernel
theorem dX4_near_161 : decode cX4_near 161 = .ok (.lcmp, 1) := by decide +kernel
theorem dX4_near_162 : decode cX4_near 162 = .ok (.ifCond .ne 9, 3) := by decide +kernel
theorem dX4_near_165 : decode cX4_near 165 = .ok (.lload 10, 2) := by decide +kernel
theorem dX4_near_167 : decode cX4_near 167 = .ok (.lconst 1, 1) := by decide +kernel
theorem dX4_near_168 : decode cX4_near 168 = .ok (.ladd, 1) := by decide +kernel
theorem dX4_near_169 : decode cX4_near 169 = .ok (.lstore 10, 2) := by decide +kernel
theorem dX4_near_171 : decode cX4_near 171 = .ok (.lload 10, 2) := by decide +kernel
theorem dX4_near_173 : decode cX4_near 173 = .ok (.lconst 1, 1) := by decide +kernel
theorem dX4_near_174 : decode cX4_near 174 = .ok (.iload 7, 2) := by decide +kernel
theorem dX4_near_176 : decode cX4_near 176 = .ok (.lshl, 1) := by decide +kernel
theorem dX4_near_177 : decode cX4_near 177 = .ok (.lcmp, 1) := by decide +kernel
theorem dX4_near_178 : decode cX4_near 178 = .ok (.ifCond .ne 12, 3) := by decide +kernel
theorem dX4_near_181 : decode cX4_near 181 = .ok (.lload 10, 2) := by decide +kernel
theorem dX4_near_183 : decode cX4_near 183 = .ok (.iconst 1, 1) := by decide +kernel
theorem dX4_near_184 : decode cX4_near 184 = .ok (.lshr, 1) := by decide +kernel
theorem dX4_near_185 : decode cX4_near 185 = .ok (.lstore 10, 2) := by decide +kernel
theorem dX4_near_187 : decode cX4_near 187 = .ok (.iinc 9 1, 3) := by decide +kernel
theorem dX4_near_190 : decode cX4_near 190 = .ok (.iload 9, 2) := by decide +kernel
theorem dX4_near_192 : decode cX4_near 192 = .ok (.iload_n 0, 1) := by decide +kernel
theorem dX4_near_193 : decode cX4_near 193 = .ok (.iconst 2, 1) := by decide +kernel
theorem dX4_near_194 : decode cX4_near 194 = .ok (.if_icmp .ne 8, 3) := by decide +kernel
theorem dX4_near_197 : decode cX4_near 197 = .ok (.bipush 104, 2) := by decide +kernel
theorem dX4_near_199 : decode cX4_near 199 = .ok (.goto 6, 3) := by decide +kernel
theorem dX4_near_202 : decode cX4_near 202 = .ok (.sipush 971, 3) := by decide +kernel
theorem dX4_near_205 : decode cX4_near 205 = .ok (.if_icmp .le 15, 3) := by decide +kernel
theorem dX4_near_208 : decode cX4_near 208 = .ok (.iload_n 0, 1) := by decide +kernel
theorem dX4_near_209 : decode cX4_near 209 = .ok (.lload 5, 2) := by decide +kernel
theorem dX4_near_211 : decode cX4_near 211 = .ok (.iload_n 0, 1) := by decide +kernel
theorem dX4_near_212 : decode cX4_near 212 = .ok (.invokestatic 90, 3) := by decide +kernel
theorem dX4_near_215 : decode cX4_near 215 = .ok (.lor, 1) := by decide +kernel
theorem dX4_near_216 : decode cX4_near 216 = .ok (.invokestatic 97, 3) := by decide +kernel
theorem dX4_near_219 : decode cX4_near 219 = .ok (.lreturn, 1) := by decide +kernel
theorem dX4_near_220 : decode cX4_near 220 = .ok (.lconst 1, 1) := by decide +kernel
theorem dX4_near_221 : decode cX4_near 221 = .ok (.iload 7, 2) := by decide +kernel
theorem dX4_near_223 : decode cX4_near 223 = .ok (.iconst 1, 1) := by decide +kernel
theorem dX4_near_224 : decode cX4_near 224 = .ok (.isub, 1) := by decide +kernel
theorem dX4_near_225 : decode cX4_near 225 = .ok (.lshl, 1) := by decide +kernel
theorem dX4_near_226 : decode cX4_near 226 = .ok (.lstore 12, 2) := by decide +kernel
theorem dX4_near_228 : decode cX4_near 228 = .ok (.lload 10, 2) := by decide +kernel
theorem dX4_near_230 : decode cX4_near 230 = .ok (.lload 12, 2) := by decide +kernel
theorem dX4_near_232 : decode cX4_near 232 = .ok (.lcmp, 1) := by decide +kernel
theorem dX4_near_233 : decode cX4_near 233 = .ok (.ifCond .ge 13, 3) := by decide +kernel
theorem dX4_near_236 : decode cX4_near 236 = .ok (.iload_n 0, 1) := by decide +kernel
theorem dX4_near_237 : decode cX4_near 237 = .ok (.lload 5, 2) := by decide +kernel
theorem dX4_near_239 : decode cX4_near 239 = .ok (.lload 10, 2) := by decide +kernel
theorem dX4_near_241 : decode cX4_near 241 = .ok (.lor, 1) := by decide +kernel
theorem dX4_near_242 : decode cX4_near 242 = .ok (.invokestatic 97, 3) := by decide +kernel
theorem dX4_near_245 : decode cX4_near 245 = .ok (.lreturn, 1) := by decide +kernel
theorem dX4_near_246 : decode cX4_near 246 = .ok (.iload_n 0, 1) := by decide +kernel
theorem dX4_near_247 : decode cX4_near 247 = .ok (.lload 5, 2) := by decide +kernel
theorem dX4_near_249 : decode cX4_near 249 = .ok (.iload 9, 2) := by decide +kernel
theorem dX4_near_251 : decode cX4_near 251 = .ok (.iload 8, 2) := by decide +kernel
theorem dX4_near_253 : decode cX4_near 253 = .ok (.isub, 1) := by decide +kernel
theorem dX4_near_254 : decode cX4_near 254 = .ok (.iconst 1, 1) := by decide +kernel
theorem dX4_near_255 : decode cX4_near 255 = .ok (.iadd, 1) := by decide +kernel
theorem dX4_near_256 : decode cX4_near 256 = .ok (.i2l, 1) := by decide +kernel
theorem dX4_near_257 : decode cX4_near 257 = .ok (.iload 7, 2) := by decide +kernel
theorem dX4_near_259 : decode cX4_near 259 = .ok (.iconst 1, 1) := by decide +kernel
theorem dX4_near_260 : decode cX4_near 260 = .ok (.isub, 1) := by decide +kernel
theorem dX4_near_261 : decode cX4_near 261 = .ok (.lshl, 1) := by decide +kernel
theorem dX4_near_262 : decode cX4_near 262 = .ok (.lor, 1) := by decide +kernel
theorem dX4_near_263 : decode cX4_near 263 = .ok (.lload 10, 2) := by decide +kernel
theorem dX4_near_265 : decode cX4_near 265 = .ok (.lload 12, 2) := by decide +kernel
theorem dX4_near_267 : decode cX4_near 267 = .ok (.lsub, 1) := by decide +kernel
theorem dX4_near_268 : decode cX4_near 268 = .ok (.lor, 1) := by decide +kernel
theorem dX4_near_269 : decode cX4_near 269 = .ok (.invokestatic 97, 3) := by decide +kernel
theorem dX4_near_272 : decode cX4_near 272 = .ok (.lreturn, 1) := by decide +kernel
set_option maxRecDepth 20000 in
theorem ggX4_held_X4_bitsOf : GoodIn wsX4_held wsX4_bitsOf := goodIn_r _ [6] (by decide +kernel) (by decide +kernel)
set_option maxRecDepth 20000 in
theorem gX4_held_X4_bitsOf : GoodIn wsX4_held (va_wsS RX4 127 yX4_bitsOf wsX4_bitsOf) := goodIn_app (goodIn_of _ (by decide +kernel)) ggX4_held_X4_bitsOf
theorem dX4_held_0 : decode cX4_held 0 = .ok (.iload_n 0, 1) := by decide +kernel
theorem dX4_held_1 : decode cX4_held 1 = .ok (.ifCond .ne 9, 3) := by decide +kernel
theorem dX4_held_4 : decode cX4_held 4 = .ok (.ldc2_w 131, 3) := by decide +kernel
theorem dX4_held_7 : decode cX4_held 7 = .ok (.goto 6, 3) := by decide +kernel
theorem dX4_held_10 : decode cX4_held 10 = .ok (.ldc2_w 133, 3) := by decide +kernel
theorem dX4_held_13 : decode cX4_held 13 = .ok (.lstore 5, 2) := by decide +kernel
theorem dX4_held_15 : decode cX4_held 15 = .ok (.iload 4, 2) := by decide +kernel
theorem dX4_held_17 : decode cX4_held 17 = .ok (.ifCond .le 19, 3) := by decide +kernel
theorem dX4_held_20 : decode cX4_held 20 = .ok (.lload_n 2, 1) := by decide +kernel
theorem dX4_held_21 : decode cX4_held 21 = .ok (.invokestatic 127, 3) := by decide +kernel
theorem dX4_held_24 : decode cX4_held 24 = .ok (.iload 4, 2) := by decide +kernel
theorem dX4_held_26 : decode cX4_held 26 = .ok (.iadd, 1) := by decide +kernel
theorem dX4_held_27 : decode cX4_held 27 = .ok (.bipush 63, 2) := by decide +kernel
theorem dX4_held_29 : decode cX4_held 29 = .ok (.if_icmp .le 7, 3) := by decide +kernel
theorem dX4_held_32 : decode cX4_held 32 = .ok (.iconst 1, 1) := by decide +kernel
theorem dX4_held_33 : decode cX4_held 33 = .ok (.goto 4, 3) := by decide +kernel
theorem dX4_held_36 : decode cX4_held 36 = .ok (.iconst 0, 1) := by decide +kernel
theorem dX4_held_37 : decode cX4_held 37 = .ok (.istore 7, 2) := by decide +kernel
theorem dX4_held_39 : decode cX4_held 39 = .ok (.iload 7, 2) := by decide +kernel
theorem dX4_held_41 : decode cX4_held 41 = .ok (.ifCond .eq 8, 3) := by decide +kernel
theorem dX4_held_44 : decode cX4_held 44 = .ok (.lload 5, 2) := by decide +kernel
theorem dX4_held_46 : decode cX4_held 46 = .ok (.goto 31, 3) := by decide +kernel
theorem dX4_held_49 : decode cX4_held 49 = .ok (.iload 4, 2) := by decide +kernel
theorem dX4_held_51 : decode cX4_held 51 = .ok (.ifCond .lt 10, 3) := by decide +kernel
theorem dX4_held_54 : decode cX4_held 54 = .ok (.lload_n 2, 1) := by decide +kernel
theorem dX4_held_55 : decode cX4_held 55 = .ok (.iload 4, 2) := by decide +kernel
theorem dX4_held_57 : decode cX4_held 57 = .ok (.lshl, 1) := by decide +kernel
theorem dX4_held_58 : decode cX4_held 58 = .ok (.goto 19, 3) := by decide +kernel
theorem dX4_held_61 : decode cX4_held 61 = .ok (.iload 4, 2) := by decide +kernel
theorem dX4_held_63 : decode cX4_held 63 = .ok (.bipush (-63), 2) := by decide +kernel
theorem dX4_held_65 : decode cX4_held 65 = .ok (.if_icmp .ge 7, 3) := by decide +kernel
theorem dX4_held_68 : decode cX4_held 68 = .ok (.lconst 0, 1) := by decide +kernel
theorem dX4_held_69 : decode cX4_held 69 = .ok (.goto 8, 3) := by decide +kernel
theorem dX4_held_72 : decode cX4_held 72 = .ok (.lload_n 2, 1) := by decide +kernel
theorem dX4_held_73 : decode cX4_held 73 = .ok (.iload 4, 2) := by decide +kernel
theorem dX4_held_75 : decode cX4_held 75 = .ok (.ineg, 1) := by decide +kernel
theorem dX4_held_76 : decode cX4_held 76 = .ok (.lshr, 1) := by decide +kernel
theorem dX4_held_77 : decode cX4_held 77 = .ok (.lstore 8, 2) := by decide +kernel
theorem dX4_held_79 : decode cX4_held 79 = .ok (.iload_n 1, 1) := by decide +kernel
theorem dX4_held_80 : decode cX4_held 80 = .ok (.ifCond .eq 28, 3) := by decide +kernel
theorem dX4_held_83 : decode cX4_held 83 = .ok (.iload 7, 2) := by decide +kernel
theorem dX4_held_85 : decode cX4_held 85 = .ok (.ifCond .ne 11, 3) := by decide +kernel
theorem dX4_held_88 : decode cX4_held 88 = .ok (.lload 8, 2) := by decide +kernel
theorem dX4_held_90 : decode cX4_held 90 = .ok (.lload 5, 2) := by decide +kernel
theorem dX4_held_92 : decode cX4_held 92 = .ok (.lcmp, 1) := by decide +kernel
theorem dX4_held_93 : decode cX4_held 93 = .ok (.ifCond .le 11, 3) := by decide +kernel
theorem dX4_held_96 : decode cX4_held 96 = .ok (.lload 5, 2) := by decide +kernel
theorem dX4_held_98 : decode cX4_held 98 = .ok (.lneg, 1) := by decide +kernel
theorem dX4_held_99 : decode cX4_held 99 = .ok (.lconst 1, 1) := by decide +kernel
theorem dX4_held_100 : decode cX4_held 100 = .ok (.lsub, 1) := by decide +kernel
theorem dX4_held_101 : decode cX4_held 101 = .ok (.goto 6, 3) := by decide +kernel
theorem dX4_held_104 : decode cX4_held 104 = .ok (.lload 8, 2) := by decide +kernel
theorem dX4_held_106 : decode cX4_held 106 = .ok (.lneg, 1) := by decide +kernel
theorem dX4_held_107 : decode cX4_held 107 = .ok (.lreturn, 1) := by decide +kernel
theorem dX4_held_108 : decode cX4_held 108 = .ok (.lload 8, 2) := by decide +kernel
theorem dX4_held_110 : decode cX4_held 110 = .ok (.lload 5, 2) := by decide +kernel
theorem dX4_held_112 : decode cX4_held 112 = .ok (.lcmp, 1) := by decide +kernel
theorem dX4_held_113 : decode cX4_held 113 = .ok (.ifCond .le 8, 3) := by decide +kernel
theorem dX4_held_116 : decode cX4_held 116 = .ok (.lload 5, 2) := by decide +kernel
theorem dX4_held_118 : decode cX4_held 118 = .ok (.goto 5, 3) := by decide +kernel
theorem dX4_held_121 : decode cX4_held 121 = .ok (.lload 8, 2) := by decide +kernel
theorem dX4_held_123 : decode cX4_held 123 = .ok (.lreturn, 1) := by decide +kernel
set_option maxRecDepth 20000 in
theorem ggX4_castTo_X4_near : GoodIn wsX4_castTo wsX4_near := goodIn_r _ [4, 5, 6, 3, 7, 8, 9, 10, 11, 12, 13, 14, 15, 16, 17, 18, 19, 20, 21, 22, 23] (by decide +kernel) (by decide +kernel)
set_option maxRecDepth 20000 in
theorem gX4_castTo_X4_near : GoodIn wsX4_castTo (va_wsS RX4 135 yX4_near wsX4_near) := goodIn_app (goodIn_of _ (by decide +kernel)) ggX4_castTo_X4_near
set_option maxRecDepth 20000 in
theorem ggX4_castTo_X4_size : GoodIn wsX4_castTo wsX4_size := goodIn_r _ [26, 27, 28, 29, 3, 30, 31, 5, 6, 7, 8, 9] (by decide +kernel) (by decide +kernel)
set_option maxRecDepth 20000 in
theorem gX4_castTo_X4_size : GoodIn wsX4_castTo (va_wsS RX4 87 yX4_size wsX4_size) := goodIn_app (goodIn_of _ (by decide +kernel)) ggX4_castTo_X4_size
set_option maxRecDepth 20000 in
theorem ggX4_castTo_X4_below : GoodIn wsX4_castTo wsX4_below := goodIn_r _ [34, 5, 6, 3, 7, 8, 9] (by decide +kernel) (by decide +kernel)
set_option maxRecDepth 20000 in
theorem gX4_castTo_X4_below : GoodIn wsX4_castTo (va_wsS RX4 93 yX4_below wsX4_below) := goodIn_app (goodIn_of _ (by decide +kernel)) ggX4_castTo_X4_below
set_option maxRecDepth 20000 in
theorem ggX4_castTo_X4_fractionBits : GoodIn wsX4_castTo wsX4_fractionBits := goodIn_r _ [15] (by decide +kernel) (by decide +kernel)
set_option maxRecDepth 20000 in
theorem gX4_castTo_X4_fractionBits : GoodIn wsX4_castTo (va_wsS RX4 103 yX4_fractionBits wsX4_fractionBits) := goodIn_app (goodIn_of _ (by decide +kernel)) ggX4_castTo_X4_fractionBits
set_option maxRecDepth 20000 in
theorem ggX4_castTo_X4_endless : GoodIn wsX4_castTo wsX4_endless := goodIn_r _ [21, 22, 23] (by decide +kernel) (by decide +kernel)
set_option maxRecDepth 20000 in
theorem gX4_castTo_X4_endless : GoodIn wsX4_castTo (va_wsS RX4 90 yX4_endless wsX4_endless) := goodIn_app (goodIn_of _ (by decide +kernel)) ggX4_castTo_X4_endless
set_option maxRecDepth 20000 in
theorem ggX4_castTo_X4_signBit : GoodIn wsX4_castTo wsX4_signBit := goodIn_r _ [7, 8, 9] (by decide +kernel) (by decide +kernel)
set_option maxRecDepth 20000 in
theorem gX4_castTo_X4_signBit : GoodIn wsX4_castTo (va_wsS RX4 81 yX4_signBit wsX4_signBit) := goodIn_app (goodIn_of _ (by decide +kernel)) ggX4_castTo_X4_signBit
set_option maxRecDepth 20000 in
theorem ggX4_castTo_X4_asCode : GoodIn wsX4_castTo wsX4_asCode := goodIn_r _ [12] (by decide +kernel) (by decide +kernel)
set_option maxRecDepth 20000 in
theorem gX4_castTo_X4_asCode : GoodIn wsX4_castTo (va_wsS RX4 97 yX4_asCode wsX4_asCode) := goodIn_app (goodIn_of _ (by decide +kernel)) ggX4_castTo_X4_asCode
set_option maxRecDepth 20000 in
theorem ggX4_castTo_X4_held : GoodIn wsX4_castTo wsX4_held := goodIn_r _ [37, 38, 39, 16, 17, 3, 18] (by decide +kernel) (by decide +kernel)
set_option maxRecDepth 20000 in
theorem gX4_castTo_X4_held : GoodIn wsX4_castTo (va_wsS RX4 139 yX4_held wsX4_held) := goodIn_app (goodIn_of _ (by decide +kernel)) ggX4_castTo_X4_held
theorem dX4_castTo_0 : decode cX4_castTo 0 = .ok (.iload_n 0, 1) := by decide +kernel
theorem dX4_castTo_1 : decode cX4_castTo 1 = .ok (.iload_n 1, 1) := by decide +kernel
theorem dX4_castTo_2 : decode cX4_castTo 2 = .ok (.if_icmp .eq 12, 3) := by decide +kernel
theorem dX4_castTo_5 : decode cX4_castTo 5 = .ok (.iload_n 0, 1) := by decide +kernel
theorem dX4_castTo_6 : decode cX4_castTo 6 = .ok (.ifCond .ne 10, 3) := by decide +kernel
theorem dX4_castTo_9 : decode cX4_castTo 9 = .ok (.iload_n 1, 1) := by decide +kernel
theorem dX4_castTo_10 : decode cX4_castTo 10 = .ok (.iconst 1, 1) := by decide +kernel
theorem dX4_castTo_11 : decode cX4_castTo 11 = .ok (.if_icmp .ne 5, 3) := by decide +kernel
theorem dX4_castTo_14 : decode cX4_castTo 14 = .ok (.lload_n 2, 1) := by decide +kernel
theorem dX4_castTo_15 : decode cX4_castTo 15 = .ok (.lreturn, 1) := by decide +kernel
theorem dX4_castTo_16 : decode cX4_castTo 16 = .ok (.iload_n 0, 1) := by decide +kernel
theorem dX4_castTo_17 : decode cX4_castTo 17 = .ok (.iconst 2, 1) := by decide +kernel
theorem dX4_castTo_18 : decode cX4_castTo 18 = .ok (.if_icmp .ge 11, 3) := by decide +kernel
theorem dX4_castTo_21 : decode cX4_castTo 21 = .ok (.iload_n 1, 1) := by decide +kernel
theorem dX4_castTo_22 : decode cX4_castTo 22 = .ok (.ifCond .ne 7, 3) := by decide +kernel
theorem dX4_castTo_25 : decode cX4_castTo 25 = .ok (.lload_n 2, 1) := by decide +kernel
theorem dX4_castTo_26 : decode cX4_castTo 26 = .ok (.l2i, 1) := by decide +kernel
theorem dX4_castTo_27 : decode cX4_castTo 27 = .ok (.i2l, 1) := by decide +kernel
theorem dX4_castTo_28 : decode cX4_castTo 28 = .ok (.lreturn, 1) := by decide +kernel
theorem dX4_castTo_29 : decode cX4_castTo 29 = .ok (.iload_n 0, 1) := by decide +kernel
theorem dX4_castTo_30 : decode cX4_castTo 30 = .ok (.iconst 2, 1) := by decide +kernel
theorem dX4_castTo_31 : decode cX4_castTo 31 = .ok (.if_icmp .ge 32, 3) := by decide +kernel
theorem dX4_castTo_34 : decode cX4_castTo 34 = .ok (.iload_n 1, 1) := by decide +kernel
theorem dX4_castTo_35 : decode cX4_castTo 35 = .ok (.lload_n 2, 1) := by decide +kernel
theorem dX4_castTo_36 : decode cX4_castTo 36 = .ok (.lconst 0, 1) := by decide +kernel
theorem dX4_castTo_37 : decode cX4_castTo 37 = .ok (.lcmp, 1) := by decide +kernel
theorem dX4_castTo_38 : decode cX4_castTo 38 = .ok (.ifCond .ge 7, 3) := by decide +kernel
theorem dX4_castTo_41 : decode cX4_castTo 41 = .ok (.iconst 1, 1) := by decide +kernel
theorem dX4_castTo_42 : decode cX4_castTo 42 = .ok (.goto 4, 3) := by decide +kernel
theorem dX4_castTo_45 : decode cX4_castTo 45 = .ok (.iconst 0, 1) := by decide +kernel
theorem dX4_castTo_46 : decode cX4_castTo 46 = .ok (.lload_n 2, 1) := by decide +kernel
theorem dX4_castTo_47 : decode cX4_castTo 47 = .ok (.lconst 0, 1) := by decide +kernel
theorem dX4_castTo_48 : decode cX4_castTo 48 = .ok (.lcmp, 1) := by decide +kernel
theorem dX4_castTo_49 : decode cX4_castTo 49 = .ok (.ifCond .ge 8, 3) := by decide +kernel
theorem dX4_castTo_52 : decode cX4_castTo 52 = .ok (.lload_n 2, 1) := by decide +kernel
theorem dX4_castTo_53 : decode cX4_castTo 53 = .ok (.lneg, 1) := by decide +kernel
theorem dX4_castTo_54 : decode cX4_castTo 54 = .ok (.goto 4, 3) := by decide +kernel
theorem dX4_castTo_57 : decode cX4_castTo 57 = .ok (.lload_n 2, 1) := by decide +kernel
theorem dX4_castTo_58 : decode cX4_castTo 58 = .ok (.iconst 0, 1) := by decide +kernel
theorem dX4_castTo_59 : decode cX4_castTo 59 = .ok (.invokestatic 135, 3) := by decide +kernel
theorem dX4_castTo_62 : decode cX4_castTo 62 = .ok (.lreturn, 1) := by decide +kernel
theorem dX4_castTo_63 : decode cX4_castTo 63 = .ok (.iload_n 0, 1) := by decide +kernel
theorem dX4_castTo_64 : decode cX4_castTo 64 = .ok (.lload_n 2, 1) := by decide +kernel
theorem dX4_castTo_65 : decode cX4_castTo 65 = .ok (.invokestatic 87, 3) := by decide +kernel
theorem dX4_castTo_68 : decode cX4_castTo 68 = .ok (.lstore 4, 2) := by decide +kernel
theorem dX4_castTo_70 : decode cX4_castTo 70 = .ok (.iload_n 0, 1) := by decide +kernel
theorem dX4_castTo_71 : decode cX4_castTo 71 = .ok (.lload_n 2, 1) := by decide +kernel
theorem dX4_castTo_72 : decode cX4_castTo 72 = .ok (.invokestatic 93, 3) := by decide +kernel
theorem dX4_castTo_75 : decode cX4_castTo 75 = .ok (.istore 6, 2) := by decide +kernel
theorem dX4_castTo_77 : decode cX4_castTo 77 = .ok (.iload_n 0, 1) := by decide +kernel
theorem dX4_castTo_78 : decode cX4_castTo 78 = .ok (.invokestatic 103, 3) := by decide +kernel
theorem dX4_castTo_81 : decode cX4_castTo 81 = .ok (.istore 7, 2) := by decide +kernel
theorem dX4_castTo_83 : decode cX4_castTo 83 = .ok (.iload_n 0, 1) := by decide +kernel
theorem dX4_castTo_84 : decode cX4_castTo 84 = .ok (.iconst 2, 1) := by decide +kernel
theorem dX4_castTo_85 : decode cX4_castTo 85 = .ok (.if_icmp .ne 9, 3) := by decide +kernel
theorem dX4_castTo_88 : decode cX4_castTo 88 = .ok (.sipush (-149), 3) := by decide +kernel
theorem dX4_castTo_91 : decode cX4_castTo 91 = .ok (.goto 6, 3) := by decide +kernel
theorem dX4_castTo_94 : decode cX4_castTo 94 = .ok (.sipush (-1074), 3) := by decide +kernel
theorem dX4_castTo_97 : decode cX4_castTo 97 = .ok (.istore 8, 2) := by decide +kernel
theorem dX4_castTo_99 : decode cX4_castTo 99 = .ok (.lload 4, 2) := by decide +kernel
theorem dX4_castTo_101 : decode cX4_castTo 101 = .ok (.iload 7, 2) := by decide +kernel
theorem dX4_castTo_103 : decode cX4_castTo 103 = .ok (.lshr, 1) := by decide +kernel
theorem dX4_castTo_104 : decode cX4_castTo 104 = .ok (.l2i, 1) := by decide +kernel
theorem dX4_castTo_105 : decode cX4_castTo 105 = .ok (.istore 9, 2) := by decide +kernel
theorem dX4_castTo_107 : decode cX4_castTo 107 = .ok (.lload 4, 2) := by decide +kernel
theorem dX4_castTo_109 : decode cX4_castTo 109 = .ok (.iload_n 0, 1) := by decide +kernel
theorem dX4_castTo_110 : decode cX4_castTo 110 = .ok (.invokestatic 90, 3) := by decide +kernel
theorem dX4_castTo_113 : decode cX4_castTo 113 = .ok (.lcmp, 1) := by decide +kernel
theorem dX4_castTo_114 : decode cX4_castTo 114 = .ok (.ifCond .ne 43, 3) := by decide +kernel
theorem dX4_castTo_117 : decode cX4_castTo 117 = .ok (.iload_n 1, 1) := by decide +kernel
theorem dX4_castTo_118 : decode cX4_castTo 118 = .ok (.iconst 1, 1) := by decide +kernel
theorem dX4_castTo_119 : decode cX4_castTo 119 = .ok (.if_icmp .le 28, 3) := by decide +kernel
theorem dX4_castTo_122 : decode cX4_castTo 122 = .ok (.iload_n 1, 1) := by decide +kernel
theorem dX4_castTo_123 : decode cX4_castTo 123 = .ok (.iload_n 1, 1) := by decide +kernel
theorem dX4_castTo_124 : decode cX4_castTo 124 = .ok (.invokestatic 90, 3) := by decide +kernel
theorem dX4_castTo_127 : decode cX4_castTo 127 = .ok (.iload 6, 2) := by decide +kernel
theorem dX4_castTo_129 : decode cX4_castTo 129 = .ok (.ifCond .eq 10, 3) := by decide +kernel
theorem dX4_castTo_132 : decode cX4_castTo 132 = .ok (.iload_n 1, 1) := by decide +kernel
theorem dX4_castTo_133 : decode cX4_castTo 133 = .ok (.invokestatic 81, 3) := by decide +kernel
theorem dX4_castTo_136 : decode cX4_castTo 136 = .ok (.goto 4, 3) := by decide +kernel
theorem dX4_castTo_139 : decode cX4_castTo 139 = .ok (.lconst 0, 1) := by decide +kernel
theorem dX4_castTo_140 : decode cX4_castTo 140 = .ok (.lor, 1) := by decide +kernel
theorem dX4_castTo_141 : decode cX4_castTo 141 = .ok (.invokestatic 97, 3) := by decide +kernel
theorem dX4_castTo_144 : decode cX4_castTo 144 = .ok (.goto 12, 3) := by decide +kernel
theorem dX4_castTo_147 : decode cX4_castTo 147 = .ok (.iload_n 1, 1) := by decide +kernel
theorem dX4_castTo_148 : decode cX4_castTo 148 = .ok (.iload 6, 2) := by decide +kernel
theorem dX4_castTo_150 : decode cX4_castTo 150 = .ok (.lconst 1, 1) := by decide +kernel
theorem dX4_castTo_151 : decode cX4_castTo 151 = .ok (.bipush 100, 2) := by decide +kernel
theorem dX4_castTo_153 : decode cX4_castTo 153 = .ok (.invokestatic 139, 3) := by decide +kernel
theorem dX4_castTo_156 : decode cX4_castTo 156 = .ok (.lreturn, 1) := by decide +kernel
theorem dX4_castTo_157 : decode cX4_castTo 157 = .ok (.iload 9, 2) := by decide +kernel
theorem dX4_castTo_159 : decode cX4_castTo 159 = .ok (.ifCond .ne 8, 3) := by decide +kernel
theorem dX4_castTo_162 : decode cX4_castTo 162 = .ok (.lload 4, 2) := by decide +kernel
theorem dX4_castTo_164 : decode cX4_castTo 164 = .ok (.goto 17, 3) := by decide +kernel
theorem dX4_castTo_167 : decode cX4_castTo 167 = .ok (.lload 4, 2) := by decide +kernel
theorem dX4_castTo_169 : decode cX4_castTo 169 = .ok (.iload 9, 2) := by decide +kernel
theorem dX4_castTo_171 : decode cX4_castTo 171 = .ok (.i2l, 1) := by decide +kernel
theorem dX4_castTo_172 : decode cX4_castTo 172 = .ok (.iload 7, 2) := by decide +kernel
theorem dX4_castTo_174 : decode cX4_castTo 174 = .ok (.lshl, 1) := by decide +kernel
theorem dX4_castTo_175 : decode cX4_castTo 175 = .ok (.lsub, 1) := by decide +kernel
theorem dX4_castTo_176 : decode cX4_castTo 176 = .ok (.lconst 1, 1) := by decide +kernel
theorem dX4_castTo_177 : decode cX4_castTo 177 = .ok (.iload 7, 2) := by decide +kernel
theorem dX4_castTo_179 : decode cX4_castTo 179 = .ok (.lshl, 1) := by decide +kernel
theorem dX4_castTo_180 : decode cX4_castTo 180 = .ok (.ladd, 1) := by decide +kernel
theorem dX4_castTo_181 : decode cX4_castTo 181 = .ok (.lstore 10, 2) := by decide +kernel
theorem dX4_castTo_183 : decode cX4_castTo 183 = .ok (.iload 9, 2) := by decide +kernel
theorem dX4_castTo_185 : decode cX4_castTo 185 = .ok (.ifCond .ne 8, 3) := by decide +kernel
theorem dX4_castTo_188 : decode cX4_castTo 188 = .ok (.iload 8, 2) := by decide +kernel
theorem dX4_castTo_190 : decode cX4_castTo 190 = .ok (.goto 10, 3) := by decide +kernel
theorem dX4_castTo_193 : decode cX4_castTo 193 = .ok (.iload 8, 2) := by decide +kernel
theorem dX4_castTo_195 : decode cX4_castTo 195 = .ok (.iload 9, 2) := by decide +kernel
theorem dX4_castTo_197 : decode cX4_castTo 197 = .ok (.iadd, 1) := by decide +kernel
theorem dX4_castTo_198 : decode cX4_castTo 198 = .ok (.iconst 1, 1) := by decide +kernel
theorem dX4_castTo_199 : decode cX4_castTo 199 = .ok (.isub, 1) := by decide +kernel
theorem dX4_castTo_200 : decode cX4_castTo 200 = .ok (.istore 12, 2) := by decide +kernel
theorem dX4_castTo_202 : decode cX4_castTo 202 = .ok (.iload_n 1, 1) := by decide +kernel
theorem dX4_castTo_203 : decode cX4_castTo 203 = .ok (.iconst 1, 1) := by decide +kernel
theorem dX4_castTo_204 : decode cX4_castTo 204 = .ok (.if_icmp .le 16, 3) := by decide +kernel
theorem dX4_castTo_207 : decode cX4_castTo 207 = .ok (.iload_n 1, 1) := by decide +kernel
theorem dX4_castTo_208 : decode cX4_castTo 208 = .ok (.iload 6, 2) := by decide +kernel
theorem dX4_castTo_210 : decode cX4_castTo 210 = .ok (.lload 10, 2) := by decide +kernel
theorem dX4_castTo_212 : decode cX4_castTo 212 = .ok (.iload 12, 2) := by decide +kernel
theorem dX4_castTo_214 : decode cX4_castTo 214 = .ok (.invokestatic 135, 3) := by decide +kernel
theorem dX4_castTo_217 : decode cX4_castTo 217 = .ok (.goto 13, 3) := by decide +kernel
theorem dX4_castTo_220 : decode cX4_castTo 220 = .ok (.iload_n 1, 1) := by decide +kernel
theorem dX4_castTo_221 : decode cX4_castTo 221 = .ok (.iload 6, 2) := by decide +kernel
theorem dX4_castTo_223 : decode cX4_castTo 223 = .ok (.lload 10, 2) := by decide +kernel
theorem dX4_castTo_225 : decode cX4_castTo 225 = .ok (.iload 12, 2) := by decide +kernel
theorem dX4_castTo_227 : decode cX4_castTo 227 = .ok (.invokestatic 139, 3) := by decide +kernel
theorem dX4_castTo_230 : decode cX4_castTo 230 = .ok (.lreturn, 1) := by decide +kernel
theorem dX4_refuses_0 : decode cX4_refuses 0 = .ok (.aload_n 0, 1) := by decide +kernel
theorem dX4_refuses_1 : decode cX4_refuses 1 = .ok (.iload_n 1, 1) := by decide +kernel
theorem dX4_refuses_2 : decode cX4_refuses 2 = .ok (.ifCond .eq 7, 3) := by decide +kernel
theorem dX4_refuses_5 : decode cX4_refuses 5 = .ok (.iconst 1, 1) := by decide +kernel
theorem dX4_refuses_6 : decode cX4_refuses 6 = .ok (.goto 12, 3) := by decide +kernel
theorem dX4_refuses_9 : decode cX4_refuses 9 = .ok (.iload_n 2, 1) := by decide +kernel
theorem dX4_refuses_10 : decode cX4_refuses 10 = .ok (.ifCond .eq 7, 3) := by decide +kernel
theorem dX4_refuses_13 : decode cX4_refuses 13 = .ok (.iconst 2, 1) := by decide +kernel
theorem dX4_refuses_14 : decode cX4_refuses 14 = .ok (.goto 4, 3) := by decide +kernel
end
section
theorem dX4_refuses_17 : decode cX4_refuses 17 = .ok (.iconst 0, 1) := by decide +kernel
theorem dX4_refuses_18 : decode cX4_refuses 18 = .ok (.putfield 63, 3) := by decide +kernel
theorem dX4_refuses_21 : decode cX4_refuses 21 = .ok (.aload_n 0, 1) := by decide +kernel
theorem dX4_refuses_22 : decode cX4_refuses 22 = .ok (.getfield 63, 3) := by decide +kernel
theorem dX4_refuses_25 : decode cX4_refuses 25 = .ok (.ifCond .eq 7, 3) := by decide +kernel
theorem dX4_refuses_28 : decode cX4_refuses 28 = .ok (.iconst 1, 1) := by decide +kernel
theorem dX4_refuses_29 : decode cX4_refuses 29 = .ok (.goto 4, 3) := by decide +kernel
theorem dX4_refuses_32 : decode cX4_refuses 32 = .ok (.iconst 0, 1) := by decide +kernel
theorem dX4_refuses_33 : decode cX4_refuses 33 = .ok (.ireturn, 1) := by decide +kernel
set_option maxRecDepth 20000 in
theorem ggX4_isPedal_X4_isWire : GoodIn wsX4_isPedal wsX4_isWire := goodIn_r _ [5] (by decide +kernel) (by decide +kernel)
set_option maxRecDepth 20000 in
theorem gX4_isPedal_X4_isWire : GoodIn wsX4_isPedal (va_wsS RX4 142 yX4_isWire wsX4_isWire) := goodIn_app (goodIn_of _ (by decide +kernel)) ggX4_isPedal_X4_isWire
theorem dX4_isPedal_0 : decode cX4_isPedal 0 = .ok (.iload_n 1, 1) := by decide +kernel
theorem dX4_isPedal_1 : decode cX4_isPedal 1 = .ok (.invokestatic 142, 3) := by decide +kernel
theorem dX4_isPedal_4 : decode cX4_isPedal 4 = .ok (.ifCond .eq 21, 3) := by decide +kernel
theorem dX4_isPedal_7 : decode cX4_isPedal 7 = .ok (.iload_n 2, 1) := by decide +kernel
theorem dX4_isPedal_8 : decode cX4_isPedal 8 = .ok (.ifCond .lt 17, 3) := by decide +kernel
theorem dX4_isPedal_11 : decode cX4_isPedal 11 = .ok (.iload_n 2, 1) := by decide +kernel
theorem dX4_isPedal_12 : decode cX4_isPedal 12 = .ok (.aload_n 0, 1) := by decide +kernel
theorem dX4_isPedal_13 : decode cX4_isPedal 13 = .ok (.getfield 26, 3) := by decide +kernel
theorem dX4_isPedal_16 : decode cX4_isPedal 16 = .ok (.iload_n 1, 1) := by decide +kernel
theorem dX4_isPedal_17 : decode cX4_isPedal 17 = .ok (.iaload, 1) := by decide +kernel
theorem dX4_isPedal_18 : decode cX4_isPedal 18 = .ok (.if_icmp .ge 7, 3) := by decide +kernel
theorem dX4_isPedal_21 : decode cX4_isPedal 21 = .ok (.iconst 1, 1) := by decide +kernel
theorem dX4_isPedal_22 : decode cX4_isPedal 22 = .ok (.goto 4, 3) := by decide +kernel
theorem dX4_isPedal_25 : decode cX4_isPedal 25 = .ok (.iconst 0, 1) := by decide +kernel
theorem dX4_isPedal_26 : decode cX4_isPedal 26 = .ok (.ireturn, 1) := by decide +kernel
theorem dX4_come_0 : decode cX4_come 0 = .ok (.aload_n 0, 1) := by decide +kernel
theorem dX4_come_1 : decode cX4_come 1 = .ok (.getfield 7, 3) := by decide +kernel
theorem dX4_come_4 : decode cX4_come 4 = .ok (.iload_n 1, 1) := by decide +kernel
theorem dX4_come_5 : decode cX4_come 5 = .ok (.laload, 1) := by decide +kernel
theorem dX4_come_6 : decode cX4_come 6 = .ok (.lload_n 2, 1) := by decide +kernel
theorem dX4_come_7 : decode cX4_come 7 = .ok (.lcmp, 1) := by decide +kernel
theorem dX4_come_8 : decode cX4_come 8 = .ok (.ifCond .eq 7, 3) := by decide +kernel
theorem dX4_come_11 : decode cX4_come 11 = .ok (.iconst 1, 1) := by decide +kernel
theorem dX4_come_12 : decode cX4_come 12 = .ok (.goto 4, 3) := by decide +kernel
theorem dX4_come_15 : decode cX4_come 15 = .ok (.iconst 0, 1) := by decide +kernel
theorem dX4_come_16 : decode cX4_come 16 = .ok (.istore 4, 2) := by decide +kernel
theorem dX4_come_18 : decode cX4_come 18 = .ok (.aload_n 0, 1) := by decide +kernel
theorem dX4_come_19 : decode cX4_come 19 = .ok (.getfield 7, 3) := by decide +kernel
theorem dX4_come_22 : decode cX4_come 22 = .ok (.iload_n 1, 1) := by decide +kernel
theorem dX4_come_23 : decode cX4_come 23 = .ok (.lload_n 2, 1) := by decide +kernel
theorem dX4_come_24 : decode cX4_come 24 = .ok (.lastore, 1) := by decide +kernel
theorem dX4_come_25 : decode cX4_come 25 = .ok (.aload_n 0, 1) := by decide +kernel
theorem dX4_come_26 : decode cX4_come 26 = .ok (.getfield 13, 3) := by decide +kernel
theorem dX4_come_29 : decode cX4_come 29 = .ok (.iload_n 1, 1) := by decide +kernel
theorem dX4_come_30 : decode cX4_come 30 = .ok (.lload_n 2, 1) := by decide +kernel
theorem dX4_come_31 : decode cX4_come 31 = .ok (.lastore, 1) := by decide +kernel
theorem dX4_come_32 : decode cX4_come 32 = .ok (.aload_n 0, 1) := by decide +kernel
theorem dX4_come_33 : decode cX4_come 33 = .ok (.getfield 22, 3) := by decide +kernel
theorem dX4_come_36 : decode cX4_come 36 = .ok (.iload_n 1, 1) := by decide +kernel
theorem dX4_come_37 : decode cX4_come 37 = .ok (.iconst 0, 1) := by decide +kernel
theorem dX4_come_38 : decode cX4_come 38 = .ok (.iastore, 1) := by decide +kernel
theorem dX4_come_39 : decode cX4_come 39 = .ok (.aload_n 0, 1) := by decide +kernel
theorem dX4_come_40 : decode cX4_come 40 = .ok (.getfield 33, 3) := by decide +kernel
theorem dX4_come_43 : decode cX4_come 43 = .ok (.iload_n 1, 1) := by decide +kernel
theorem dX4_come_44 : decode cX4_come 44 = .ok (.iconst 0, 1) := by decide +kernel
theorem dX4_come_45 : decode cX4_come 45 = .ok (.bastore, 1) := by decide +kernel
theorem dX4_come_46 : decode cX4_come 46 = .ok (.aload_n 0, 1) := by decide +kernel
theorem dX4_come_47 : decode cX4_come 47 = .ok (.getfield 29, 3) := by decide +kernel
theorem dX4_come_50 : decode cX4_come 50 = .ok (.iload_n 1, 1) := by decide +kernel
theorem dX4_come_51 : decode cX4_come 51 = .ok (.iconst 0, 1) := by decide +kernel
theorem dX4_come_52 : decode cX4_come 52 = .ok (.bastore, 1) := by decide +kernel
theorem dX4_come_53 : decode cX4_come 53 = .ok (.iload 4, 2) := by decide +kernel
theorem dX4_come_55 : decode cX4_come 55 = .ok (.ireturn, 1) := by decide +kernel
set_option maxRecDepth 20000 in
theorem ggX4_put_X4_isWire : GoodIn wsX4_put wsX4_isWire := goodIn_r _ [4] (by decide +kernel) (by decide +kernel)
set_option maxRecDepth 20000 in
theorem gX4_put_X4_isWire : GoodIn wsX4_put (va_wsS RX4 142 yX4_isWire wsX4_isWire) := goodIn_app (goodIn_of _ (by decide +kernel)) ggX4_put_X4_isWire
set_option maxRecDepth 20000 in
theorem ggX4_put_X4_coded : GoodIn wsX4_put wsX4_coded := goodIn_r _ [7, 8] (by decide +kernel) (by decide +kernel)
set_option maxRecDepth 20000 in
theorem gX4_put_X4_coded : GoodIn wsX4_put (va_wsS RX4 146 yX4_coded wsX4_coded) := goodIn_app (goodIn_of _ (by decide +kernel)) ggX4_put_X4_coded
set_option maxRecDepth 20000 in
theorem ggX4_put_X4_isIll : GoodIn wsX4_put wsX4_isIll := goodIn_r _ [11, 12, 13, 3, 14, 15, 16, 17, 18, 8, 19, 20, 21, 22, 23, 24, 25, 26, 27, 28] (by decide +kernel) (by decide +kernel)
set_option maxRecDepth 20000 in
theorem gX4_put_X4_isIll : GoodIn wsX4_put (va_wsS RX4 150 yX4_isIll wsX4_isIll) := goodIn_app (goodIn_of _ (by decide +kernel)) ggX4_put_X4_isIll
set_option maxRecDepth 20000 in
theorem ggX4_put_X4_refuses : GoodIn wsX4_put wsX4_refuses := goodIn_r _ [32, 33, 43, 44, 45, 46, 47, 48, 49, 50, 51, 52, 53, 54, 55, 56, 57, 58, 59, 60] (by decide +kernel) (by decide +kernel)
set_option maxRecDepth 20000 in
theorem gX4_put_X4_refuses : GoodIn wsX4_put (wsV RX4 153 RX4 yX4_refuses wsX4_refuses) := goodIn_app (goodIn_of _ (by decide +kernel)) ggX4_put_X4_refuses
set_option maxRecDepth 20000 in
theorem ggX4_put_X4_come : GoodIn wsX4_put wsX4_come := goodIn_r _ [37, 38, 39, 40, 41, 42, 43, 44, 45, 46, 47, 48, 49, 50, 51, 52, 53, 54, 55, 56, 57, 58, 59, 60] (by decide +kernel) (by decide +kernel)
set_option maxRecDepth 20000 in
theorem gX4_put_X4_come : GoodIn wsX4_put (wsV RX4 157 RX4 yX4_come wsX4_come) := goodIn_app (goodIn_of _ (by decide +kernel)) ggX4_put_X4_come
theorem dX4_put_0 : decode cX4_put 0 = .ok (.aload_n 0, 1) := by decide +kernel
theorem dX4_put_1 : decode cX4_put 1 = .ok (.iload_n 1, 1) := by decide +kernel
theorem dX4_put_2 : decode cX4_put 2 = .ok (.invokestatic 142, 3) := by decide +kernel
theorem dX4_put_5 : decode cX4_put 5 = .ok (.ifCond .eq 16, 3) := by decide +kernel
theorem dX4_put_8 : decode cX4_put 8 = .ok (.iload_n 1, 1) := by decide +kernel
theorem dX4_put_9 : decode cX4_put 9 = .ok (.iload_n 1, 1) := by decide +kernel
theorem dX4_put_10 : decode cX4_put 10 = .ok (.iload_n 2, 1) := by decide +kernel
theorem dX4_put_11 : decode cX4_put 11 = .ok (.iload_n 3, 1) := by decide +kernel
theorem dX4_put_12 : decode cX4_put 12 = .ok (.invokestatic 146, 3) := by decide +kernel
theorem dX4_put_15 : decode cX4_put 15 = .ok (.invokestatic 150, 3) := by decide +kernel
theorem dX4_put_18 : decode cX4_put 18 = .ok (.ifCond .eq 7, 3) := by decide +kernel
theorem dX4_put_21 : decode cX4_put 21 = .ok (.iconst 1, 1) := by decide +kernel
theorem dX4_put_22 : decode cX4_put 22 = .ok (.goto 4, 3) := by decide +kernel
theorem dX4_put_25 : decode cX4_put 25 = .ok (.iconst 0, 1) := by decide +kernel
theorem dX4_put_26 : decode cX4_put 26 = .ok (.iconst 0, 1) := by decide +kernel
theorem dX4_put_27 : decode cX4_put 27 = .ok (.invokevirtual 153, 3) := by decide +kernel
theorem dX4_put_30 : decode cX4_put 30 = .ok (.ifCond .eq 5, 3) := by decide +kernel
theorem dX4_put_33 : decode cX4_put 33 = .ok (.iconst 0, 1) := by decide +kernel
theorem dX4_put_34 : decode cX4_put 34 = .ok (.ireturn, 1) := by decide +kernel
theorem dX4_put_35 : decode cX4_put 35 = .ok (.aload_n 0, 1) := by decide +kernel
theorem dX4_put_36 : decode cX4_put 36 = .ok (.iload_n 1, 1) := by decide +kernel
theorem dX4_put_37 : decode cX4_put 37 = .ok (.iload_n 1, 1) := by decide +kernel
theorem dX4_put_38 : decode cX4_put 38 = .ok (.iload_n 2, 1) := by decide +kernel
theorem dX4_put_39 : decode cX4_put 39 = .ok (.iload_n 3, 1) := by decide +kernel
theorem dX4_put_40 : decode cX4_put 40 = .ok (.invokestatic 146, 3) := by decide +kernel
theorem dX4_put_43 : decode cX4_put 43 = .ok (.invokevirtual 157, 3) := by decide +kernel
theorem dX4_put_46 : decode cX4_put 46 = .ok (.ireturn, 1) := by decide +kernel
set_option maxRecDepth 20000 in
theorem ggX4_patch_X4_isWire : GoodIn wsX4_patch wsX4_isWire := goodIn_r _ [5] (by decide +kernel) (by decide +kernel)
set_option maxRecDepth 20000 in
theorem gX4_patch_X4_isWire : GoodIn wsX4_patch (va_wsS RX4 142 yX4_isWire wsX4_isWire) := goodIn_app (goodIn_of _ (by decide +kernel)) ggX4_patch_X4_isWire
set_option maxRecDepth 20000 in
theorem ggX4_patch_X4_refuses : GoodIn wsX4_patch wsX4_refuses := goodIn_r _ [9, 10, 60, 61, 62, 63, 64, 65, 66, 67, 68, 69, 70, 71, 72, 73, 74, 75, 76, 77] (by decide +kernel) (by decide +kernel)
set_option maxRecDepth 20000 in
theorem gX4_patch_X4_refuses : GoodIn wsX4_patch (wsV RX4 153 RX4 yX4_refuses wsX4_refuses) := goodIn_app (goodIn_of _ (by decide +kernel)) ggX4_patch_X4_refuses
set_option maxRecDepth 20000 in
theorem ggX4_patch_X4_castTo : GoodIn wsX4_patch wsX4_castTo := goodIn_r _ [13, 14, 15, 4, 16, 17, 18, 19, 20, 21, 22, 23, 24, 25, 26, 27, 28, 29, 30, 31, 32, 33, 34, 35, 36, 37, 38, 39, 40, 41, 42, 43, 44, 45, 46, 47, 48, 49, 50, 51] (by decide +kernel) (by decide +kernel)
set_option maxRecDepth 20000 in
theorem gX4_patch_X4_castTo : GoodIn wsX4_patch (va_wsS RX4 160 yX4_castTo wsX4_castTo) := goodIn_app (goodIn_of _ (by decide +kernel)) ggX4_patch_X4_castTo
set_option maxRecDepth 20000 in
theorem ggX4_patch_X4_come : GoodIn wsX4_patch wsX4_come := goodIn_r _ [55, 56, 1, 57, 58, 59, 60, 61, 62, 63, 64, 65, 66, 67, 68, 69, 70, 71, 72, 73, 74, 75, 76, 77] (by decide +kernel) (by decide +kernel)
set_option maxRecDepth 20000 in
theorem gX4_patch_X4_come : GoodIn wsX4_patch (wsV RX4 157 RX4 yX4_come wsX4_come) := goodIn_app (goodIn_of _ (by decide +kernel)) ggX4_patch_X4_come
theorem dX4_patch_0 : decode cX4_patch 0 = .ok (.aload_n 0, 1) := by decide +kernel
theorem dX4_patch_1 : decode cX4_patch 1 = .ok (.iload_n 1, 1) := by decide +kernel
theorem dX4_patch_2 : decode cX4_patch 2 = .ok (.invokestatic 142, 3) := by decide +kernel
theorem dX4_patch_5 : decode cX4_patch 5 = .ok (.ifCond .eq 10, 3) := by decide +kernel
theorem dX4_patch_8 : decode cX4_patch 8 = .ok (.iload_n 2, 1) := by decide +kernel
theorem dX4_patch_9 : decode cX4_patch 9 = .ok (.invokestatic 142, 3) := by decide +kernel
theorem dX4_patch_12 : decode cX4_patch 12 = .ok (.ifCond .ne 7, 3) := by decide +kernel
theorem dX4_patch_15 : decode cX4_patch 15 = .ok (.iconst 1, 1) := by decide +kernel
theorem dX4_patch_16 : decode cX4_patch 16 = .ok (.goto 4, 3) := by decide +kernel
theorem dX4_patch_19 : decode cX4_patch 19 = .ok (.iconst 0, 1) := by decide +kernel
theorem dX4_patch_20 : decode cX4_patch 20 = .ok (.iconst 0, 1) := by decide +kernel
theorem dX4_patch_21 : decode cX4_patch 21 = .ok (.invokevirtual 153, 3) := by decide +kernel
theorem dX4_patch_24 : decode cX4_patch 24 = .ok (.ifCond .eq 5, 3) := by decide +kernel
theorem dX4_patch_27 : decode cX4_patch 27 = .ok (.lconst 0, 1) := by decide +kernel
theorem dX4_patch_28 : decode cX4_patch 28 = .ok (.lreturn, 1) := by decide +kernel
theorem dX4_patch_29 : decode cX4_patch 29 = .ok (.iload_n 1, 1) := by decide +kernel
theorem dX4_patch_30 : decode cX4_patch 30 = .ok (.iload_n 2, 1) := by decide +kernel
theorem dX4_patch_31 : decode cX4_patch 31 = .ok (.aload_n 0, 1) := by decide +kernel
theorem dX4_patch_32 : decode cX4_patch 32 = .ok (.getfield 13, 3) := by decide +kernel
theorem dX4_patch_35 : decode cX4_patch 35 = .ok (.iload_n 1, 1) := by decide +kernel
theorem dX4_patch_36 : decode cX4_patch 36 = .ok (.laload, 1) := by decide +kernel
theorem dX4_patch_37 : decode cX4_patch 37 = .ok (.invokestatic 160, 3) := by decide +kernel
theorem dX4_patch_40 : decode cX4_patch 40 = .ok (.lstore_n 3, 1) := by decide +kernel
theorem dX4_patch_41 : decode cX4_patch 41 = .ok (.aload_n 0, 1) := by decide +kernel
theorem dX4_patch_42 : decode cX4_patch 42 = .ok (.iload_n 2, 1) := by decide +kernel
theorem dX4_patch_43 : decode cX4_patch 43 = .ok (.lload_n 3, 1) := by decide +kernel
theorem dX4_patch_44 : decode cX4_patch 44 = .ok (.invokevirtual 157, 3) := by decide +kernel
theorem dX4_patch_47 : decode cX4_patch 47 = .ok (.istore 5, 2) := by decide +kernel
theorem dX4_patch_49 : decode cX4_patch 49 = .ok (.lload_n 3, 1) := by decide +kernel
theorem dX4_patch_50 : decode cX4_patch 50 = .ok (.lreturn, 1) := by decide +kernel
theorem dX4_isKind_0 : decode cX4_isKind 0 = .ok (.iload_n 1, 1) := by decide +kernel
theorem dX4_isKind_1 : decode cX4_isKind 1 = .ok (.ifCond .lt 29, 3) := by decide +kernel
theorem dX4_isKind_4 : decode cX4_isKind 4 = .ok (.iload_n 1, 1) := by decide +kernel
theorem dX4_isKind_5 : decode cX4_isKind 5 = .ok (.bipush 9, 2) := by decide +kernel
theorem dX4_isKind_7 : decode cX4_isKind 7 = .ok (.if_icmp .ge 23, 3) := by decide +kernel
theorem dX4_isKind_10 : decode cX4_isKind 10 = .ok (.iload_n 0, 1) := by decide +kernel
theorem dX4_isKind_11 : decode cX4_isKind 11 = .ok (.iconst 1, 1) := by decide +kernel
theorem dX4_isKind_12 : decode cX4_isKind 12 = .ok (.if_icmp .gt 14, 3) := by decide +kernel
theorem dX4_isKind_15 : decode cX4_isKind 15 = .ok (.iload_n 1, 1) := by decide +kernel
theorem dX4_isKind_16 : decode cX4_isKind 16 = .ok (.iconst 3, 1) := by decide +kernel
theorem dX4_isKind_17 : decode cX4_isKind 17 = .ok (.if_icmp .lt 9, 3) := by decide +kernel
theorem dX4_isKind_20 : decode cX4_isKind 20 = .ok (.iload_n 1, 1) := by decide +kernel
theorem dX4_isKind_21 : decode cX4_isKind 21 = .ok (.bipush 8, 2) := by decide +kernel
theorem dX4_isKind_23 : decode cX4_isKind 23 = .ok (.if_icmp .ne 7, 3) := by decide +kernel
theorem dX4_isKind_26 : decode cX4_isKind 26 = .ok (.iconst 1, 1) := by decide +kernel
theorem dX4_isKind_27 : decode cX4_isKind 27 = .ok (.goto 4, 3) := by decide +kernel
theorem dX4_isKind_30 : decode cX4_isKind 30 = .ok (.iconst 0, 1) := by decide +kernel
theorem dX4_isKind_31 : decode cX4_isKind 31 = .ok (.ireturn, 1) := by decide +kernel
set_option maxRecDepth 20000 in
theorem ggX4_pedal_X4_isWire : GoodIn wsX4_pedal wsX4_isWire := goodIn_r _ [9] (by decide +kernel) (by decide +kernel)
set_option maxRecDepth 20000 in
theorem gX4_pedal_X4_isWire : GoodIn wsX4_pedal (va_wsS RX4 142 yX4_isWire wsX4_isWire) := goodIn_app (goodIn_of _ (by decide +kernel)) ggX4_pedal_X4_isWire
set_option maxRecDepth 20000 in
theorem ggX4_pedal_X4_isKind : GoodIn wsX4_pedal wsX4_isKind := goodIn_r _ [12] (by decide +kernel) (by decide +kernel)
set_option maxRecDepth 20000 in
theorem gX4_pedal_X4_isKind : GoodIn wsX4_pedal (va_wsS RX4 164 yX4_isKind wsX4_isKind) := goodIn_app (goodIn_of _ (by decide +kernel)) ggX4_pedal_X4_isKind
set_option maxRecDepth 20000 in
theorem ggX4_pedal_X4_coded : GoodIn wsX4_pedal wsX4_coded := goodIn_r _ [15, 16] (by decide +kernel) (by decide +kernel)
set_option maxRecDepth 20000 in
theorem gX4_pedal_X4_coded : GoodIn wsX4_pedal (va_wsS RX4 146 yX4_coded wsX4_coded) := goodIn_app (goodIn_of _ (by decide +kernel)) ggX4_pedal_X4_coded
set_option maxRecDepth 20000 in
theorem ggX4_pedal_X4_isIll : GoodIn wsX4_pedal wsX4_isIll := goodIn_r _ [19, 20, 21, 8, 22, 23, 24, 25, 26, 16, 27, 28, 29, 30, 31, 32, 33, 34, 35, 36] (by decide +kernel) (by decide +kernel)
set_option maxRecDepth 20000 in
theorem gX4_pedal_X4_isIll : GoodIn wsX4_pedal (va_wsS RX4 150 yX4_isIll wsX4_isIll) := goodIn_app (goodIn_of _ (by decide +kernel)) ggX4_pedal_X4_isIll
set_option maxRecDepth 20000 in
theorem ggX4_pedal_X4_refuses : GoodIn wsX4_pedal wsX4_refuses := goodIn_r _ [40, 41, 42, 43, 44, 45, 46, 47, 48, 49, 50, 51, 52, 53, 54, 55, 56, 57, 58, 59] (by decide +kernel) (by decide +kernel)
set_option maxRecDepth 20000 in
theorem gX4_pedal_X4_refuses : GoodIn wsX4_pedal (wsV RX4 153 RX4 yX4_refuses wsX4_refuses) := goodIn_app (goodIn_of _ (by decide +kernel)) ggX4_pedal_X4_refuses
theorem dX4_pedal_0 : decode cX4_pedal 0 = .ok (.iload_n 1, 1) := by decide +kernel
theorem dX4_pedal_1 : decode cX4_pedal 1 = .ok (.invokestatic 142, 3) := by decide +kernel
theorem dX4_pedal_4 : decode cX4_pedal 4 = .ok (.ifCond .eq 25, 3) := by decide +kernel
theorem dX4_pedal_7 : decode cX4_pedal 7 = .ok (.iload_n 1, 1) := by decide +kernel
theorem dX4_pedal_8 : decode cX4_pedal 8 = .ok (.iload_n 2, 1) := by decide +kernel
theorem dX4_pedal_9 : decode cX4_pedal 9 = .ok (.invokestatic 164, 3) := by decide +kernel
theorem dX4_pedal_12 : decode cX4_pedal 12 = .ok (.ifCond .eq 17, 3) := by decide +kernel
theorem dX4_pedal_15 : decode cX4_pedal 15 = .ok (.iload_n 1, 1) := by decide +kernel
theorem dX4_pedal_16 : decode cX4_pedal 16 = .ok (.iload_n 1, 1) := by decide +kernel
theorem dX4_pedal_17 : decode cX4_pedal 17 = .ok (.iload_n 3, 1) := by decide +kernel
theorem dX4_pedal_18 : decode cX4_pedal 18 = .ok (.iload 4, 2) := by decide +kernel
theorem dX4_pedal_20 : decode cX4_pedal 20 = .ok (.invokestatic 146, 3) := by decide +kernel
theorem dX4_pedal_23 : decode cX4_pedal 23 = .ok (.invokestatic 150, 3) := by decide +kernel
theorem dX4_pedal_26 : decode cX4_pedal 26 = .ok (.ifCond .eq 7, 3) := by decide +kernel
theorem dX4_pedal_29 : decode cX4_pedal 29 = .ok (.iconst 1, 1) := by decide +kernel
theorem dX4_pedal_30 : decode cX4_pedal 30 = .ok (.goto 4, 3) := by decide +kernel
theorem dX4_pedal_33 : decode cX4_pedal 33 = .ok (.iconst 0, 1) := by decide +kernel
theorem dX4_pedal_34 : decode cX4_pedal 34 = .ok (.istore 5, 2) := by decide +kernel
theorem dX4_pedal_36 : decode cX4_pedal 36 = .ok (.aload_n 0, 1) := by decide +kernel
theorem dX4_pedal_37 : decode cX4_pedal 37 = .ok (.iload 5, 2) := by decide +kernel
theorem dX4_pedal_39 : decode cX4_pedal 39 = .ok (.iload 5, 2) := by decide +kernel
theorem dX4_pedal_41 : decode cX4_pedal 41 = .ok (.ifCond .ne 27, 3) := by decide +kernel
theorem dX4_pedal_44 : decode cX4_pedal 44 = .ok (.aload_n 0, 1) := by decide +kernel
theorem dX4_pedal_45 : decode cX4_pedal 45 = .ok (.getfield 26, 3) := by decide +kernel
theorem dX4_pedal_48 : decode cX4_pedal 48 = .ok (.iload 5, 2) := by decide +kernel
theorem dX4_pedal_50 : decode cX4_pedal 50 = .ok (.ifCond .eq 7, 3) := by decide +kernel
theorem dX4_pedal_53 : decode cX4_pedal 53 = .ok (.iconst 0, 1) := by decide +kernel
theorem dX4_pedal_54 : decode cX4_pedal 54 = .ok (.goto 4, 3) := by decide +kernel
theorem dX4_pedal_57 : decode cX4_pedal 57 = .ok (.iload_n 1, 1) := by decide +kernel
theorem dX4_pedal_58 : decode cX4_pedal 58 = .ok (.iaload, 1) := by decide +kernel
theorem dX4_pedal_59 : decode cX4_pedal 59 = .ok (.bipush 12, 2) := by decide +kernel
theorem dX4_pedal_61 : decode cX4_pedal 61 = .ok (.if_icmp .ne 7, 3) := by decide +kernel
theorem dX4_pedal_64 : decode cX4_pedal 64 = .ok (.iconst 1, 1) := by decide +kernel
theorem dX4_pedal_65 : decode cX4_pedal 65 = .ok (.goto 4, 3) := by decide +kernel
theorem dX4_pedal_68 : decode cX4_pedal 68 = .ok (.iconst 0, 1) := by decide +kernel
theorem dX4_pedal_69 : decode cX4_pedal 69 = .ok (.invokevirtual 153, 3) := by decide +kernel
theorem dX4_pedal_72 : decode cX4_pedal 72 = .ok (.ifCond .eq 5, 3) := by decide +kernel
theorem dX4_pedal_75 : decode cX4_pedal 75 = .ok (.iconst 0, 1) := by decide +kernel
theorem dX4_pedal_76 : decode cX4_pedal 76 = .ok (.ireturn, 1) := by decide +kernel
theorem dX4_pedal_77 : decode cX4_pedal 77 = .ok (.bipush 12, 2) := by decide +kernel
theorem dX4_pedal_79 : decode cX4_pedal 79 = .ok (.iload_n 1, 1) := by decide +kernel
theorem dX4_pedal_80 : decode cX4_pedal 80 = .ok (.imul, 1) := by decide +kernel
theorem dX4_pedal_81 : decode cX4_pedal 81 = .ok (.aload_n 0, 1) := by decide +kernel
theorem dX4_pedal_82 : decode cX4_pedal 82 = .ok (.getfield 26, 3) := by decide +kernel
theorem dX4_pedal_85 : decode cX4_pedal 85 = .ok (.iload_n 1, 1) := by decide +kernel
theorem dX4_pedal_86 : decode cX4_pedal 86 = .ok (.iaload, 1) := by decide +kernel
theorem dX4_pedal_87 : decode cX4_pedal 87 = .ok (.iadd, 1) := by decide +kernel
theorem dX4_pedal_88 : decode cX4_pedal 88 = .ok (.istore 6, 2) := by decide +kernel
theorem dX4_pedal_90 : decode cX4_pedal 90 = .ok (.aload_n 0, 1) := by decide +kernel
theorem dX4_pedal_91 : decode cX4_pedal 91 = .ok (.getfield 36, 3) := by decide +kernel
theorem dX4_pedal_94 : decode cX4_pedal 94 = .ok (.iload 6, 2) := by decide +kernel
theorem dX4_pedal_96 : decode cX4_pedal 96 = .ok (.iload_n 2, 1) := by decide +kernel
theorem dX4_pedal_97 : decode cX4_pedal 97 = .ok (.iastore, 1) := by decide +kernel
theorem dX4_pedal_98 : decode cX4_pedal 98 = .ok (.aload_n 0, 1) := by decide +kernel
theorem dX4_pedal_99 : decode cX4_pedal 99 = .ok (.getfield 39, 3) := by decide +kernel
theorem dX4_pedal_102 : decode cX4_pedal 102 = .ok (.iload 6, 2) := by decide +kernel
theorem dX4_pedal_104 : decode cX4_pedal 104 = .ok (.iload_n 1, 1) := by decide +kernel
theorem dX4_pedal_105 : decode cX4_pedal 105 = .ok (.iload_n 3, 1) := by decide +kernel
theorem dX4_pedal_106 : decode cX4_pedal 106 = .ok (.iload 4, 2) := by decide +kernel
theorem dX4_pedal_108 : decode cX4_pedal 108 = .ok (.invokestatic 146, 3) := by decide +kernel
theorem dX4_pedal_111 : decode cX4_pedal 111 = .ok (.lastore, 1) := by decide +kernel
theorem dX4_pedal_112 : decode cX4_pedal 112 = .ok (.aload_n 0, 1) := by decide +kernel
theorem dX4_pedal_113 : decode cX4_pedal 113 = .ok (.getfield 45, 3) := by decide +kernel
theorem dX4_pedal_116 : decode cX4_pedal 116 = .ok (.iload 6, 2) := by decide +kernel
theorem dX4_pedal_118 : decode cX4_pedal 118 = .ok (.iconst 1, 1) := by decide +kernel
theorem dX4_pedal_119 : decode cX4_pedal 119 = .ok (.bastore, 1) := by decide +kernel
theorem dX4_pedal_120 : decode cX4_pedal 120 = .ok (.aload_n 0, 1) := by decide +kernel
theorem dX4_pedal_121 : decode cX4_pedal 121 = .ok (.getfield 26, 3) := by decide +kernel
theorem dX4_pedal_124 : decode cX4_pedal 124 = .ok (.iload_n 1, 1) := by decide +kernel
theorem dX4_pedal_125 : decode cX4_pedal 125 = .ok (.dup2, 1) := by decide +kernel
theorem dX4_pedal_126 : decode cX4_pedal 126 = .ok (.iaload, 1) := by decide +kernel
theorem dX4_pedal_127 : decode cX4_pedal 127 = .ok (.iconst 1, 1) := by decide +kernel
theorem dX4_pedal_128 : decode cX4_pedal 128 = .ok (.iadd, 1) := by decide +kernel
theorem dX4_pedal_129 : decode cX4_pedal 129 = .ok (.iastore, 1) := by decide +kernel
theorem dX4_pedal_130 : decode cX4_pedal 130 = .ok (.aload_n 0, 1) := by decide +kernel
theorem dX4_pedal_131 : decode cX4_pedal 131 = .ok (.getfield 29, 3) := by decide +kernel
theorem dX4_pedal_134 : decode cX4_pedal 134 = .ok (.iload_n 1, 1) := by decide +kernel
theorem dX4_pedal_135 : decode cX4_pedal 135 = .ok (.iconst 0, 1) := by decide +kernel
theorem dX4_pedal_136 : decode cX4_pedal 136 = .ok (.bastore, 1) := by decide +kernel
theorem dX4_pedal_137 : decode cX4_pedal 137 = .ok (.aload_n 0, 1) := by decide +kernel
theorem dX4_pedal_138 : decode cX4_pedal 138 = .ok (.getfield 26, 3) := by decide +kernel
theorem dX4_pedal_141 : decode cX4_pedal 141 = .ok (.iload_n 1, 1) := by decide +kernel
theorem dX4_pedal_142 : decode cX4_pedal 142 = .ok (.iaload, 1) := by decide +kernel
theorem dX4_pedal_143 : decode cX4_pedal 143 = .ok (.iconst 1, 1) := by decide +kernel
theorem dX4_pedal_144 : decode cX4_pedal 144 = .ok (.isub, 1) := by decide +kernel
theorem dX4_pedal_145 : decode cX4_pedal 145 = .ok (.ireturn, 1) := by decide +kernel
set_option maxRecDepth 20000 in
theorem ggX4_turn_X4_isPedal : GoodIn wsX4_turn wsX4_isPedal := goodIn_r _ [6, 7, 8, 9, 5, 10, 40, 41, 42, 43, 44, 45, 46, 47, 48, 49, 50, 51, 52, 53, 54, 55, 56, 57] (by decide +kernel) (by decide +kernel)
set_option maxRecDepth 20000 in
theorem gX4_turn_X4_isPedal : GoodIn wsX4_turn (wsV RX4 168 RX4 yX4_isPedal wsX4_isPedal) := goodIn_app (goodIn_of _ (by decide +kernel)) ggX4_turn_X4_isPedal
set_option maxRecDepth 20000 in
theorem ggX4_turn_X4_coded : GoodIn wsX4_turn wsX4_coded := goodIn_r _ [13, 14] (by decide +kernel) (by decide +kernel)
set_option maxRecDepth 20000 in
theorem gX4_turn_X4_coded : GoodIn wsX4_turn (va_wsS RX4 146 yX4_coded wsX4_coded) := goodIn_app (goodIn_of _ (by decide +kernel)) ggX4_turn_X4_coded
set_option maxRecDepth 20000 in
theorem ggX4_turn_X4_isIll : GoodIn wsX4_turn wsX4_isIll := goodIn_r _ [17, 18, 19, 5, 20, 21, 22, 23, 24, 14, 25, 26, 27, 28, 29, 30, 31, 32, 33, 34] (by decide +kernel) (by decide +kernel)
set_option maxRecDepth 20000 in
theorem gX4_turn_X4_isIll : GoodIn wsX4_turn (va_wsS RX4 150 yX4_isIll wsX4_isIll) := goodIn_app (goodIn_of _ (by decide +kernel)) ggX4_turn_X4_isIll
set_option maxRecDepth 20000 in
theorem ggX4_turn_X4_refuses : GoodIn wsX4_turn wsX4_refuses := goodIn_r _ [38, 39, 40, 41, 42, 43, 44, 45, 46, 47, 48, 49, 50, 51, 52, 53, 54, 55, 56, 57] (by decide +kernel) (by decide +kernel)
set_option maxRecDepth 20000 in
theorem gX4_turn_X4_refuses : GoodIn wsX4_turn (wsV RX4 153 RX4 yX4_refuses wsX4_refuses) := goodIn_app (goodIn_of _ (by decide +kernel)) ggX4_turn_X4_refuses
theorem dX4_turn_0 : decode cX4_turn 0 = .ok (.aload_n 0, 1) := by decide +kernel
theorem dX4_turn_1 : decode cX4_turn 1 = .ok (.aload_n 0, 1) := by decide +kernel
theorem dX4_turn_2 : decode cX4_turn 2 = .ok (.iload_n 1, 1) := by decide +kernel
theorem dX4_turn_3 : decode cX4_turn 3 = .ok (.iload_n 2, 1) := by decide +kernel
theorem dX4_turn_4 : decode cX4_turn 4 = .ok (.invokevirtual 168, 3) := by decide +kernel
theorem dX4_turn_7 : decode cX4_turn 7 = .ok (.ifCond .eq 17, 3) := by decide +kernel
theorem dX4_turn_10 : decode cX4_turn 10 = .ok (.iload_n 1, 1) := by decide +kernel
theorem dX4_turn_11 : decode cX4_turn 11 = .ok (.iload_n 1, 1) := by decide +kernel
theorem dX4_turn_12 : decode cX4_turn 12 = .ok (.iload_n 3, 1) := by decide +kernel
theorem dX4_turn_13 : decode cX4_turn 13 = .ok (.iload 4, 2) := by decide +kernel
theorem dX4_turn_15 : decode cX4_turn 15 = .ok (.invokestatic 146, 3) := by decide +kernel
theorem dX4_turn_18 : decode cX4_turn 18 = .ok (.invokestatic 150, 3) := by decide +kernel
theorem dX4_turn_21 : decode cX4_turn 21 = .ok (.ifCond .eq 7, 3) := by decide +kernel
theorem dX4_turn_24 : decode cX4_turn 24 = .ok (.iconst 1, 1) := by decide +kernel
theorem dX4_turn_25 : decode cX4_turn 25 = .ok (.goto 4, 3) := by decide +kernel
theorem dX4_turn_28 : decode cX4_turn 28 = .ok (.iconst 0, 1) := by decide +kernel
theorem dX4_turn_29 : decode cX4_turn 29 = .ok (.iconst 0, 1) := by decide +kernel
theorem dX4_turn_30 : decode cX4_turn 30 = .ok (.invokevirtual 153, 3) := by decide +kernel
theorem dX4_turn_33 : decode cX4_turn 33 = .ok (.ifCond .eq 5, 3) := by decide +kernel
theorem dX4_turn_36 : decode cX4_turn 36 = .ok (.iconst 0, 1) := by decide +kernel
theorem dX4_turn_37 : decode cX4_turn 37 = .ok (.ireturn, 1) := by decide +kernel
theorem dX4_turn_38 : decode cX4_turn 38 = .ok (.bipush 12, 2) := by decide +kernel
theorem dX4_turn_40 : decode cX4_turn 40 = .ok (.iload_n 1, 1) := by decide +kernel
theorem dX4_turn_41 : decode cX4_turn 41 = .ok (.imul, 1) := by decide +kernel
theorem dX4_turn_42 : decode cX4_turn 42 = .ok (.iload_n 2, 1) := by decide +kernel
theorem dX4_turn_43 : decode cX4_turn 43 = .ok (.iadd, 1) := by decide +kernel
theorem dX4_turn_44 : decode cX4_turn 44 = .ok (.istore 5, 2) := by decide +kernel
theorem dX4_turn_46 : decode cX4_turn 46 = .ok (.aload_n 0, 1) := by decide +kernel
theorem dX4_turn_47 : decode cX4_turn 47 = .ok (.getfield 39, 3) := by decide +kernel
theorem dX4_turn_50 : decode cX4_turn 50 = .ok (.iload 5, 2) := by decide +kernel
theorem dX4_turn_52 : decode cX4_turn 52 = .ok (.laload, 1) := by decide +kernel
theorem dX4_turn_53 : decode cX4_turn 53 = .ok (.iload_n 1, 1) := by decide +kernel
theorem dX4_turn_54 : decode cX4_turn 54 = .ok (.iload_n 3, 1) := by decide +kernel
theorem dX4_turn_55 : decode cX4_turn 55 = .ok (.iload 4, 2) := by decide +kernel
theorem dX4_turn_57 : decode cX4_turn 57 = .ok (.invokestatic 146, 3) := by decide +kernel
theorem dX4_turn_60 : decode cX4_turn 60 = .ok (.lcmp, 1) := by decide +kernel
theorem dX4_turn_61 : decode cX4_turn 61 = .ok (.ifCond .eq 7, 3) := by decide +kernel
theorem dX4_turn_64 : decode cX4_turn 64 = .ok (.iconst 1, 1) := by decide +kernel
theorem dX4_turn_65 : decode cX4_turn 65 = .ok (.goto 4, 3) := by decide +kernel
theorem dX4_turn_68 : decode cX4_turn 68 = .ok (.iconst 0, 1) := by decide +kernel
theorem dX4_turn_69 : decode cX4_turn 69 = .ok (.istore 6, 2) := by decide +kernel
theorem dX4_turn_71 : decode cX4_turn 71 = .ok (.aload_n 0, 1) := by decide +kernel
theorem dX4_turn_72 : decode cX4_turn 72 = .ok (.getfield 39, 3) := by decide +kernel
theorem dX4_turn_75 : decode cX4_turn 75 = .ok (.iload 5, 2) := by decide +kernel
theorem dX4_turn_77 : decode cX4_turn 77 = .ok (.iload_n 1, 1) := by decide +kernel
theorem dX4_turn_78 : decode cX4_turn 78 = .ok (.iload_n 3, 1) := by decide +kernel
theorem dX4_turn_79 : decode cX4_turn 79 = .ok (.iload 4, 2) := by decide +kernel
theorem dX4_turn_81 : decode cX4_turn 81 = .ok (.invokestatic 146, 3) := by decide +kernel
theorem dX4_turn_84 : decode cX4_turn 84 = .ok (.lastore, 1) := by decide +kernel
theorem dX4_turn_85 : decode cX4_turn 85 = .ok (.iload 6, 2) := by decide +kernel
theorem dX4_turn_87 : decode cX4_turn 87 = .ok (.ireturn, 1) := by decide +kernel
set_option maxRecDepth 20000 in
theorem ggX4_tap_X4_isPedal : GoodIn wsX4_tap wsX4_isPedal := goodIn_r _ [6, 7, 8, 9, 5, 10, 16, 17, 18, 19, 20, 21, 22, 23, 24, 25, 26, 27, 28, 29, 30, 31, 32, 33] (by decide +kernel) (by decide +kernel)
set_option maxRecDepth 20000 in
theorem gX4_tap_X4_isPedal : GoodIn wsX4_tap (wsV RX4 168 RX4 yX4_isPedal wsX4_isPedal) := goodIn_app (goodIn_of _ (by decide +kernel)) ggX4_tap_X4_isPedal
set_option maxRecDepth 20000 in
theorem ggX4_tap_X4_refuses : GoodIn wsX4_tap wsX4_refuses := goodIn_r _ [14, 15, 16, 17, 18, 19, 20, 21, 22, 23, 24, 25, 26, 27, 28, 29, 30, 31, 32, 33] (by decide +kernel) (by decide +kernel)
set_option maxRecDepth 20000 in
theorem gX4_tap_X4_refuses : GoodIn wsX4_tap (wsV RX4 153 RX4 yX4_refuses wsX4_refuses) := goodIn_app (goodIn_of _ (by decide +kernel)) ggX4_tap_X4_refuses
theorem dX4_tap_0 : decode cX4_tap 0 = .ok (.aload_n 0, 1) := by decide +kernel
theorem dX4_tap_1 : decode cX4_tap 1 = .ok (.aload_n 0, 1) := by decide +kernel
theorem dX4_tap_2 : decode cX4_tap 2 = .ok (.iload_n 1, 1) := by decide +kernel
theorem dX4_tap_3 : decode cX4_tap 3 = .ok (.iload_n 2, 1) := by decide +kernel
theorem dX4_tap_4 : decode cX4_tap 4 = .ok (.invokevirtual 168, 3) := by decide +kernel
theorem dX4_tap_7 : decode cX4_tap 7 = .ok (.ifCond .ne 7, 3) := by decide +kernel
theorem dX4_tap_10 : decode cX4_tap 10 = .ok (.iconst 1, 1) := by decide +kernel
theorem dX4_tap_11 : decode cX4_tap 11 = .ok (.goto 4, 3) := by decide +kernel
theorem dX4_tap_14 : decode cX4_tap 14 = .ok (.iconst 0, 1) := by decide +kernel
theorem dX4_tap_15 : decode cX4_tap 15 = .ok (.iconst 0, 1) := by decide +kernel
theorem dX4_tap_16 : decode cX4_tap 16 = .ok (.invokevirtual 153, 3) := by decide +kernel
theorem dX4_tap_19 : decode cX4_tap 19 = .ok (.ifCond .eq 5, 3) := by decide +kernel
theorem dX4_tap_22 : decode cX4_tap 22 = .ok (.iconst 0, 1) := by decide +kernel
theorem dX4_tap_23 : decode cX4_tap 23 = .ok (.ireturn, 1) := by decide +kernel
theorem dX4_tap_24 : decode cX4_tap 24 = .ok (.aload_n 0, 1) := by decide +kernel
theorem dX4_tap_25 : decode cX4_tap 25 = .ok (.getfield 45, 3) := by decide +kernel
theorem dX4_tap_28 : decode cX4_tap 28 = .ok (.bipush 12, 2) := by decide +kernel
theorem dX4_tap_30 : decode cX4_tap 30 = .ok (.iload_n 1, 1) := by decide +kernel
theorem dX4_tap_31 : decode cX4_tap 31 = .ok (.imul, 1) := by decide +kernel
theorem dX4_tap_32 : decode cX4_tap 32 = .ok (.iload_n 2, 1) := by decide +kernel
theorem dX4_tap_33 : decode cX4_tap 33 = .ok (.iadd, 1) := by decide +kernel
theorem dX4_tap_34 : decode cX4_tap 34 = .ok (.aload_n 0, 1) := by decide +kernel
theorem dX4_tap_35 : decode cX4_tap 35 = .ok (.getfield 45, 3) := by decide +kernel
theorem dX4_tap_38 : decode cX4_tap 38 = .ok (.bipush 12, 2) := by decide +kernel
theorem dX4_tap_40 : decode cX4_tap 40 = .ok (.iload_n 1, 1) := by decide +kernel
theorem dX4_tap_41 : decode cX4_tap 41 = .ok (.imul, 1) := by decide +kernel
theorem dX4_tap_42 : decode cX4_tap 42 = .ok (.iload_n 2, 1) := by decide +kernel
theorem dX4_tap_43 : decode cX4_tap 43 = .ok (.iadd, 1) := by decide +kernel
theorem dX4_tap_44 : decode cX4_tap 44 = .ok (.baload, 1) := by decide +kernel
theorem dX4_tap_45 : decode cX4_tap 45 = .ok (.ifCond .ne 7, 3) := by decide +kernel
theorem dX4_tap_48 : decode cX4_tap 48 = .ok (.iconst 1, 1) := by decide +kernel
theorem dX4_tap_49 : decode cX4_tap 49 = .ok (.goto 4, 3) := by decide +kernel
theorem dX4_tap_52 : decode cX4_tap 52 = .ok (.iconst 0, 1) := by decide +kernel
theorem dX4_tap_53 : decode cX4_tap 53 = .ok (.bastore, 1) := by decide +kernel
theorem dX4_tap_54 : decode cX4_tap 54 = .ok (.aload_n 0, 1) := by decide +kernel
theorem dX4_tap_55 : decode cX4_tap 55 = .ok (.getfield 45, 3) := by decide +kernel
theorem dX4_tap_58 : decode cX4_tap 58 = .ok (.bipush 12, 2) := by decide +kernel
theorem dX4_tap_60 : decode cX4_tap 60 = .ok (.iload_n 1, 1) := by decide +kernel
theorem dX4_tap_61 : decode cX4_tap 61 = .ok (.imul, 1) := by decide +kernel
theorem dX4_tap_62 : decode cX4_tap 62 = .ok (.iload_n 2, 1) := by decide +kernel
theorem dX4_tap_63 : decode cX4_tap 63 = .ok (.iadd, 1) := by decide +kernel
theorem dX4_tap_64 : decode cX4_tap 64 = .ok (.baload, 1) := by decide +kernel
theorem dX4_tap_65 : decode cX4_tap 65 = .ok (.ireturn, 1) := by decide +kernel
set_option maxRecDepth 20000 in
theorem ggX4_swap_X4_isPedal : GoodIn wsX4_swap wsX4_isPedal := goodIn_r _ [9, 10, 11, 12, 8, 13, 19, 20, 21, 22, 23, 24, 25, 26, 27, 28, 29, 30, 31, 32, 33, 34, 35, 36] (by decide +kernel) (by decide +kernel)
set_option maxRecDepth 20000 in
theorem gX4_swap_X4_isPedal : GoodIn wsX4_swap (wsV RX4 168 RX4 yX4_isPedal wsX4_isPedal) := goodIn_app (goodIn_of _ (by decide +kernel)) ggX4_swap_X4_isPedal
set_option maxRecDepth 20000 in
theorem ggX4_swap_X4_refuses : GoodIn wsX4_swap wsX4_refuses := goodIn_r _ [17, 18, 19, 20, 21, 22, 23, 24, 25, 26, 27, 28, 29, 30, 31, 32, 33, 34, 35, 36] (by decide +kernel) (by decide +kernel)
set_option maxRecDepth 20000 in
theorem gX4_swap_X4_refuses : GoodIn wsX4_swap (wsV RX4 153 RX4 yX4_refuses wsX4_refuses) := goodIn_app (goodIn_of _ (by decide +kernel)) ggX4_swap_X4_refuses
theorem dX4_swap_0 : decode cX4_swap 0 = .ok (.aload_n 0, 1) := by decide +kernel
theorem dX4_swap_1 : decode cX4_swap 1 = .ok (.aload_n 0, 1) := by decide +kernel
theorem dX4_swap_2 : decode cX4_swap 2 = .ok (.iload_n 1, 1) := by decide +kernel
theorem dX4_swap_3 : decode cX4_swap 3 = .ok (.iload_n 2, 1) := by decide +kernel
theorem dX4_swap_4 : decode cX4_swap 4 = .ok (.invokevirtual 168, 3) := by decide +kernel
theorem dX4_swap_7 : decode cX4_swap 7 = .ok (.ifCond .eq 12, 3) := by decide +kernel
theorem dX4_swap_10 : decode cX4_swap 10 = .ok (.aload_n 0, 1) := by decide +kernel
theorem dX4_swap_11 : decode cX4_swap 11 = .ok (.iload_n 1, 1) := by decide +kernel
theorem dX4_swap_12 : decode cX4_swap 12 = .ok (.iload_n 3, 1) := by decide +kernel
theorem dX4_swap_13 : decode cX4_swap 13 = .ok (.invokevirtual 168, 3) := by decide +kernel
theorem dX4_swap_16 : decode cX4_swap 16 = .ok (.ifCond .ne 7, 3) := by decide +kernel
end
section
theorem dX4_swap_19 : decode cX4_swap 19 = .ok (.iconst 1, 1) := by decide +kernel
theorem dX4_swap_20 : decode cX4_swap 20 = .ok (.goto 4, 3) := by decide +kernel
theorem dX4_swap_23 : decode cX4_swap 23 = .ok (.iconst 0, 1) := by decide +kernel
theorem dX4_swap_24 : decode cX4_swap 24 = .ok (.iconst 0, 1) := by decide +kernel
theorem dX4_swap_25 : decode cX4_swap 25 = .ok (.invokevirtual 153, 3) := by decide +kernel
theorem dX4_swap_28 : decode cX4_swap 28 = .ok (.ifCond .eq 5, 3) := by decide +kernel
theorem dX4_swap_31 : decode cX4_swap 31 = .ok (.iconst 0, 1) := by decide +kernel
theorem dX4_swap_32 : decode cX4_swap 32 = .ok (.ireturn, 1) := by decide +kernel
theorem dX4_swap_33 : decode cX4_swap 33 = .ok (.bipush 12, 2) := by decide +kernel
theorem dX4_swap_35 : decode cX4_swap 35 = .ok (.iload_n 1, 1) := by decide +kernel
theorem dX4_swap_36 : decode cX4_swap 36 = .ok (.imul, 1) := by decide +kernel
theorem dX4_swap_37 : decode cX4_swap 37 = .ok (.iload_n 2, 1) := by decide +kernel
theorem dX4_swap_38 : decode cX4_swap 38 = .ok (.iadd, 1) := by decide +kernel
theorem dX4_swap_39 : decode cX4_swap 39 = .ok (.istore 4, 2) := by decide +kernel
theorem dX4_swap_41 : decode cX4_swap 41 = .ok (.bipush 12, 2) := by decide +kernel
theorem dX4_swap_43 : decode cX4_swap 43 = .ok (.iload_n 1, 1) := by decide +kernel
theorem dX4_swap_44 : decode cX4_swap 44 = .ok (.imul, 1) := by decide +kernel
theorem dX4_swap_45 : decode cX4_swap 45 = .ok (.iload_n 3, 1) := by decide +kernel
theorem dX4_swap_46 : decode cX4_swap 46 = .ok (.iadd, 1) := by decide +kernel
theorem dX4_swap_47 : decode cX4_swap 47 = .ok (.istore 5, 2) := by decide +kernel
theorem dX4_swap_49 : decode cX4_swap 49 = .ok (.aload_n 0, 1) := by decide +kernel
theorem dX4_swap_50 : decode cX4_swap 50 = .ok (.getfield 36, 3) := by decide +kernel
theorem dX4_swap_53 : decode cX4_swap 53 = .ok (.iload 4, 2) := by decide +kernel
theorem dX4_swap_55 : decode cX4_swap 55 = .ok (.iaload, 1) := by decide +kernel
theorem dX4_swap_56 : decode cX4_swap 56 = .ok (.aload_n 0, 1) := by decide +kernel
theorem dX4_swap_57 : decode cX4_swap 57 = .ok (.getfield 36, 3) := by decide +kernel
theorem dX4_swap_60 : decode cX4_swap 60 = .ok (.iload 5, 2) := by decide +kernel
theorem dX4_swap_62 : decode cX4_swap 62 = .ok (.iaload, 1) := by decide +kernel
theorem dX4_swap_63 : decode cX4_swap 63 = .ok (.if_icmp .ne 38, 3) := by decide +kernel
theorem dX4_swap_66 : decode cX4_swap 66 = .ok (.aload_n 0, 1) := by decide +kernel
theorem dX4_swap_67 : decode cX4_swap 67 = .ok (.getfield 39, 3) := by decide +kernel
theorem dX4_swap_70 : decode cX4_swap 70 = .ok (.iload 4, 2) := by decide +kernel
theorem dX4_swap_72 : decode cX4_swap 72 = .ok (.laload, 1) := by decide +kernel
theorem dX4_swap_73 : decode cX4_swap 73 = .ok (.aload_n 0, 1) := by decide +kernel
theorem dX4_swap_74 : decode cX4_swap 74 = .ok (.getfield 39, 3) := by decide +kernel
theorem dX4_swap_77 : decode cX4_swap 77 = .ok (.iload 5, 2) := by decide +kernel
theorem dX4_swap_79 : decode cX4_swap 79 = .ok (.laload, 1) := by decide +kernel
theorem dX4_swap_80 : decode cX4_swap 80 = .ok (.lcmp, 1) := by decide +kernel
theorem dX4_swap_81 : decode cX4_swap 81 = .ok (.ifCond .ne 20, 3) := by decide +kernel
theorem dX4_swap_84 : decode cX4_swap 84 = .ok (.aload_n 0, 1) := by decide +kernel
theorem dX4_swap_85 : decode cX4_swap 85 = .ok (.getfield 45, 3) := by decide +kernel
theorem dX4_swap_88 : decode cX4_swap 88 = .ok (.iload 4, 2) := by decide +kernel
theorem dX4_swap_90 : decode cX4_swap 90 = .ok (.baload, 1) := by decide +kernel
theorem dX4_swap_91 : decode cX4_swap 91 = .ok (.aload_n 0, 1) := by decide +kernel
theorem dX4_swap_92 : decode cX4_swap 92 = .ok (.getfield 45, 3) := by decide +kernel
theorem dX4_swap_95 : decode cX4_swap 95 = .ok (.iload 5, 2) := by decide +kernel
theorem dX4_swap_97 : decode cX4_swap 97 = .ok (.baload, 1) := by decide +kernel
theorem dX4_swap_98 : decode cX4_swap 98 = .ok (.if_icmp .eq 7, 3) := by decide +kernel
theorem dX4_swap_101 : decode cX4_swap 101 = .ok (.iconst 1, 1) := by decide +kernel
theorem dX4_swap_102 : decode cX4_swap 102 = .ok (.goto 4, 3) := by decide +kernel
theorem dX4_swap_105 : decode cX4_swap 105 = .ok (.iconst 0, 1) := by decide +kernel
theorem dX4_swap_106 : decode cX4_swap 106 = .ok (.istore 6, 2) := by decide +kernel
theorem dX4_swap_108 : decode cX4_swap 108 = .ok (.aload_n 0, 1) := by decide +kernel
theorem dX4_swap_109 : decode cX4_swap 109 = .ok (.getfield 36, 3) := by decide +kernel
theorem dX4_swap_112 : decode cX4_swap 112 = .ok (.iload 4, 2) := by decide +kernel
theorem dX4_swap_114 : decode cX4_swap 114 = .ok (.iaload, 1) := by decide +kernel
theorem dX4_swap_115 : decode cX4_swap 115 = .ok (.istore 7, 2) := by decide +kernel
theorem dX4_swap_117 : decode cX4_swap 117 = .ok (.aload_n 0, 1) := by decide +kernel
theorem dX4_swap_118 : decode cX4_swap 118 = .ok (.getfield 39, 3) := by decide +kernel
theorem dX4_swap_121 : decode cX4_swap 121 = .ok (.iload 4, 2) := by decide +kernel
theorem dX4_swap_123 : decode cX4_swap 123 = .ok (.laload, 1) := by decide +kernel
theorem dX4_swap_124 : decode cX4_swap 124 = .ok (.lstore 8, 2) := by decide +kernel
theorem dX4_swap_126 : decode cX4_swap 126 = .ok (.aload_n 0, 1) := by decide +kernel
theorem dX4_swap_127 : decode cX4_swap 127 = .ok (.getfield 45, 3) := by decide +kernel
theorem dX4_swap_130 : decode cX4_swap 130 = .ok (.iload 4, 2) := by decide +kernel
theorem dX4_swap_132 : decode cX4_swap 132 = .ok (.baload, 1) := by decide +kernel
theorem dX4_swap_133 : decode cX4_swap 133 = .ok (.istore 10, 2) := by decide +kernel
theorem dX4_swap_135 : decode cX4_swap 135 = .ok (.aload_n 0, 1) := by decide +kernel
theorem dX4_swap_136 : decode cX4_swap 136 = .ok (.getfield 36, 3) := by decide +kernel
theorem dX4_swap_139 : decode cX4_swap 139 = .ok (.iload 4, 2) := by decide +kernel
theorem dX4_swap_141 : decode cX4_swap 141 = .ok (.aload_n 0, 1) := by decide +kernel
theorem dX4_swap_142 : decode cX4_swap 142 = .ok (.getfield 36, 3) := by decide +kernel
theorem dX4_swap_145 : decode cX4_swap 145 = .ok (.iload 5, 2) := by decide +kernel
theorem dX4_swap_147 : decode cX4_swap 147 = .ok (.iaload, 1) := by decide +kernel
theorem dX4_swap_148 : decode cX4_swap 148 = .ok (.iastore, 1) := by decide +kernel
theorem dX4_swap_149 : decode cX4_swap 149 = .ok (.aload_n 0, 1) := by decide +kernel
theorem dX4_swap_150 : decode cX4_swap 150 = .ok (.getfield 39, 3) := by decide +kernel
theorem dX4_swap_153 : decode cX4_swap 153 = .ok (.iload 4, 2) := by decide +kernel
theorem dX4_swap_155 : decode cX4_swap 155 = .ok (.aload_n 0, 1) := by decide +kernel
theorem dX4_swap_156 : decode cX4_swap 156 = .ok (.getfield 39, 3) := by decide +kernel
theorem dX4_swap_159 : decode cX4_swap 159 = .ok (.iload 5, 2) := by decide +kernel
theorem dX4_swap_161 : decode cX4_swap 161 = .ok (.laload, 1) := by decide +kernel
theorem dX4_swap_162 : decode cX4_swap 162 = .ok (.lastore, 1) := by decide +kernel
theorem dX4_swap_163 : decode cX4_swap 163 = .ok (.aload_n 0, 1) := by decide +kernel
theorem dX4_swap_164 : decode cX4_swap 164 = .ok (.getfield 45, 3) := by decide +kernel
theorem dX4_swap_167 : decode cX4_swap 167 = .ok (.iload 4, 2) := by decide +kernel
theorem dX4_swap_169 : decode cX4_swap 169 = .ok (.aload_n 0, 1) := by decide +kernel
theorem dX4_swap_170 : decode cX4_swap 170 = .ok (.getfield 45, 3) := by decide +kernel
theorem dX4_swap_173 : decode cX4_swap 173 = .ok (.iload 5, 2) := by decide +kernel
theorem dX4_swap_175 : decode cX4_swap 175 = .ok (.baload, 1) := by decide +kernel
theorem dX4_swap_176 : decode cX4_swap 176 = .ok (.bastore, 1) := by decide +kernel
theorem dX4_swap_177 : decode cX4_swap 177 = .ok (.aload_n 0, 1) := by decide +kernel
theorem dX4_swap_178 : decode cX4_swap 178 = .ok (.getfield 36, 3) := by decide +kernel
theorem dX4_swap_181 : decode cX4_swap 181 = .ok (.iload 5, 2) := by decide +kernel
theorem dX4_swap_183 : decode cX4_swap 183 = .ok (.iload 7, 2) := by decide +kernel
theorem dX4_swap_185 : decode cX4_swap 185 = .ok (.iastore, 1) := by decide +kernel
theorem dX4_swap_186 : decode cX4_swap 186 = .ok (.aload_n 0, 1) := by decide +kernel
theorem dX4_swap_187 : decode cX4_swap 187 = .ok (.getfield 39, 3) := by decide +kernel
theorem dX4_swap_190 : decode cX4_swap 190 = .ok (.iload 5, 2) := by decide +kernel
theorem dX4_swap_192 : decode cX4_swap 192 = .ok (.lload 8, 2) := by decide +kernel
theorem dX4_swap_194 : decode cX4_swap 194 = .ok (.lastore, 1) := by decide +kernel
theorem dX4_swap_195 : decode cX4_swap 195 = .ok (.aload_n 0, 1) := by decide +kernel
theorem dX4_swap_196 : decode cX4_swap 196 = .ok (.getfield 45, 3) := by decide +kernel
theorem dX4_swap_199 : decode cX4_swap 199 = .ok (.iload 5, 2) := by decide +kernel
theorem dX4_swap_201 : decode cX4_swap 201 = .ok (.iload 10, 2) := by decide +kernel
theorem dX4_swap_203 : decode cX4_swap 203 = .ok (.bastore, 1) := by decide +kernel
theorem dX4_swap_204 : decode cX4_swap 204 = .ok (.aload_n 0, 1) := by decide +kernel
theorem dX4_swap_205 : decode cX4_swap 205 = .ok (.getfield 29, 3) := by decide +kernel
theorem dX4_swap_208 : decode cX4_swap 208 = .ok (.iload_n 1, 1) := by decide +kernel
theorem dX4_swap_209 : decode cX4_swap 209 = .ok (.iconst 0, 1) := by decide +kernel
theorem dX4_swap_210 : decode cX4_swap 210 = .ok (.bastore, 1) := by decide +kernel
theorem dX4_swap_211 : decode cX4_swap 211 = .ok (.iload 6, 2) := by decide +kernel
theorem dX4_swap_213 : decode cX4_swap 213 = .ok (.ireturn, 1) := by decide +kernel
set_option maxRecDepth 20000 in
theorem ggX4_round_X4_works : GoodIn wsX4_round wsX4_works := goodIn_r _ [16, 17, 18, 15, 19, 20, 21, 22, 23, 24, 25, 26, 27, 28, 29, 30, 31, 32, 33, 34, 35, 36, 37, 38, 39, 40, 41, 42, 43, 44, 45, 46, 47, 48, 49, 50, 51, 52, 53, 54, 55, 56] (by decide +kernel) (by decide +kernel)
set_option maxRecDepth 20000 in
theorem gX4_round_X4_works : GoodIn wsX4_round (va_wsS RX4 171 yX4_works wsX4_works) := goodIn_app (goodIn_of _ (by decide +kernel)) ggX4_round_X4_works
set_option maxRecDepth 20000 in
theorem ggX4_round_X4_order : GoodIn wsX4_round wsX4_order := goodIn_r _ [41, 42, 43, 15, 44, 27, 28, 29, 30, 31, 35, 36, 37, 38, 23, 24, 25, 26] (by decide +kernel) (by decide +kernel)
set_option maxRecDepth 20000 in
theorem gX4_round_X4_order : GoodIn wsX4_round (va_wsS RX4 116 yX4_order wsX4_order) := goodIn_app (goodIn_of _ (by decide +kernel)) ggX4_round_X4_order
theorem dX4_round_0 : decode cX4_round 0 = .ok (.iconst 0, 1) := by decide +kernel
theorem dX4_round_1 : decode cX4_round 1 = .ok (.istore_n 2, 1) := by decide +kernel
theorem dX4_round_2 : decode cX4_round 2 = .ok (.aload_n 0, 1) := by decide +kernel
theorem dX4_round_3 : decode cX4_round 3 = .ok (.getfield 13, 3) := by decide +kernel
theorem dX4_round_6 : decode cX4_round 6 = .ok (.iload_n 1, 1) := by decide +kernel
theorem dX4_round_7 : decode cX4_round 7 = .ok (.laload, 1) := by decide +kernel
theorem dX4_round_8 : decode cX4_round 8 = .ok (.lstore_n 3, 1) := by decide +kernel
theorem dX4_round_9 : decode cX4_round 9 = .ok (.bipush 12, 2) := by decide +kernel
theorem dX4_round_11 : decode cX4_round 11 = .ok (.iload_n 1, 1) := by decide +kernel
theorem dX4_round_12 : decode cX4_round 12 = .ok (.imul, 1) := by decide +kernel
theorem dX4_round_13 : decode cX4_round 13 = .ok (.istore 5, 2) := by decide +kernel
theorem dX4_round_15 : decode cX4_round 15 = .ok (.iload 5, 2) := by decide +kernel
theorem dX4_round_17 : decode cX4_round 17 = .ok (.bipush 12, 2) := by decide +kernel
theorem dX4_round_19 : decode cX4_round 19 = .ok (.iload_n 1, 1) := by decide +kernel
theorem dX4_round_20 : decode cX4_round 20 = .ok (.imul, 1) := by decide +kernel
theorem dX4_round_21 : decode cX4_round 21 = .ok (.aload_n 0, 1) := by decide +kernel
theorem dX4_round_22 : decode cX4_round 22 = .ok (.getfield 26, 3) := by decide +kernel
theorem dX4_round_25 : decode cX4_round 25 = .ok (.iload_n 1, 1) := by decide +kernel
theorem dX4_round_26 : decode cX4_round 26 = .ok (.iaload, 1) := by decide +kernel
theorem dX4_round_27 : decode cX4_round 27 = .ok (.iadd, 1) := by decide +kernel
theorem dX4_round_28 : decode cX4_round 28 = .ok (.if_icmp .ge 90, 3) := by decide +kernel
theorem dX4_round_31 : decode cX4_round 31 = .ok (.aload_n 0, 1) := by decide +kernel
theorem dX4_round_32 : decode cX4_round 32 = .ok (.getfield 45, 3) := by decide +kernel
theorem dX4_round_35 : decode cX4_round 35 = .ok (.iload 5, 2) := by decide +kernel
theorem dX4_round_37 : decode cX4_round 37 = .ok (.baload, 1) := by decide +kernel
theorem dX4_round_38 : decode cX4_round 38 = .ok (.ifCond .eq 25, 3) := by decide +kernel
theorem dX4_round_41 : decode cX4_round 41 = .ok (.iload_n 1, 1) := by decide +kernel
theorem dX4_round_42 : decode cX4_round 42 = .ok (.aload_n 0, 1) := by decide +kernel
theorem dX4_round_43 : decode cX4_round 43 = .ok (.getfield 36, 3) := by decide +kernel
theorem dX4_round_46 : decode cX4_round 46 = .ok (.iload 5, 2) := by decide +kernel
theorem dX4_round_48 : decode cX4_round 48 = .ok (.iaload, 1) := by decide +kernel
theorem dX4_round_49 : decode cX4_round 49 = .ok (.lload_n 3, 1) := by decide +kernel
theorem dX4_round_50 : decode cX4_round 50 = .ok (.aload_n 0, 1) := by decide +kernel
theorem dX4_round_51 : decode cX4_round 51 = .ok (.getfield 39, 3) := by decide +kernel
theorem dX4_round_54 : decode cX4_round 54 = .ok (.iload 5, 2) := by decide +kernel
theorem dX4_round_56 : decode cX4_round 56 = .ok (.laload, 1) := by decide +kernel
theorem dX4_round_57 : decode cX4_round 57 = .ok (.invokestatic 171, 3) := by decide +kernel
theorem dX4_round_60 : decode cX4_round 60 = .ok (.goto 4, 3) := by decide +kernel
theorem dX4_round_63 : decode cX4_round 63 = .ok (.lload_n 3, 1) := by decide +kernel
theorem dX4_round_64 : decode cX4_round 64 = .ok (.lstore 6, 2) := by decide +kernel
theorem dX4_round_66 : decode cX4_round 66 = .ok (.aload_n 0, 1) := by decide +kernel
theorem dX4_round_67 : decode cX4_round 67 = .ok (.getfield 48, 3) := by decide +kernel
theorem dX4_round_70 : decode cX4_round 70 = .ok (.iload 5, 2) := by decide +kernel
theorem dX4_round_72 : decode cX4_round 72 = .ok (.lload 6, 2) := by decide +kernel
theorem dX4_round_74 : decode cX4_round 74 = .ok (.lload_n 3, 1) := by decide +kernel
theorem dX4_round_75 : decode cX4_round 75 = .ok (.lcmp, 1) := by decide +kernel
theorem dX4_round_76 : decode cX4_round 76 = .ok (.ifCond .eq 7, 3) := by decide +kernel
theorem dX4_round_79 : decode cX4_round 79 = .ok (.iconst 1, 1) := by decide +kernel
theorem dX4_round_80 : decode cX4_round 80 = .ok (.goto 4, 3) := by decide +kernel
theorem dX4_round_83 : decode cX4_round 83 = .ok (.iconst 0, 1) := by decide +kernel
theorem dX4_round_84 : decode cX4_round 84 = .ok (.bastore, 1) := by decide +kernel
theorem dX4_round_85 : decode cX4_round 85 = .ok (.aload_n 0, 1) := by decide +kernel
theorem dX4_round_86 : decode cX4_round 86 = .ok (.getfield 42, 3) := by decide +kernel
theorem dX4_round_89 : decode cX4_round 89 = .ok (.iload 5, 2) := by decide +kernel
theorem dX4_round_91 : decode cX4_round 91 = .ok (.lload 6, 2) := by decide +kernel
theorem dX4_round_93 : decode cX4_round 93 = .ok (.lastore, 1) := by decide +kernel
theorem dX4_round_94 : decode cX4_round 94 = .ok (.iload_n 2, 1) := by decide +kernel
theorem dX4_round_95 : decode cX4_round 95 = .ok (.lload 6, 2) := by decide +kernel
theorem dX4_round_97 : decode cX4_round 97 = .ok (.lload_n 3, 1) := by decide +kernel
theorem dX4_round_98 : decode cX4_round 98 = .ok (.lcmp, 1) := by decide +kernel
theorem dX4_round_99 : decode cX4_round 99 = .ok (.ifCond .eq 7, 3) := by decide +kernel
theorem dX4_round_102 : decode cX4_round 102 = .ok (.iconst 1, 1) := by decide +kernel
theorem dX4_round_103 : decode cX4_round 103 = .ok (.goto 4, 3) := by decide +kernel
theorem dX4_round_106 : decode cX4_round 106 = .ok (.iconst 0, 1) := by decide +kernel
theorem dX4_round_107 : decode cX4_round 107 = .ok (.iadd, 1) := by decide +kernel
theorem dX4_round_108 : decode cX4_round 108 = .ok (.istore_n 2, 1) := by decide +kernel
theorem dX4_round_109 : decode cX4_round 109 = .ok (.lload 6, 2) := by decide +kernel
theorem dX4_round_111 : decode cX4_round 111 = .ok (.lstore_n 3, 1) := by decide +kernel
theorem dX4_round_112 : decode cX4_round 112 = .ok (.iinc 5 1, 3) := by decide +kernel
theorem dX4_round_115 : decode cX4_round 115 = .ok (.goto (-100), 3) := by decide +kernel
theorem dX4_round_118 : decode cX4_round 118 = .ok (.aload_n 0, 1) := by decide +kernel
theorem dX4_round_119 : decode cX4_round 119 = .ok (.getfield 13, 3) := by decide +kernel
theorem dX4_round_122 : decode cX4_round 122 = .ok (.iload_n 1, 1) := by decide +kernel
theorem dX4_round_123 : decode cX4_round 123 = .ok (.lload_n 3, 1) := by decide +kernel
theorem dX4_round_124 : decode cX4_round 124 = .ok (.lastore, 1) := by decide +kernel
theorem dX4_round_125 : decode cX4_round 125 = .ok (.aload_n 0, 1) := by decide +kernel
theorem dX4_round_126 : decode cX4_round 126 = .ok (.getfield 33, 3) := by decide +kernel
theorem dX4_round_129 : decode cX4_round 129 = .ok (.iload_n 1, 1) := by decide +kernel
theorem dX4_round_130 : decode cX4_round 130 = .ok (.baload, 1) := by decide +kernel
theorem dX4_round_131 : decode cX4_round 131 = .ok (.ifCond .eq 17, 3) := by decide +kernel
theorem dX4_round_134 : decode cX4_round 134 = .ok (.iload_n 1, 1) := by decide +kernel
theorem dX4_round_135 : decode cX4_round 135 = .ok (.lload_n 3, 1) := by decide +kernel
theorem dX4_round_136 : decode cX4_round 136 = .ok (.aload_n 0, 1) := by decide +kernel
theorem dX4_round_137 : decode cX4_round 137 = .ok (.getfield 16, 3) := by decide +kernel
theorem dX4_round_140 : decode cX4_round 140 = .ok (.iload_n 1, 1) := by decide +kernel
theorem dX4_round_141 : decode cX4_round 141 = .ok (.laload, 1) := by decide +kernel
theorem dX4_round_142 : decode cX4_round 142 = .ok (.invokestatic 116, 3) := by decide +kernel
theorem dX4_round_145 : decode cX4_round 145 = .ok (.ifCond .le 10, 3) := by decide +kernel
theorem dX4_round_148 : decode cX4_round 148 = .ok (.aload_n 0, 1) := by decide +kernel
theorem dX4_round_149 : decode cX4_round 149 = .ok (.getfield 16, 3) := by decide +kernel
theorem dX4_round_152 : decode cX4_round 152 = .ok (.iload_n 1, 1) := by decide +kernel
theorem dX4_round_153 : decode cX4_round 153 = .ok (.lload_n 3, 1) := by decide +kernel
theorem dX4_round_154 : decode cX4_round 154 = .ok (.lastore, 1) := by decide +kernel
theorem dX4_round_155 : decode cX4_round 155 = .ok (.aload_n 0, 1) := by decide +kernel
theorem dX4_round_156 : decode cX4_round 156 = .ok (.getfield 33, 3) := by decide +kernel
theorem dX4_round_159 : decode cX4_round 159 = .ok (.iload_n 1, 1) := by decide +kernel
theorem dX4_round_160 : decode cX4_round 160 = .ok (.baload, 1) := by decide +kernel
theorem dX4_round_161 : decode cX4_round 161 = .ok (.ifCond .eq 17, 3) := by decide +kernel
theorem dX4_round_164 : decode cX4_round 164 = .ok (.iload_n 1, 1) := by decide +kernel
theorem dX4_round_165 : decode cX4_round 165 = .ok (.lload_n 3, 1) := by decide +kernel
theorem dX4_round_166 : decode cX4_round 166 = .ok (.aload_n 0, 1) := by decide +kernel
theorem dX4_round_167 : decode cX4_round 167 = .ok (.getfield 19, 3) := by decide +kernel
theorem dX4_round_170 : decode cX4_round 170 = .ok (.iload_n 1, 1) := by decide +kernel
theorem dX4_round_171 : decode cX4_round 171 = .ok (.laload, 1) := by decide +kernel
theorem dX4_round_172 : decode cX4_round 172 = .ok (.invokestatic 116, 3) := by decide +kernel
theorem dX4_round_175 : decode cX4_round 175 = .ok (.ifCond .ge 10, 3) := by decide +kernel
theorem dX4_round_178 : decode cX4_round 178 = .ok (.aload_n 0, 1) := by decide +kernel
theorem dX4_round_179 : decode cX4_round 179 = .ok (.getfield 19, 3) := by decide +kernel
theorem dX4_round_182 : decode cX4_round 182 = .ok (.iload_n 1, 1) := by decide +kernel
theorem dX4_round_183 : decode cX4_round 183 = .ok (.lload_n 3, 1) := by decide +kernel
theorem dX4_round_184 : decode cX4_round 184 = .ok (.lastore, 1) := by decide +kernel
theorem dX4_round_185 : decode cX4_round 185 = .ok (.aload_n 0, 1) := by decide +kernel
theorem dX4_round_186 : decode cX4_round 186 = .ok (.getfield 33, 3) := by decide +kernel
theorem dX4_round_189 : decode cX4_round 189 = .ok (.iload_n 1, 1) := by decide +kernel
theorem dX4_round_190 : decode cX4_round 190 = .ok (.iconst 1, 1) := by decide +kernel
theorem dX4_round_191 : decode cX4_round 191 = .ok (.bastore, 1) := by decide +kernel
theorem dX4_round_192 : decode cX4_round 192 = .ok (.aload_n 0, 1) := by decide +kernel
theorem dX4_round_193 : decode cX4_round 193 = .ok (.getfield 29, 3) := by decide +kernel
theorem dX4_round_196 : decode cX4_round 196 = .ok (.iload_n 1, 1) := by decide +kernel
theorem dX4_round_197 : decode cX4_round 197 = .ok (.iconst 1, 1) := by decide +kernel
theorem dX4_round_198 : decode cX4_round 198 = .ok (.bastore, 1) := by decide +kernel
theorem dX4_round_199 : decode cX4_round 199 = .ok (.aload_n 0, 1) := by decide +kernel
theorem dX4_round_200 : decode cX4_round 200 = .ok (.getfield 22, 3) := by decide +kernel
theorem dX4_round_203 : decode cX4_round 203 = .ok (.iload_n 1, 1) := by decide +kernel
theorem dX4_round_204 : decode cX4_round 204 = .ok (.dup2, 1) := by decide +kernel
theorem dX4_round_205 : decode cX4_round 205 = .ok (.iaload, 1) := by decide +kernel
theorem dX4_round_206 : decode cX4_round 206 = .ok (.iconst 1, 1) := by decide +kernel
theorem dX4_round_207 : decode cX4_round 207 = .ok (.iadd, 1) := by decide +kernel
theorem dX4_round_208 : decode cX4_round 208 = .ok (.iastore, 1) := by decide +kernel
theorem dX4_round_209 : decode cX4_round 209 = .ok (.iload_n 2, 1) := by decide +kernel
theorem dX4_round_210 : decode cX4_round 210 = .ok (.ireturn, 1) := by decide +kernel
set_option maxRecDepth 20000 in
theorem ggX4_play_X4_isWire : GoodIn wsX4_play wsX4_isWire := goodIn_r _ [4] (by decide +kernel) (by decide +kernel)
set_option maxRecDepth 20000 in
theorem gX4_play_X4_isWire : GoodIn wsX4_play (va_wsS RX4 142 yX4_isWire wsX4_isWire) := goodIn_app (goodIn_of _ (by decide +kernel)) ggX4_play_X4_isWire
set_option maxRecDepth 20000 in
theorem ggX4_play_X4_refuses : GoodIn wsX4_play wsX4_refuses := goodIn_r _ [8, 9, 69, 70, 71, 72, 73, 74, 75, 76, 77, 78, 79, 80, 81, 82, 83, 84, 85, 86] (by decide +kernel) (by decide +kernel)
set_option maxRecDepth 20000 in
theorem gX4_play_X4_refuses : GoodIn wsX4_play (wsV RX4 153 RX4 yX4_refuses wsX4_refuses) := goodIn_app (goodIn_of _ (by decide +kernel)) ggX4_play_X4_refuses
set_option maxRecDepth 20000 in
theorem ggX4_play_X4_round : GoodIn wsX4_play wsX4_round := goodIn_r _ [13, 14, 15, 16, 17, 18, 19, 20, 21, 22, 23, 24, 25, 26, 27, 3, 28, 29, 30, 31, 32, 33, 34, 35, 36, 37, 38, 39, 40, 41, 42, 43, 44, 45, 46, 47, 48, 49, 50, 51, 52, 53, 54, 55, 56, 57, 58, 59, 60, 61, 62, 63, 64, 65, 66, 67, 68, 69, 70, 71, 72, 73, 74, 75, 76, 77, 78, 79, 80, 81, 82, 83, 84, 85, 86] (by decide +kernel) (by decide +kernel)
set_option maxRecDepth 20000 in
theorem gX4_play_X4_round : GoodIn wsX4_play (wsV RX4 175 RX4 yX4_round wsX4_round) := goodIn_app (goodIn_of _ (by decide +kernel)) ggX4_play_X4_round
theorem dX4_play_0 : decode cX4_play 0 = .ok (.aload_n 0, 1) := by decide +kernel
theorem dX4_play_1 : decode cX4_play 1 = .ok (.iload_n 1, 1) := by decide +kernel
theorem dX4_play_2 : decode cX4_play 2 = .ok (.invokestatic 142, 3) := by decide +kernel
theorem dX4_play_5 : decode cX4_play 5 = .ok (.ifCond .eq 14, 3) := by decide +kernel
theorem dX4_play_8 : decode cX4_play 8 = .ok (.iload_n 2, 1) := by decide +kernel
theorem dX4_play_9 : decode cX4_play 9 = .ok (.iconst 1, 1) := by decide +kernel
theorem dX4_play_10 : decode cX4_play 10 = .ok (.if_icmp .lt 9, 3) := by decide +kernel
theorem dX4_play_13 : decode cX4_play 13 = .ok (.iload_n 2, 1) := by decide +kernel
theorem dX4_play_14 : decode cX4_play 14 = .ok (.bipush 50, 2) := by decide +kernel
theorem dX4_play_16 : decode cX4_play 16 = .ok (.if_icmp .le 7, 3) := by decide +kernel
theorem dX4_play_19 : decode cX4_play 19 = .ok (.iconst 1, 1) := by decide +kernel
theorem dX4_play_20 : decode cX4_play 20 = .ok (.goto 4, 3) := by decide +kernel
theorem dX4_play_23 : decode cX4_play 23 = .ok (.iconst 0, 1) := by decide +kernel
theorem dX4_play_24 : decode cX4_play 24 = .ok (.iconst 0, 1) := by decide +kernel
theorem dX4_play_25 : decode cX4_play 25 = .ok (.invokevirtual 153, 3) := by decide +kernel
theorem dX4_play_28 : decode cX4_play 28 = .ok (.ifCond .eq 5, 3) := by decide +kernel
theorem dX4_play_31 : decode cX4_play 31 = .ok (.iconst 0, 1) := by decide +kernel
theorem dX4_play_32 : decode cX4_play 32 = .ok (.ireturn, 1) := by decide +kernel
theorem dX4_play_33 : decode cX4_play 33 = .ok (.iconst 0, 1) := by decide +kernel
theorem dX4_play_34 : decode cX4_play 34 = .ok (.istore_n 3, 1) := by decide +kernel
theorem dX4_play_35 : decode cX4_play 35 = .ok (.iconst 0, 1) := by decide +kernel
theorem dX4_play_36 : decode cX4_play 36 = .ok (.istore 4, 2) := by decide +kernel
theorem dX4_play_38 : decode cX4_play 38 = .ok (.iload 4, 2) := by decide +kernel
theorem dX4_play_40 : decode cX4_play 40 = .ok (.iload_n 2, 1) := by decide +kernel
theorem dX4_play_41 : decode cX4_play 41 = .ok (.if_icmp .ge 17, 3) := by decide +kernel
theorem dX4_play_44 : decode cX4_play 44 = .ok (.iload_n 3, 1) := by decide +kernel
theorem dX4_play_45 : decode cX4_play 45 = .ok (.aload_n 0, 1) := by decide +kernel
theorem dX4_play_46 : decode cX4_play 46 = .ok (.iload_n 1, 1) := by decide +kernel
theorem dX4_play_47 : decode cX4_play 47 = .ok (.invokevirtual 175, 3) := by decide +kernel
theorem dX4_play_50 : decode cX4_play 50 = .ok (.iadd, 1) := by decide +kernel
theorem dX4_play_51 : decode cX4_play 51 = .ok (.istore_n 3, 1) := by decide +kernel
theorem dX4_play_52 : decode cX4_play 52 = .ok (.iinc 4 1, 3) := by decide +kernel
theorem dX4_play_55 : decode cX4_play 55 = .ok (.goto (-17), 3) := by decide +kernel
theorem dX4_play_58 : decode cX4_play 58 = .ok (.iload_n 3, 1) := by decide +kernel
theorem dX4_play_59 : decode cX4_play 59 = .ok (.ireturn, 1) := by decide +kernel
set_option maxRecDepth 20000 in
theorem ggX4_code_X4_isWire : GoodIn wsX4_code wsX4_isWire := goodIn_r _ [9] (by decide +kernel) (by decide +kernel)
set_option maxRecDepth 20000 in
theorem gX4_code_X4_isWire : GoodIn wsX4_code (va_wsS RX4 142 yX4_isWire wsX4_isWire) := goodIn_app (goodIn_of _ (by decide +kernel)) ggX4_code_X4_isWire
set_option maxRecDepth 20000 in
theorem ggX4_code_X4_refuses : GoodIn wsX4_code wsX4_refuses := goodIn_r _ [13, 14, 15, 16, 17, 18, 19, 20, 21, 22, 23, 24, 25, 26, 27, 28, 29, 30, 31, 32] (by decide +kernel) (by decide +kernel)
set_option maxRecDepth 20000 in
theorem gX4_code_X4_refuses : GoodIn wsX4_code (wsV RX4 153 RX4 yX4_refuses wsX4_refuses) := goodIn_app (goodIn_of _ (by decide +kernel)) ggX4_code_X4_refuses
theorem dX4_code_0 : decode cX4_code 0 = .ok (.iload_n 1, 1) := by decide +kernel
theorem dX4_code_1 : decode cX4_code 1 = .ok (.invokestatic 142, 3) := by decide +kernel
theorem dX4_code_4 : decode cX4_code 4 = .ok (.ifCond .eq 12, 3) := by decide +kernel
theorem dX4_code_7 : decode cX4_code 7 = .ok (.iload_n 2, 1) := by decide +kernel
theorem dX4_code_8 : decode cX4_code 8 = .ok (.ifCond .lt 8, 3) := by decide +kernel
theorem dX4_code_11 : decode cX4_code 11 = .ok (.iload_n 2, 1) := by decide +kernel
theorem dX4_code_12 : decode cX4_code 12 = .ok (.iconst 3, 1) := by decide +kernel
theorem dX4_code_13 : decode cX4_code 13 = .ok (.if_icmp .le 7, 3) := by decide +kernel
theorem dX4_code_16 : decode cX4_code 16 = .ok (.iconst 1, 1) := by decide +kernel
theorem dX4_code_17 : decode cX4_code 17 = .ok (.goto 4, 3) := by decide +kernel
theorem dX4_code_20 : decode cX4_code 20 = .ok (.iconst 0, 1) := by decide +kernel
theorem dX4_code_21 : decode cX4_code 21 = .ok (.istore_n 3, 1) := by decide +kernel
theorem dX4_code_22 : decode cX4_code 22 = .ok (.aload_n 0, 1) := by decide +kernel
theorem dX4_code_23 : decode cX4_code 23 = .ok (.iload_n 3, 1) := by decide +kernel
theorem dX4_code_24 : decode cX4_code 24 = .ok (.iload_n 3, 1) := by decide +kernel
theorem dX4_code_25 : decode cX4_code 25 = .ok (.ifCond .ne 29, 3) := by decide +kernel
theorem dX4_code_28 : decode cX4_code 28 = .ok (.iload_n 2, 1) := by decide +kernel
theorem dX4_code_29 : decode cX4_code 29 = .ok (.iconst 1, 1) := by decide +kernel
theorem dX4_code_30 : decode cX4_code 30 = .ok (.if_icmp .le 24, 3) := by decide +kernel
theorem dX4_code_33 : decode cX4_code 33 = .ok (.aload_n 0, 1) := by decide +kernel
theorem dX4_code_34 : decode cX4_code 34 = .ok (.getfield 33, 3) := by decide +kernel
theorem dX4_code_37 : decode cX4_code 37 = .ok (.iload_n 3, 1) := by decide +kernel
theorem dX4_code_38 : decode cX4_code 38 = .ok (.ifCond .eq 7, 3) := by decide +kernel
theorem dX4_code_41 : decode cX4_code 41 = .ok (.iconst 0, 1) := by decide +kernel
theorem dX4_code_42 : decode cX4_code 42 = .ok (.goto 4, 3) := by decide +kernel
theorem dX4_code_45 : decode cX4_code 45 = .ok (.iload_n 1, 1) := by decide +kernel
theorem dX4_code_46 : decode cX4_code 46 = .ok (.baload, 1) := by decide +kernel
theorem dX4_code_47 : decode cX4_code 47 = .ok (.ifCond .ne 7, 3) := by decide +kernel
theorem dX4_code_50 : decode cX4_code 50 = .ok (.iconst 1, 1) := by decide +kernel
theorem dX4_code_51 : decode cX4_code 51 = .ok (.goto 4, 3) := by decide +kernel
theorem dX4_code_54 : decode cX4_code 54 = .ok (.iconst 0, 1) := by decide +kernel
theorem dX4_code_55 : decode cX4_code 55 = .ok (.invokevirtual 153, 3) := by decide +kernel
theorem dX4_code_58 : decode cX4_code 58 = .ok (.ifCond .eq 5, 3) := by decide +kernel
theorem dX4_code_61 : decode cX4_code 61 = .ok (.lconst 0, 1) := by decide +kernel
theorem dX4_code_62 : decode cX4_code 62 = .ok (.lreturn, 1) := by decide +kernel
theorem dX4_code_63 : decode cX4_code 63 = .ok (.iload_n 2, 1) := by decide +kernel
theorem dX4_code_64 : decode cX4_code 64 = .ok (.ifCond .ne 12, 3) := by decide +kernel
theorem dX4_code_67 : decode cX4_code 67 = .ok (.aload_n 0, 1) := by decide +kernel
theorem dX4_code_68 : decode cX4_code 68 = .ok (.getfield 7, 3) := by decide +kernel
theorem dX4_code_71 : decode cX4_code 71 = .ok (.iload_n 1, 1) := by decide +kernel
theorem dX4_code_72 : decode cX4_code 72 = .ok (.laload, 1) := by decide +kernel
theorem dX4_code_73 : decode cX4_code 73 = .ok (.goto 37, 3) := by decide +kernel
theorem dX4_code_76 : decode cX4_code 76 = .ok (.iload_n 2, 1) := by decide +kernel
theorem dX4_code_77 : decode cX4_code 77 = .ok (.iconst 1, 1) := by decide +kernel
theorem dX4_code_78 : decode cX4_code 78 = .ok (.if_icmp .ne 12, 3) := by decide +kernel
theorem dX4_code_81 : decode cX4_code 81 = .ok (.aload_n 0, 1) := by decide +kernel
theorem dX4_code_82 : decode cX4_code 82 = .ok (.getfield 13, 3) := by decide +kernel
theorem dX4_code_85 : decode cX4_code 85 = .ok (.iload_n 1, 1) := by decide +kernel
theorem dX4_code_86 : decode cX4_code 86 = .ok (.laload, 1) := by decide +kernel
theorem dX4_code_87 : decode cX4_code 87 = .ok (.goto 23, 3) := by decide +kernel
theorem dX4_code_90 : decode cX4_code 90 = .ok (.iload_n 2, 1) := by decide +kernel
theorem dX4_code_91 : decode cX4_code 91 = .ok (.iconst 2, 1) := by decide +kernel
theorem dX4_code_92 : decode cX4_code 92 = .ok (.if_icmp .ne 12, 3) := by decide +kernel
theorem dX4_code_95 : decode cX4_code 95 = .ok (.aload_n 0, 1) := by decide +kernel
theorem dX4_code_96 : decode cX4_code 96 = .ok (.getfield 16, 3) := by decide +kernel
theorem dX4_code_99 : decode cX4_code 99 = .ok (.iload_n 1, 1) := by decide +kernel
theorem dX4_code_100 : decode cX4_code 100 = .ok (.laload, 1) := by decide +kernel
theorem dX4_code_101 : decode cX4_code 101 = .ok (.goto 9, 3) := by decide +kernel
theorem dX4_code_104 : decode cX4_code 104 = .ok (.aload_n 0, 1) := by decide +kernel
theorem dX4_code_105 : decode cX4_code 105 = .ok (.getfield 19, 3) := by decide +kernel
theorem dX4_code_108 : decode cX4_code 108 = .ok (.iload_n 1, 1) := by decide +kernel
theorem dX4_code_109 : decode cX4_code 109 = .ok (.laload, 1) := by decide +kernel
theorem dX4_code_110 : decode cX4_code 110 = .ok (.lreturn, 1) := by decide +kernel
set_option maxRecDepth 20000 in
theorem ggX4_trace_X4_isPedal : GoodIn wsX4_trace wsX4_isPedal := goodIn_r _ [7, 8, 9, 10, 6, 11, 17, 18, 19, 20, 21, 22, 23, 24, 25, 26, 27, 28, 29, 30, 31, 32, 33, 34] (by decide +kernel) (by decide +kernel)
set_option maxRecDepth 20000 in
theorem gX4_trace_X4_isPedal : GoodIn wsX4_trace (wsV RX4 168 RX4 yX4_isPedal wsX4_isPedal) := goodIn_app (goodIn_of _ (by decide +kernel)) ggX4_trace_X4_isPedal
set_option maxRecDepth 20000 in
theorem ggX4_trace_X4_refuses : GoodIn wsX4_trace wsX4_refuses := goodIn_r _ [15, 16, 17, 18, 19, 20, 21, 22, 23, 24, 25, 26, 27, 28, 29, 30, 31, 32, 33, 34] (by decide +kernel) (by decide +kernel)
set_option maxRecDepth 20000 in
theorem gX4_trace_X4_refuses : GoodIn wsX4_trace (wsV RX4 153 RX4 yX4_refuses wsX4_refuses) := goodIn_app (goodIn_of _ (by decide +kernel)) ggX4_trace_X4_refuses
theorem dX4_trace_0 : decode cX4_trace 0 = .ok (.aload_n 0, 1) := by decide +kernel
theorem dX4_trace_1 : decode cX4_trace 1 = .ok (.iload_n 1, 1) := by decide +kernel
theorem dX4_trace_2 : decode cX4_trace 2 = .ok (.iload_n 2, 1) := by decide +kernel
theorem dX4_trace_3 : decode cX4_trace 3 = .ok (.invokevirtual 168, 3) := by decide +kernel
theorem dX4_trace_6 : decode cX4_trace 6 = .ok (.ifCond .ne 7, 3) := by decide +kernel
theorem dX4_trace_9 : decode cX4_trace 9 = .ok (.iconst 1, 1) := by decide +kernel
theorem dX4_trace_10 : decode cX4_trace 10 = .ok (.goto 4, 3) := by decide +kernel
theorem dX4_trace_13 : decode cX4_trace 13 = .ok (.iconst 0, 1) := by decide +kernel
theorem dX4_trace_14 : decode cX4_trace 14 = .ok (.istore_n 3, 1) := by decide +kernel
theorem dX4_trace_15 : decode cX4_trace 15 = .ok (.aload_n 0, 1) := by decide +kernel
theorem dX4_trace_16 : decode cX4_trace 16 = .ok (.iload_n 3, 1) := by decide +kernel
theorem dX4_trace_17 : decode cX4_trace 17 = .ok (.iload_n 3, 1) := by decide +kernel
theorem dX4_trace_18 : decode cX4_trace 18 = .ok (.ifCond .ne 24, 3) := by decide +kernel
theorem dX4_trace_21 : decode cX4_trace 21 = .ok (.aload_n 0, 1) := by decide +kernel
theorem dX4_trace_22 : decode cX4_trace 22 = .ok (.getfield 29, 3) := by decide +kernel
theorem dX4_trace_25 : decode cX4_trace 25 = .ok (.iload_n 3, 1) := by decide +kernel
theorem dX4_trace_26 : decode cX4_trace 26 = .ok (.ifCond .eq 7, 3) := by decide +kernel
theorem dX4_trace_29 : decode cX4_trace 29 = .ok (.iconst 0, 1) := by decide +kernel
theorem dX4_trace_30 : decode cX4_trace 30 = .ok (.goto 4, 3) := by decide +kernel
theorem dX4_trace_33 : decode cX4_trace 33 = .ok (.iload_n 1, 1) := by decide +kernel
theorem dX4_trace_34 : decode cX4_trace 34 = .ok (.baload, 1) := by decide +kernel
theorem dX4_trace_35 : decode cX4_trace 35 = .ok (.ifCond .ne 7, 3) := by decide +kernel
theorem dX4_trace_38 : decode cX4_trace 38 = .ok (.iconst 1, 1) := by decide +kernel
theorem dX4_trace_39 : decode cX4_trace 39 = .ok (.goto 4, 3) := by decide +kernel
theorem dX4_trace_42 : decode cX4_trace 42 = .ok (.iconst 0, 1) := by decide +kernel
theorem dX4_trace_43 : decode cX4_trace 43 = .ok (.invokevirtual 153, 3) := by decide +kernel
theorem dX4_trace_46 : decode cX4_trace 46 = .ok (.ifCond .eq 5, 3) := by decide +kernel
theorem dX4_trace_49 : decode cX4_trace 49 = .ok (.lconst 0, 1) := by decide +kernel
theorem dX4_trace_50 : decode cX4_trace 50 = .ok (.lreturn, 1) := by decide +kernel
theorem dX4_trace_51 : decode cX4_trace 51 = .ok (.aload_n 0, 1) := by decide +kernel
theorem dX4_trace_52 : decode cX4_trace 52 = .ok (.getfield 42, 3) := by decide +kernel
theorem dX4_trace_55 : decode cX4_trace 55 = .ok (.bipush 12, 2) := by decide +kernel
theorem dX4_trace_57 : decode cX4_trace 57 = .ok (.iload_n 1, 1) := by decide +kernel
theorem dX4_trace_58 : decode cX4_trace 58 = .ok (.imul, 1) := by decide +kernel
theorem dX4_trace_59 : decode cX4_trace 59 = .ok (.iload_n 2, 1) := by decide +kernel
theorem dX4_trace_60 : decode cX4_trace 60 = .ok (.iadd, 1) := by decide +kernel
theorem dX4_trace_61 : decode cX4_trace 61 = .ok (.laload, 1) := by decide +kernel
theorem dX4_trace_62 : decode cX4_trace 62 = .ok (.lreturn, 1) := by decide +kernel
set_option maxRecDepth 20000 in
theorem ggX4_light_X4_isPedal : GoodIn wsX4_light wsX4_isPedal := goodIn_r _ [8, 9, 10, 11, 7, 12, 13, 14, 15, 16, 17, 18, 19, 20, 21, 22, 23, 24, 25, 26, 27, 28, 29, 30] (by decide +kernel) (by decide +kernel)
set_option maxRecDepth 20000 in
theorem gX4_light_X4_isPedal : GoodIn wsX4_light (wsV RX4 168 RX4 yX4_isPedal wsX4_isPedal) := goodIn_app (goodIn_of _ (by decide +kernel)) ggX4_light_X4_isPedal
end
section
theorem dX4_light_0 : decode cX4_light 0 = .ok (.aload_n 0, 1) := by decide +kernel
theorem dX4_light_1 : decode cX4_light 1 = .ok (.iconst 0, 1) := by decide +kernel
theorem dX4_light_2 : decode cX4_light 2 = .ok (.putfield 63, 3) := by decide +kernel
theorem dX4_light_5 : decode cX4_light 5 = .ok (.aload_n 0, 1) := by decide +kernel
theorem dX4_light_6 : decode cX4_light 6 = .ok (.iload_n 1, 1) := by decide +kernel
theorem dX4_light_7 : decode cX4_light 7 = .ok (.iload_n 2, 1) := by decide +kernel
theorem dX4_light_8 : decode cX4_light 8 = .ok (.invokevirtual 168, 3) := by decide +kernel
theorem dX4_light_11 : decode cX4_light 11 = .ok (.ifCond .eq 30, 3) := by decide +kernel
theorem dX4_light_14 : decode cX4_light 14 = .ok (.aload_n 0, 1) := by decide +kernel
theorem dX4_light_15 : decode cX4_light 15 = .ok (.getfield 29, 3) := by decide +kernel
theorem dX4_light_18 : decode cX4_light 18 = .ok (.iload_n 1, 1) := by decide +kernel
theorem dX4_light_19 : decode cX4_light 19 = .ok (.baload, 1) := by decide +kernel
theorem dX4_light_20 : decode cX4_light 20 = .ok (.ifCond .eq 21, 3) := by decide +kernel
theorem dX4_light_23 : decode cX4_light 23 = .ok (.aload_n 0, 1) := by decide +kernel
theorem dX4_light_24 : decode cX4_light 24 = .ok (.getfield 48, 3) := by decide +kernel
theorem dX4_light_27 : decode cX4_light 27 = .ok (.bipush 12, 2) := by decide +kernel
theorem dX4_light_29 : decode cX4_light 29 = .ok (.iload_n 1, 1) := by decide +kernel
theorem dX4_light_30 : decode cX4_light 30 = .ok (.imul, 1) := by decide +kernel
theorem dX4_light_31 : decode cX4_light 31 = .ok (.iload_n 2, 1) := by decide +kernel
theorem dX4_light_32 : decode cX4_light 32 = .ok (.iadd, 1) := by decide +kernel
theorem dX4_light_33 : decode cX4_light 33 = .ok (.baload, 1) := by decide +kernel
theorem dX4_light_34 : decode cX4_light 34 = .ok (.ifCond .eq 7, 3) := by decide +kernel
theorem dX4_light_37 : decode cX4_light 37 = .ok (.iconst 1, 1) := by decide +kernel
theorem dX4_light_38 : decode cX4_light 38 = .ok (.goto 4, 3) := by decide +kernel
theorem dX4_light_41 : decode cX4_light 41 = .ok (.iconst 0, 1) := by decide +kernel
theorem dX4_light_42 : decode cX4_light 42 = .ok (.ireturn, 1) := by decide +kernel
set_option maxRecDepth 20000 in
theorem ggX4_against_X4_isWire : GoodIn wsX4_against wsX4_isWire := goodIn_r _ [6] (by decide +kernel) (by decide +kernel)
set_option maxRecDepth 20000 in
theorem gX4_against_X4_isWire : GoodIn wsX4_against (va_wsS RX4 142 yX4_isWire wsX4_isWire) := goodIn_app (goodIn_of _ (by decide +kernel)) ggX4_against_X4_isWire
set_option maxRecDepth 20000 in
theorem ggX4_against_X4_refuses : GoodIn wsX4_against wsX4_refuses := goodIn_r _ [10, 11, 31, 32, 33, 34, 35, 36, 37, 38, 39, 40, 41, 42, 43, 44, 45, 46, 47, 48] (by decide +kernel) (by decide +kernel)
set_option maxRecDepth 20000 in
theorem gX4_against_X4_refuses : GoodIn wsX4_against (wsV RX4 153 RX4 yX4_refuses wsX4_refuses) := goodIn_app (goodIn_of _ (by decide +kernel)) ggX4_against_X4_refuses
set_option maxRecDepth 20000 in
theorem ggX4_against_X4_order : GoodIn wsX4_against wsX4_order := goodIn_r _ [14, 15, 16, 5, 17, 18, 19, 20, 21, 22, 23, 24, 25, 26, 27, 28, 29, 30] (by decide +kernel) (by decide +kernel)
set_option maxRecDepth 20000 in
theorem gX4_against_X4_order : GoodIn wsX4_against (va_wsS RX4 116 yX4_order wsX4_order) := goodIn_app (goodIn_of _ (by decide +kernel)) ggX4_against_X4_order
set_option maxRecDepth 20000 in
theorem ggX4_against_X4_size : GoodIn wsX4_against wsX4_size := goodIn_r _ [25, 26, 27, 28, 5, 29, 30, 18, 19, 20, 21, 22] (by decide +kernel) (by decide +kernel)
set_option maxRecDepth 20000 in
theorem gX4_against_X4_size : GoodIn wsX4_against (va_wsS RX4 87 yX4_size wsX4_size) := goodIn_app (goodIn_of _ (by decide +kernel)) ggX4_against_X4_size
theorem dX4_against_0 : decode cX4_against 0 = .ok (.aload_n 0, 1) := by decide +kernel
theorem dX4_against_1 : decode cX4_against 1 = .ok (.iload_n 1, 1) := by decide +kernel
theorem dX4_against_2 : decode cX4_against 2 = .ok (.invokestatic 142, 3) := by decide +kernel
theorem dX4_against_5 : decode cX4_against 5 = .ok (.ifCond .ne 7, 3) := by decide +kernel
theorem dX4_against_8 : decode cX4_against 8 = .ok (.iconst 1, 1) := by decide +kernel
theorem dX4_against_9 : decode cX4_against 9 = .ok (.goto 4, 3) := by decide +kernel
theorem dX4_against_12 : decode cX4_against 12 = .ok (.iconst 0, 1) := by decide +kernel
theorem dX4_against_13 : decode cX4_against 13 = .ok (.iconst 0, 1) := by decide +kernel
theorem dX4_against_14 : decode cX4_against 14 = .ok (.invokevirtual 153, 3) := by decide +kernel
theorem dX4_against_17 : decode cX4_against 17 = .ok (.ifCond .eq 5, 3) := by decide +kernel
theorem dX4_against_20 : decode cX4_against 20 = .ok (.iconst 0, 1) := by decide +kernel
theorem dX4_against_21 : decode cX4_against 21 = .ok (.ireturn, 1) := by decide +kernel
theorem dX4_against_22 : decode cX4_against 22 = .ok (.iload_n 1, 1) := by decide +kernel
theorem dX4_against_23 : decode cX4_against 23 = .ok (.aload_n 0, 1) := by decide +kernel
theorem dX4_against_24 : decode cX4_against 24 = .ok (.getfield 13, 3) := by decide +kernel
theorem dX4_against_27 : decode cX4_against 27 = .ok (.iload_n 1, 1) := by decide +kernel
theorem dX4_against_28 : decode cX4_against 28 = .ok (.laload, 1) := by decide +kernel
theorem dX4_against_29 : decode cX4_against 29 = .ok (.aload_n 0, 1) := by decide +kernel
theorem dX4_against_30 : decode cX4_against 30 = .ok (.getfield 7, 3) := by decide +kernel
theorem dX4_against_33 : decode cX4_against 33 = .ok (.iload_n 1, 1) := by decide +kernel
theorem dX4_against_34 : decode cX4_against 34 = .ok (.laload, 1) := by decide +kernel
theorem dX4_against_35 : decode cX4_against 35 = .ok (.invokestatic 116, 3) := by decide +kernel
theorem dX4_against_38 : decode cX4_against 38 = .ok (.istore_n 2, 1) := by decide +kernel
theorem dX4_against_39 : decode cX4_against 39 = .ok (.iload_n 1, 1) := by decide +kernel
theorem dX4_against_40 : decode cX4_against 40 = .ok (.iconst 1, 1) := by decide +kernel
theorem dX4_against_41 : decode cX4_against 41 = .ok (.if_icmp .le 37, 3) := by decide +kernel
theorem dX4_against_44 : decode cX4_against 44 = .ok (.iload_n 1, 1) := by decide +kernel
theorem dX4_against_45 : decode cX4_against 45 = .ok (.aload_n 0, 1) := by decide +kernel
theorem dX4_against_46 : decode cX4_against 46 = .ok (.getfield 13, 3) := by decide +kernel
theorem dX4_against_49 : decode cX4_against 49 = .ok (.iload_n 1, 1) := by decide +kernel
theorem dX4_against_50 : decode cX4_against 50 = .ok (.laload, 1) := by decide +kernel
theorem dX4_against_51 : decode cX4_against 51 = .ok (.invokestatic 87, 3) := by decide +kernel
theorem dX4_against_54 : decode cX4_against 54 = .ok (.lconst 0, 1) := by decide +kernel
theorem dX4_against_55 : decode cX4_against 55 = .ok (.lcmp, 1) := by decide +kernel
theorem dX4_against_56 : decode cX4_against 56 = .ok (.ifCond .ne 22, 3) := by decide +kernel
theorem dX4_against_59 : decode cX4_against 59 = .ok (.iload_n 1, 1) := by decide +kernel
theorem dX4_against_60 : decode cX4_against 60 = .ok (.aload_n 0, 1) := by decide +kernel
theorem dX4_against_61 : decode cX4_against 61 = .ok (.getfield 7, 3) := by decide +kernel
theorem dX4_against_64 : decode cX4_against 64 = .ok (.iload_n 1, 1) := by decide +kernel
theorem dX4_against_65 : decode cX4_against 65 = .ok (.laload, 1) := by decide +kernel
theorem dX4_against_66 : decode cX4_against 66 = .ok (.invokestatic 87, 3) := by decide +kernel
theorem dX4_against_69 : decode cX4_against 69 = .ok (.lconst 0, 1) := by decide +kernel
theorem dX4_against_70 : decode cX4_against 70 = .ok (.lcmp, 1) := by decide +kernel
theorem dX4_against_71 : decode cX4_against 71 = .ok (.ifCond .ne 7, 3) := by decide +kernel
theorem dX4_against_74 : decode cX4_against 74 = .ok (.iconst 1, 1) := by decide +kernel
theorem dX4_against_75 : decode cX4_against 75 = .ok (.goto 4, 3) := by decide +kernel
theorem dX4_against_78 : decode cX4_against 78 = .ok (.iconst 0, 1) := by decide +kernel
theorem dX4_against_79 : decode cX4_against 79 = .ok (.istore_n 3, 1) := by decide +kernel
theorem dX4_against_80 : decode cX4_against 80 = .ok (.iload_n 3, 1) := by decide +kernel
theorem dX4_against_81 : decode cX4_against 81 = .ok (.ifCond .eq 11, 3) := by decide +kernel
theorem dX4_against_84 : decode cX4_against 84 = .ok (.iload_n 2, 1) := by decide +kernel
theorem dX4_against_85 : decode cX4_against 85 = .ok (.ifCond .eq 7, 3) := by decide +kernel
theorem dX4_against_88 : decode cX4_against 88 = .ok (.iconst 2, 1) := by decide +kernel
theorem dX4_against_89 : decode cX4_against 89 = .ok (.goto 4, 3) := by decide +kernel
theorem dX4_against_92 : decode cX4_against 92 = .ok (.iload_n 2, 1) := by decide +kernel
theorem dX4_against_93 : decode cX4_against 93 = .ok (.ireturn, 1) := by decide +kernel
set_option maxRecDepth 20000 in
theorem ggX4_save_X4_isWire : GoodIn wsX4_save wsX4_isWire := goodIn_r _ [12] (by decide +kernel) (by decide +kernel)
set_option maxRecDepth 20000 in
theorem gX4_save_X4_isWire : GoodIn wsX4_save (va_wsS RX4 142 yX4_isWire wsX4_isWire) := goodIn_app (goodIn_of _ (by decide +kernel)) ggX4_save_X4_isWire
set_option maxRecDepth 20000 in
theorem ggX4_save_X4_refuses : GoodIn wsX4_save wsX4_refuses := goodIn_r _ [16, 17, 18, 19, 20, 21, 22, 23, 24, 25, 26, 27, 28, 29, 30, 31, 32, 33, 34, 35] (by decide +kernel) (by decide +kernel)
set_option maxRecDepth 20000 in
theorem gX4_save_X4_refuses : GoodIn wsX4_save (wsV RX4 153 RX4 yX4_refuses wsX4_refuses) := goodIn_app (goodIn_of _ (by decide +kernel)) ggX4_save_X4_refuses
theorem dX4_save_0 : decode cX4_save 0 = .ok (.aload_n 0, 1) := by decide +kernel
theorem dX4_save_1 : decode cX4_save 1 = .ok (.iload_n 1, 1) := by decide +kernel
theorem dX4_save_2 : decode cX4_save 2 = .ok (.invokestatic 142, 3) := by decide +kernel
theorem dX4_save_5 : decode cX4_save 5 = .ok (.ifCond .eq 12, 3) := by decide +kernel
theorem dX4_save_8 : decode cX4_save 8 = .ok (.iload_n 2, 1) := by decide +kernel
theorem dX4_save_9 : decode cX4_save 9 = .ok (.ifCond .lt 8, 3) := by decide +kernel
theorem dX4_save_12 : decode cX4_save 12 = .ok (.iload_n 2, 1) := by decide +kernel
theorem dX4_save_13 : decode cX4_save 13 = .ok (.iconst 3, 1) := by decide +kernel
theorem dX4_save_14 : decode cX4_save 14 = .ok (.if_icmp .le 7, 3) := by decide +kernel
theorem dX4_save_17 : decode cX4_save 17 = .ok (.iconst 1, 1) := by decide +kernel
theorem dX4_save_18 : decode cX4_save 18 = .ok (.goto 4, 3) := by decide +kernel
theorem dX4_save_21 : decode cX4_save 21 = .ok (.iconst 0, 1) := by decide +kernel
theorem dX4_save_22 : decode cX4_save 22 = .ok (.iconst 0, 1) := by decide +kernel
theorem dX4_save_23 : decode cX4_save 23 = .ok (.invokevirtual 153, 3) := by decide +kernel
theorem dX4_save_26 : decode cX4_save 26 = .ok (.ifCond .eq 5, 3) := by decide +kernel
theorem dX4_save_29 : decode cX4_save 29 = .ok (.iconst 0, 1) := by decide +kernel
theorem dX4_save_30 : decode cX4_save 30 = .ok (.ireturn, 1) := by decide +kernel
theorem dX4_save_31 : decode cX4_save 31 = .ok (.iconst 4, 1) := by decide +kernel
theorem dX4_save_32 : decode cX4_save 32 = .ok (.iload_n 1, 1) := by decide +kernel
theorem dX4_save_33 : decode cX4_save 33 = .ok (.imul, 1) := by decide +kernel
theorem dX4_save_34 : decode cX4_save 34 = .ok (.iload_n 2, 1) := by decide +kernel
theorem dX4_save_35 : decode cX4_save 35 = .ok (.iadd, 1) := by decide +kernel
theorem dX4_save_36 : decode cX4_save 36 = .ok (.istore_n 3, 1) := by decide +kernel
theorem dX4_save_37 : decode cX4_save 37 = .ok (.aload_n 0, 1) := by decide +kernel
theorem dX4_save_38 : decode cX4_save 38 = .ok (.getfield 51, 3) := by decide +kernel
theorem dX4_save_41 : decode cX4_save 41 = .ok (.iload_n 3, 1) := by decide +kernel
theorem dX4_save_42 : decode cX4_save 42 = .ok (.aload_n 0, 1) := by decide +kernel
theorem dX4_save_43 : decode cX4_save 43 = .ok (.getfield 26, 3) := by decide +kernel
theorem dX4_save_46 : decode cX4_save 46 = .ok (.iload_n 1, 1) := by decide +kernel
theorem dX4_save_47 : decode cX4_save 47 = .ok (.iaload, 1) := by decide +kernel
theorem dX4_save_48 : decode cX4_save 48 = .ok (.iastore, 1) := by decide +kernel
theorem dX4_save_49 : decode cX4_save 49 = .ok (.iconst 0, 1) := by decide +kernel
theorem dX4_save_50 : decode cX4_save 50 = .ok (.istore 4, 2) := by decide +kernel
theorem dX4_save_52 : decode cX4_save 52 = .ok (.iload 4, 2) := by decide +kernel
theorem dX4_save_54 : decode cX4_save 54 = .ok (.aload_n 0, 1) := by decide +kernel
theorem dX4_save_55 : decode cX4_save 55 = .ok (.getfield 26, 3) := by decide +kernel
theorem dX4_save_58 : decode cX4_save 58 = .ok (.iload_n 1, 1) := by decide +kernel
theorem dX4_save_59 : decode cX4_save 59 = .ok (.iaload, 1) := by decide +kernel
theorem dX4_save_60 : decode cX4_save 60 = .ok (.if_icmp .ge 81, 3) := by decide +kernel
theorem dX4_save_63 : decode cX4_save 63 = .ok (.aload_n 0, 1) := by decide +kernel
theorem dX4_save_64 : decode cX4_save 64 = .ok (.getfield 54, 3) := by decide +kernel
theorem dX4_save_67 : decode cX4_save 67 = .ok (.bipush 12, 2) := by decide +kernel
theorem dX4_save_69 : decode cX4_save 69 = .ok (.iload_n 3, 1) := by decide +kernel
theorem dX4_save_70 : decode cX4_save 70 = .ok (.imul, 1) := by decide +kernel
theorem dX4_save_71 : decode cX4_save 71 = .ok (.iload 4, 2) := by decide +kernel
theorem dX4_save_73 : decode cX4_save 73 = .ok (.iadd, 1) := by decide +kernel
theorem dX4_save_74 : decode cX4_save 74 = .ok (.aload_n 0, 1) := by decide +kernel
theorem dX4_save_75 : decode cX4_save 75 = .ok (.getfield 36, 3) := by decide +kernel
theorem dX4_save_78 : decode cX4_save 78 = .ok (.bipush 12, 2) := by decide +kernel
theorem dX4_save_80 : decode cX4_save 80 = .ok (.iload_n 1, 1) := by decide +kernel
theorem dX4_save_81 : decode cX4_save 81 = .ok (.imul, 1) := by decide +kernel
theorem dX4_save_82 : decode cX4_save 82 = .ok (.iload 4, 2) := by decide +kernel
theorem dX4_save_84 : decode cX4_save 84 = .ok (.iadd, 1) := by decide +kernel
theorem dX4_save_85 : decode cX4_save 85 = .ok (.iaload, 1) := by decide +kernel
theorem dX4_save_86 : decode cX4_save 86 = .ok (.iastore, 1) := by decide +kernel
theorem dX4_save_87 : decode cX4_save 87 = .ok (.aload_n 0, 1) := by decide +kernel
theorem dX4_save_88 : decode cX4_save 88 = .ok (.getfield 57, 3) := by decide +kernel
theorem dX4_save_91 : decode cX4_save 91 = .ok (.bipush 12, 2) := by decide +kernel
theorem dX4_save_93 : decode cX4_save 93 = .ok (.iload_n 3, 1) := by decide +kernel
theorem dX4_save_94 : decode cX4_save 94 = .ok (.imul, 1) := by decide +kernel
theorem dX4_save_95 : decode cX4_save 95 = .ok (.iload 4, 2) := by decide +kernel
theorem dX4_save_97 : decode cX4_save 97 = .ok (.iadd, 1) := by decide +kernel
theorem dX4_save_98 : decode cX4_save 98 = .ok (.aload_n 0, 1) := by decide +kernel
theorem dX4_save_99 : decode cX4_save 99 = .ok (.getfield 39, 3) := by decide +kernel
theorem dX4_save_102 : decode cX4_save 102 = .ok (.bipush 12, 2) := by decide +kernel
theorem dX4_save_104 : decode cX4_save 104 = .ok (.iload_n 1, 1) := by decide +kernel
theorem dX4_save_105 : decode cX4_save 105 = .ok (.imul, 1) := by decide +kernel
theorem dX4_save_106 : decode cX4_save 106 = .ok (.iload 4, 2) := by decide +kernel
theorem dX4_save_108 : decode cX4_save 108 = .ok (.iadd, 1) := by decide +kernel
theorem dX4_save_109 : decode cX4_save 109 = .ok (.laload, 1) := by decide +kernel
theorem dX4_save_110 : decode cX4_save 110 = .ok (.lastore, 1) := by decide +kernel
theorem dX4_save_111 : decode cX4_save 111 = .ok (.aload_n 0, 1) := by decide +kernel
theorem dX4_save_112 : decode cX4_save 112 = .ok (.getfield 60, 3) := by decide +kernel
theorem dX4_save_115 : decode cX4_save 115 = .ok (.bipush 12, 2) := by decide +kernel
theorem dX4_save_117 : decode cX4_save 117 = .ok (.iload_n 3, 1) := by decide +kernel
theorem dX4_save_118 : decode cX4_save 118 = .ok (.imul, 1) := by decide +kernel
theorem dX4_save_119 : decode cX4_save 119 = .ok (.iload 4, 2) := by decide +kernel
theorem dX4_save_121 : decode cX4_save 121 = .ok (.iadd, 1) := by decide +kernel
theorem dX4_save_122 : decode cX4_save 122 = .ok (.aload_n 0, 1) := by decide +kernel
theorem dX4_save_123 : decode cX4_save 123 = .ok (.getfield 45, 3) := by decide +kernel
theorem dX4_save_126 : decode cX4_save 126 = .ok (.bipush 12, 2) := by decide +kernel
theorem dX4_save_128 : decode cX4_save 128 = .ok (.iload_n 1, 1) := by decide +kernel
theorem dX4_save_129 : decode cX4_save 129 = .ok (.imul, 1) := by decide +kernel
theorem dX4_save_130 : decode cX4_save 130 = .ok (.iload 4, 2) := by decide +kernel
theorem dX4_save_132 : decode cX4_save 132 = .ok (.iadd, 1) := by decide +kernel
theorem dX4_save_133 : decode cX4_save 133 = .ok (.baload, 1) := by decide +kernel
theorem dX4_save_134 : decode cX4_save 134 = .ok (.bastore, 1) := by decide +kernel
theorem dX4_save_135 : decode cX4_save 135 = .ok (.iinc 4 1, 3) := by decide +kernel
theorem dX4_save_138 : decode cX4_save 138 = .ok (.goto (-86), 3) := by decide +kernel
theorem dX4_save_141 : decode cX4_save 141 = .ok (.aload_n 0, 1) := by decide +kernel
theorem dX4_save_142 : decode cX4_save 142 = .ok (.getfield 26, 3) := by decide +kernel
theorem dX4_save_145 : decode cX4_save 145 = .ok (.iload_n 1, 1) := by decide +kernel
theorem dX4_save_146 : decode cX4_save 146 = .ok (.iaload, 1) := by decide +kernel
theorem dX4_save_147 : decode cX4_save 147 = .ok (.ireturn, 1) := by decide +kernel
set_option maxRecDepth 20000 in
theorem ggX4_recall_X4_isWire : GoodIn wsX4_recall wsX4_isWire := goodIn_r _ [13] (by decide +kernel) (by decide +kernel)
set_option maxRecDepth 20000 in
theorem gX4_recall_X4_isWire : GoodIn wsX4_recall (va_wsS RX4 142 yX4_isWire wsX4_isWire) := goodIn_app (goodIn_of _ (by decide +kernel)) ggX4_recall_X4_isWire
set_option maxRecDepth 20000 in
theorem ggX4_recall_X4_refuses : GoodIn wsX4_recall wsX4_refuses := goodIn_r _ [17, 18, 19, 20, 21, 22, 23, 24, 25, 26, 27, 28, 29, 30, 31, 32, 33, 34, 35, 36] (by decide +kernel) (by decide +kernel)
set_option maxRecDepth 20000 in
theorem gX4_recall_X4_refuses : GoodIn wsX4_recall (wsV RX4 153 RX4 yX4_refuses wsX4_refuses) := goodIn_app (goodIn_of _ (by decide +kernel)) ggX4_recall_X4_refuses
theorem dX4_recall_0 : decode cX4_recall 0 = .ok (.aload_n 0, 1) := by decide +kernel
theorem dX4_recall_1 : decode cX4_recall 1 = .ok (.iload_n 1, 1) := by decide +kernel
theorem dX4_recall_2 : decode cX4_recall 2 = .ok (.invokestatic 142, 3) := by decide +kernel
theorem dX4_recall_5 : decode cX4_recall 5 = .ok (.ifCond .eq 12, 3) := by decide +kernel
theorem dX4_recall_8 : decode cX4_recall 8 = .ok (.iload_n 2, 1) := by decide +kernel
theorem dX4_recall_9 : decode cX4_recall 9 = .ok (.ifCond .lt 8, 3) := by decide +kernel
theorem dX4_recall_12 : decode cX4_recall 12 = .ok (.iload_n 2, 1) := by decide +kernel
theorem dX4_recall_13 : decode cX4_recall 13 = .ok (.iconst 3, 1) := by decide +kernel
theorem dX4_recall_14 : decode cX4_recall 14 = .ok (.if_icmp .le 7, 3) := by decide +kernel
theorem dX4_recall_17 : decode cX4_recall 17 = .ok (.iconst 1, 1) := by decide +kernel
theorem dX4_recall_18 : decode cX4_recall 18 = .ok (.goto 4, 3) := by decide +kernel
theorem dX4_recall_21 : decode cX4_recall 21 = .ok (.iconst 0, 1) := by decide +kernel
theorem dX4_recall_22 : decode cX4_recall 22 = .ok (.iconst 0, 1) := by decide +kernel
theorem dX4_recall_23 : decode cX4_recall 23 = .ok (.invokevirtual 153, 3) := by decide +kernel
theorem dX4_recall_26 : decode cX4_recall 26 = .ok (.ifCond .eq 5, 3) := by decide +kernel
theorem dX4_recall_29 : decode cX4_recall 29 = .ok (.iconst 0, 1) := by decide +kernel
theorem dX4_recall_30 : decode cX4_recall 30 = .ok (.ireturn, 1) := by decide +kernel
theorem dX4_recall_31 : decode cX4_recall 31 = .ok (.iconst 4, 1) := by decide +kernel
theorem dX4_recall_32 : decode cX4_recall 32 = .ok (.iload_n 1, 1) := by decide +kernel
theorem dX4_recall_33 : decode cX4_recall 33 = .ok (.imul, 1) := by decide +kernel
theorem dX4_recall_34 : decode cX4_recall 34 = .ok (.iload_n 2, 1) := by decide +kernel
theorem dX4_recall_35 : decode cX4_recall 35 = .ok (.iadd, 1) := by decide +kernel
theorem dX4_recall_36 : decode cX4_recall 36 = .ok (.istore_n 3, 1) := by decide +kernel
theorem dX4_recall_37 : decode cX4_recall 37 = .ok (.aload_n 0, 1) := by decide +kernel
theorem dX4_recall_38 : decode cX4_recall 38 = .ok (.getfield 26, 3) := by decide +kernel
theorem dX4_recall_41 : decode cX4_recall 41 = .ok (.iload_n 1, 1) := by decide +kernel
theorem dX4_recall_42 : decode cX4_recall 42 = .ok (.aload_n 0, 1) := by decide +kernel
theorem dX4_recall_43 : decode cX4_recall 43 = .ok (.getfield 51, 3) := by decide +kernel
theorem dX4_recall_46 : decode cX4_recall 46 = .ok (.iload_n 3, 1) := by decide +kernel
theorem dX4_recall_47 : decode cX4_recall 47 = .ok (.iaload, 1) := by decide +kernel
theorem dX4_recall_48 : decode cX4_recall 48 = .ok (.iastore, 1) := by decide +kernel
theorem dX4_recall_49 : decode cX4_recall 49 = .ok (.iconst 0, 1) := by decide +kernel
theorem dX4_recall_50 : decode cX4_recall 50 = .ok (.istore 4, 2) := by decide +kernel
theorem dX4_recall_52 : decode cX4_recall 52 = .ok (.iload 4, 2) := by decide +kernel
theorem dX4_recall_54 : decode cX4_recall 54 = .ok (.aload_n 0, 1) := by decide +kernel
theorem dX4_recall_55 : decode cX4_recall 55 = .ok (.getfield 26, 3) := by decide +kernel
theorem dX4_recall_58 : decode cX4_recall 58 = .ok (.iload_n 1, 1) := by decide +kernel
theorem dX4_recall_59 : decode cX4_recall 59 = .ok (.iaload, 1) := by decide +kernel
theorem dX4_recall_60 : decode cX4_recall 60 = .ok (.if_icmp .ge 81, 3) := by decide +kernel
theorem dX4_recall_63 : decode cX4_recall 63 = .ok (.aload_n 0, 1) := by decide +kernel
theorem dX4_recall_64 : decode cX4_recall 64 = .ok (.getfield 36, 3) := by decide +kernel
theorem dX4_recall_67 : decode cX4_recall 67 = .ok (.bipush 12, 2) := by decide +kernel
theorem dX4_recall_69 : decode cX4_recall 69 = .ok (.iload_n 1, 1) := by decide +kernel
theorem dX4_recall_70 : decode cX4_recall 70 = .ok (.imul, 1) := by decide +kernel
theorem dX4_recall_71 : decode cX4_recall 71 = .ok (.iload 4, 2) := by decide +kernel
theorem dX4_recall_73 : decode cX4_recall 73 = .ok (.iadd, 1) := by decide +kernel
theorem dX4_recall_74 : decode cX4_recall 74 = .ok (.aload_n 0, 1) := by decide +kernel
theorem dX4_recall_75 : decode cX4_recall 75 = .ok (.getfield 54, 3) := by decide +kernel
theorem dX4_recall_78 : decode cX4_recall 78 = .ok (.bipush 12, 2) := by decide +kernel
theorem dX4_recall_80 : decode cX4_recall 80 = .ok (.iload_n 3, 1) := by decide +kernel
theorem dX4_recall_81 : decode cX4_recall 81 = .ok (.imul, 1) := by decide +kernel
theorem dX4_recall_82 : decode cX4_recall 82 = .ok (.iload 4, 2) := by decide +kernel
theorem dX4_recall_84 : decode cX4_recall 84 = .ok (.iadd, 1) := by decide +kernel
theorem dX4_recall_85 : decode cX4_recall 85 = .ok (.iaload, 1) := by decide +kernel
theorem dX4_recall_86 : decode cX4_recall 86 = .ok (.iastore, 1) := by decide +kernel
theorem dX4_recall_87 : decode cX4_recall 87 = .ok (.aload_n 0, 1) := by decide +kernel
theorem dX4_recall_88 : decode cX4_recall 88 = .ok (.getfield 39, 3) := by decide +kernel
theorem dX4_recall_91 : decode cX4_recall 91 = .ok (.bipush 12, 2) := by decide +kernel
theorem dX4_recall_93 : decode cX4_recall 93 = .ok (.iload_n 1, 1) := by decide +kernel
theorem dX4_recall_94 : decode cX4_recall 94 = .ok (.imul, 1) := by decide +kernel
theorem dX4_recall_95 : decode cX4_recall 95 = .ok (.iload 4, 2) := by decide +kernel
theorem dX4_recall_97 : decode cX4_recall 97 = .ok (.iadd, 1) := by decide +kernel
theorem dX4_recall_98 : decode cX4_recall 98 = .ok (.aload_n 0, 1) := by decide +kernel
theorem dX4_recall_99 : decode cX4_recall 99 = .ok (.getfield 57, 3) := by decide +kernel
theorem dX4_recall_102 : decode cX4_recall 102 = .ok (.bipush 12, 2) := by decide +kernel
theorem dX4_recall_104 : decode cX4_recall 104 = .ok (.iload_n 3, 1) := by decide +kernel
theorem dX4_recall_105 : decode cX4_recall 105 = .ok (.imul, 1) := by decide +kernel
theorem dX4_recall_106 : decode cX4_recall 106 = .ok (.iload 4, 2) := by decide +kernel
theorem dX4_recall_108 : decode cX4_recall 108 = .ok (.iadd, 1) := by decide +kernel
theorem dX4_recall_109 : decode cX4_recall 109 = .ok (.laload, 1) := by decide +kernel
theorem dX4_recall_110 : decode cX4_recall 110 = .ok (.lastore, 1) := by decide +kernel
theorem dX4_recall_111 : decode cX4_recall 111 = .ok (.aload_n 0, 1) := by decide +kernel
theorem dX4_recall_112 : decode cX4_recall 112 = .ok (.getfield 45, 3) := by decide +kernel
theorem dX4_recall_115 : decode cX4_recall 115 = .ok (.bipush 12, 2) := by decide +kernel
theorem dX4_recall_117 : decode cX4_recall 117 = .ok (.iload_n 1, 1) := by decide +kernel
theorem dX4_recall_118 : decode cX4_recall 118 = .ok (.imul, 1) := by decide +kernel
theorem dX4_recall_119 : decode cX4_recall 119 = .ok (.iload 4, 2) := by decide +kernel
theorem dX4_recall_121 : decode cX4_recall 121 = .ok (.iadd, 1) := by decide +kernel
theorem dX4_recall_122 : decode cX4_recall 122 = .ok (.aload_n 0, 1) := by decide +kernel
theorem dX4_recall_123 : decode cX4_recall 123 = .ok (.getfield 60, 3) := by decide +kernel
theorem dX4_recall_126 : decode cX4_recall 126 = .ok (.bipush 12, 2) := by decide +kernel
theorem dX4_recall_128 : decode cX4_recall 128 = .ok (.iload_n 3, 1) := by decide +kernel
theorem dX4_recall_129 : decode cX4_recall 129 = .ok (.imul, 1) := by decide +kernel
theorem dX4_recall_130 : decode cX4_recall 130 = .ok (.iload 4, 2) := by decide +kernel
theorem dX4_recall_132 : decode cX4_recall 132 = .ok (.iadd, 1) := by decide +kernel
theorem dX4_recall_133 : decode cX4_recall 133 = .ok (.baload, 1) := by decide +kernel
theorem dX4_recall_134 : decode cX4_recall 134 = .ok (.bastore, 1) := by decide +kernel
theorem dX4_recall_135 : decode cX4_recall 135 = .ok (.iinc 4 1, 3) := by decide +kernel
theorem dX4_recall_138 : decode cX4_recall 138 = .ok (.goto (-86), 3) := by decide +kernel
theorem dX4_recall_141 : decode cX4_recall 141 = .ok (.aload_n 0, 1) := by decide +kernel
theorem dX4_recall_142 : decode cX4_recall 142 = .ok (.getfield 29, 3) := by decide +kernel
theorem dX4_recall_145 : decode cX4_recall 145 = .ok (.iload_n 1, 1) := by decide +kernel
theorem dX4_recall_146 : decode cX4_recall 146 = .ok (.iconst 0, 1) := by decide +kernel
theorem dX4_recall_147 : decode cX4_recall 147 = .ok (.bastore, 1) := by decide +kernel
theorem dX4_recall_148 : decode cX4_recall 148 = .ok (.aload_n 0, 1) := by decide +kernel
theorem dX4_recall_149 : decode cX4_recall 149 = .ok (.getfield 26, 3) := by decide +kernel
theorem dX4_recall_152 : decode cX4_recall 152 = .ok (.iload_n 1, 1) := by decide +kernel
theorem dX4_recall_153 : decode cX4_recall 153 = .ok (.iaload, 1) := by decide +kernel
theorem dX4_recall_154 : decode cX4_recall 154 = .ok (.ireturn, 1) := by decide +kernel
set_option maxRecDepth 20000 in
theorem ggX4_about_X4_isWire : GoodIn wsX4_about wsX4_isWire := goodIn_r _ [10] (by decide +kernel) (by decide +kernel)
set_option maxRecDepth 20000 in
theorem gX4_about_X4_isWire : GoodIn wsX4_about (va_wsS RX4 142 yX4_isWire wsX4_isWire) := goodIn_app (goodIn_of _ (by decide +kernel)) ggX4_about_X4_isWire
theorem dX4_about_0 : decode cX4_about 0 = .ok (.aload_n 0, 1) := by decide +kernel
theorem dX4_about_1 : decode cX4_about 1 = .ok (.iconst 0, 1) := by decide +kernel
theorem dX4_about_2 : decode cX4_about 2 = .ok (.putfield 63, 3) := by decide +kernel
theorem dX4_about_5 : decode cX4_about 5 = .ok (.iload_n 1, 1) := by decide +kernel
theorem dX4_about_6 : decode cX4_about 6 = .ok (.invokestatic 142, 3) := by decide +kernel
theorem dX4_about_9 : decode cX4_about 9 = .ok (.ifCond .eq 12, 3) := by decide +kernel
theorem dX4_about_12 : decode cX4_about 12 = .ok (.iload_n 2, 1) := by decide +kernel
theorem dX4_about_13 : decode cX4_about 13 = .ok (.ifCond .lt 8, 3) := by decide +kernel
theorem dX4_about_16 : decode cX4_about 16 = .ok (.iload_n 2, 1) := by decide +kernel
theorem dX4_about_17 : decode cX4_about 17 = .ok (.iconst 3, 1) := by decide +kernel
theorem dX4_about_18 : decode cX4_about 18 = .ok (.if_icmp .le 5, 3) := by decide +kernel
theorem dX4_about_21 : decode cX4_about 21 = .ok (.iconst (-1), 1) := by decide +kernel
theorem dX4_about_22 : decode cX4_about 22 = .ok (.ireturn, 1) := by decide +kernel
theorem dX4_about_23 : decode cX4_about 23 = .ok (.iload_n 2, 1) := by decide +kernel
theorem dX4_about_24 : decode cX4_about 24 = .ok (.ifCond .ne 10, 3) := by decide +kernel
theorem dX4_about_27 : decode cX4_about 27 = .ok (.aload_n 0, 1) := by decide +kernel
theorem dX4_about_28 : decode cX4_about 28 = .ok (.getfield 26, 3) := by decide +kernel
theorem dX4_about_31 : decode cX4_about 31 = .ok (.iload_n 1, 1) := by decide +kernel
theorem dX4_about_32 : decode cX4_about 32 = .ok (.iaload, 1) := by decide +kernel
theorem dX4_about_33 : decode cX4_about 33 = .ok (.ireturn, 1) := by decide +kernel
theorem dX4_about_34 : decode cX4_about 34 = .ok (.iload_n 2, 1) := by decide +kernel
theorem dX4_about_35 : decode cX4_about 35 = .ok (.iconst 3, 1) := by decide +kernel
theorem dX4_about_36 : decode cX4_about 36 = .ok (.if_icmp .ne 10, 3) := by decide +kernel
theorem dX4_about_39 : decode cX4_about 39 = .ok (.aload_n 0, 1) := by decide +kernel
theorem dX4_about_40 : decode cX4_about 40 = .ok (.getfield 22, 3) := by decide +kernel
theorem dX4_about_43 : decode cX4_about 43 = .ok (.iload_n 1, 1) := by decide +kernel
theorem dX4_about_44 : decode cX4_about 44 = .ok (.iaload, 1) := by decide +kernel
theorem dX4_about_45 : decode cX4_about 45 = .ok (.ireturn, 1) := by decide +kernel
theorem dX4_about_46 : decode cX4_about 46 = .ok (.iconst 0, 1) := by decide +kernel
theorem dX4_about_47 : decode cX4_about 47 = .ok (.istore_n 3, 1) := by decide +kernel
theorem dX4_about_48 : decode cX4_about 48 = .ok (.bipush 12, 2) := by decide +kernel
theorem dX4_about_50 : decode cX4_about 50 = .ok (.iload_n 1, 1) := by decide +kernel
theorem dX4_about_51 : decode cX4_about 51 = .ok (.imul, 1) := by decide +kernel
theorem dX4_about_52 : decode cX4_about 52 = .ok (.istore 4, 2) := by decide +kernel
theorem dX4_about_54 : decode cX4_about 54 = .ok (.iload 4, 2) := by decide +kernel
theorem dX4_about_56 : decode cX4_about 56 = .ok (.bipush 12, 2) := by decide +kernel
theorem dX4_about_58 : decode cX4_about 58 = .ok (.iload_n 1, 1) := by decide +kernel
theorem dX4_about_59 : decode cX4_about 59 = .ok (.imul, 1) := by decide +kernel
theorem dX4_about_60 : decode cX4_about 60 = .ok (.aload_n 0, 1) := by decide +kernel
theorem dX4_about_61 : decode cX4_about 61 = .ok (.getfield 26, 3) := by decide +kernel
theorem dX4_about_64 : decode cX4_about 64 = .ok (.iload_n 1, 1) := by decide +kernel
theorem dX4_about_65 : decode cX4_about 65 = .ok (.iaload, 1) := by decide +kernel
theorem dX4_about_66 : decode cX4_about 66 = .ok (.iadd, 1) := by decide +kernel
theorem dX4_about_67 : decode cX4_about 67 = .ok (.if_icmp .ge 59, 3) := by decide +kernel
theorem dX4_about_70 : decode cX4_about 70 = .ok (.iload_n 3, 1) := by decide +kernel
theorem dX4_about_71 : decode cX4_about 71 = .ok (.iload_n 2, 1) := by decide +kernel
theorem dX4_about_72 : decode cX4_about 72 = .ok (.iconst 1, 1) := by decide +kernel
theorem dX4_about_73 : decode cX4_about 73 = .ok (.if_icmp .ne 21, 3) := by decide +kernel
theorem dX4_about_76 : decode cX4_about 76 = .ok (.aload_n 0, 1) := by decide +kernel
theorem dX4_about_77 : decode cX4_about 77 = .ok (.getfield 45, 3) := by decide +kernel
theorem dX4_about_80 : decode cX4_about 80 = .ok (.iload 4, 2) := by decide +kernel
theorem dX4_about_82 : decode cX4_about 82 = .ok (.baload, 1) := by decide +kernel
theorem dX4_about_83 : decode cX4_about 83 = .ok (.ifCond .eq 7, 3) := by decide +kernel
theorem dX4_about_86 : decode cX4_about 86 = .ok (.iconst 1, 1) := by decide +kernel
theorem dX4_about_87 : decode cX4_about 87 = .ok (.goto 31, 3) := by decide +kernel
theorem dX4_about_90 : decode cX4_about 90 = .ok (.iconst 0, 1) := by decide +kernel
theorem dX4_about_91 : decode cX4_about 91 = .ok (.goto 27, 3) := by decide +kernel
theorem dX4_about_94 : decode cX4_about 94 = .ok (.aload_n 0, 1) := by decide +kernel
theorem dX4_about_95 : decode cX4_about 95 = .ok (.getfield 29, 3) := by decide +kernel
theorem dX4_about_98 : decode cX4_about 98 = .ok (.iload_n 1, 1) := by decide +kernel
theorem dX4_about_99 : decode cX4_about 99 = .ok (.baload, 1) := by decide +kernel
theorem dX4_about_100 : decode cX4_about 100 = .ok (.ifCond .eq 17, 3) := by decide +kernel
theorem dX4_about_103 : decode cX4_about 103 = .ok (.aload_n 0, 1) := by decide +kernel
theorem dX4_about_104 : decode cX4_about 104 = .ok (.getfield 48, 3) := by decide +kernel
theorem dX4_about_107 : decode cX4_about 107 = .ok (.iload 4, 2) := by decide +kernel
theorem dX4_about_109 : decode cX4_about 109 = .ok (.baload, 1) := by decide +kernel
theorem dX4_about_110 : decode cX4_about 110 = .ok (.ifCond .eq 7, 3) := by decide +kernel
theorem dX4_about_113 : decode cX4_about 113 = .ok (.iconst 1, 1) := by decide +kernel
theorem dX4_about_114 : decode cX4_about 114 = .ok (.goto 4, 3) := by decide +kernel
theorem dX4_about_117 : decode cX4_about 117 = .ok (.iconst 0, 1) := by decide +kernel
theorem dX4_about_118 : decode cX4_about 118 = .ok (.iadd, 1) := by decide +kernel
theorem dX4_about_119 : decode cX4_about 119 = .ok (.istore_n 3, 1) := by decide +kernel
theorem dX4_about_120 : decode cX4_about 120 = .ok (.iinc 4 1, 3) := by decide +kernel
theorem dX4_about_123 : decode cX4_about 123 = .ok (.goto (-69), 3) := by decide +kernel
theorem dX4_about_126 : decode cX4_about 126 = .ok (.iload_n 3, 1) := by decide +kernel
theorem dX4_about_127 : decode cX4_about 127 = .ok (.ireturn, 1) := by decide +kernel
theorem dJ9_max_7cf53_0 : decode cJ9_max_7cf53 0 = .ok (.iload_n 0, 1) := by decide +kernel
theorem dJ9_max_7cf53_1 : decode cJ9_max_7cf53 1 = .ok (.iload_n 1, 1) := by decide +kernel
theorem dJ9_max_7cf53_2 : decode cJ9_max_7cf53 2 = .ok (.if_icmp .lt 7, 3) := by decide +kernel
theorem dJ9_max_7cf53_5 : decode cJ9_max_7cf53 5 = .ok (.iload_n 0, 1) := by decide +kernel
theorem dJ9_max_7cf53_6 : decode cJ9_max_7cf53 6 = .ok (.goto 4, 3) := by decide +kernel
theorem dJ9_max_7cf53_9 : decode cJ9_max_7cf53 9 = .ok (.iload_n 1, 1) := by decide +kernel
theorem dJ9_max_7cf53_10 : decode cJ9_max_7cf53 10 = .ok (.ireturn, 1) := by decide +kernel
theorem dJ9_min_f86c9_0 : decode cJ9_min_f86c9 0 = .ok (.lload_n 0, 1) := by decide +kernel
theorem dJ9_min_f86c9_1 : decode cJ9_min_f86c9 1 = .ok (.lload_n 2, 1) := by decide +kernel
theorem dJ9_min_f86c9_2 : decode cJ9_min_f86c9 2 = .ok (.lcmp, 1) := by decide +kernel
theorem dJ9_min_f86c9_3 : decode cJ9_min_f86c9 3 = .ok (.ifCond .gt 7, 3) := by decide +kernel
theorem dJ9_min_f86c9_6 : decode cJ9_min_f86c9 6 = .ok (.lload_n 0, 1) := by decide +kernel
theorem dJ9_min_f86c9_7 : decode cJ9_min_f86c9 7 = .ok (.goto 4, 3) := by decide +kernel
theorem dJ9_min_f86c9_10 : decode cJ9_min_f86c9 10 = .ok (.lload_n 2, 1) := by decide +kernel
theorem dJ9_min_f86c9_11 : decode cJ9_min_f86c9 11 = .ok (.lreturn, 1) := by decide +kernel
set_option maxRecDepth 20000 in
theorem ggL_put_X3_put : GoodIn wsL_put wsX3_put := goodIn_ca (goodIn_r _ [6, 7, 8, 9, 5, 10, 11, 12, 13, 14, 15, 16, 17, 18, 19, 20, 21, 22, 23, 24, 25, 26, 27, 28, 29, 30, 31, 32, 33, 34, 35, 36, 37, 38, 39, 40, 41, 42, 43, 44, 45, 46, 47, 48, 49, 50, 51, 52, 53, 54, 55, 56, 57, 58, 59, 60, 61, 62, 63, 64] (by decide +kernel) (by decide +kernel)) (goodIn_sub (fun _ h => List.mem_cons_of_mem _ (List.mem_append_right _ h)) (by decide +kernel))
set_option maxRecDepth 20000 in
theorem gL_put_X3_put : GoodIn wsL_put (wsV RL 7 RX3 yX3_put wsX3_put) := goodIn_app (goodIn_of _ (by decide +kernel)) ggL_put_X3_put
theorem dL_put_0 : decode cL_put 0 = .ok (.aload 4, 2) := by decide +kernel
theorem dL_put_2 : decode cL_put 2 = .ok (.iconst 0, 1) := by decide +kernel
theorem dL_put_3 : decode cL_put 3 = .ok (.aload_n 0, 1) := by decide +kernel
theorem dL_put_4 : decode cL_put 4 = .ok (.iload_n 1, 1) := by decide +kernel
theorem dL_put_5 : decode cL_put 5 = .ok (.iload_n 2, 1) := by decide +kernel
theorem dL_put_6 : decode cL_put 6 = .ok (.iload_n 3, 1) := by decide +kernel
theorem dL_put_7 : decode cL_put 7 = .ok (.invokevirtual 7, 3) := by decide +kernel
theorem dL_put_10 : decode cL_put 10 = .ok (.ifCond .eq 7, 3) := by decide +kernel
theorem dL_put_13 : decode cL_put 13 = .ok (.lconst 1, 1) := by decide +kernel
theorem dL_put_14 : decode cL_put 14 = .ok (.goto 4, 3) := by decide +kernel
theorem dL_put_17 : decode cL_put 17 = .ok (.lconst 0, 1) := by decide +kernel
theorem dL_put_18 : decode cL_put 18 = .ok (.lastore, 1) := by decide +kernel
theorem dL_put_19 : decode cL_put 19 = .ok (.goto 7, 3) := by decide +kernel
theorem dL_put_22 : decode cL_put 22 = .ok (.astore 5, 2) := by decide +kernel
end
section
theorem dL_put_24 : decode cL_put 24 = .ok (.iconst 1, 1) := by decide +kernel
theorem dL_put_25 : decode cL_put 25 = .ok (.ireturn, 1) := by decide +kernel
theorem dL_put_26 : decode cL_put 26 = .ok (.iconst 0, 1) := by decide +kernel
theorem dL_put_27 : decode cL_put 27 = .ok (.ireturn, 1) := by decide +kernel
set_option maxRecDepth 20000 in
theorem ggL_pedal_X3_pedal : GoodIn wsL_pedal wsX3_pedal := goodIn_ca (goodIn_ca (goodIn_r _ [7, 8, 9, 10, 11, 12, 13, 14, 15, 16, 17, 6, 18, 19, 20, 21, 22, 23, 24, 25, 26, 27, 28, 29, 30, 31, 32, 33, 34, 35, 36, 37, 38, 39, 40, 41, 42, 43, 44, 45, 46, 47, 48, 49, 50, 51, 52, 53, 54, 55, 56, 57, 58, 59, 60, 61, 62, 63, 64, 65, 66, 67, 68, 69, 70, 71, 72, 73, 74, 75, 76, 77, 78, 79, 80, 81, 82] (by decide +kernel) (by decide +kernel)) (goodIn_sub (fun _ h => List.mem_cons_of_mem _ (List.mem_append_left _ (List.mem_append_right _ h))) (by decide +kernel))) (goodIn_sub (fun _ h => List.mem_cons_of_mem _ (List.mem_append_right _ h)) (by decide +kernel))
set_option maxRecDepth 20000 in
theorem gL_pedal_X3_pedal : GoodIn wsL_pedal (wsV RL 15 RX3 yX3_pedal wsX3_pedal) := goodIn_app (goodIn_of _ (by decide +kernel)) ggL_pedal_X3_pedal
theorem dL_pedal_0 : decode cL_pedal 0 = .ok (.aload 5, 2) := by decide +kernel
theorem dL_pedal_2 : decode cL_pedal 2 = .ok (.iconst 0, 1) := by decide +kernel
theorem dL_pedal_3 : decode cL_pedal 3 = .ok (.aload_n 0, 1) := by decide +kernel
theorem dL_pedal_4 : decode cL_pedal 4 = .ok (.iload_n 1, 1) := by decide +kernel
theorem dL_pedal_5 : decode cL_pedal 5 = .ok (.iload_n 2, 1) := by decide +kernel
theorem dL_pedal_6 : decode cL_pedal 6 = .ok (.iload_n 3, 1) := by decide +kernel
theorem dL_pedal_7 : decode cL_pedal 7 = .ok (.iload 4, 2) := by decide +kernel
theorem dL_pedal_9 : decode cL_pedal 9 = .ok (.invokevirtual 15, 3) := by decide +kernel
theorem dL_pedal_12 : decode cL_pedal 12 = .ok (.i2l, 1) := by decide +kernel
theorem dL_pedal_13 : decode cL_pedal 13 = .ok (.lastore, 1) := by decide +kernel
theorem dL_pedal_14 : decode cL_pedal 14 = .ok (.goto 11, 3) := by decide +kernel
theorem dL_pedal_17 : decode cL_pedal 17 = .ok (.astore 6, 2) := by decide +kernel
theorem dL_pedal_19 : decode cL_pedal 19 = .ok (.iconst 1, 1) := by decide +kernel
theorem dL_pedal_20 : decode cL_pedal 20 = .ok (.ireturn, 1) := by decide +kernel
theorem dL_pedal_21 : decode cL_pedal 21 = .ok (.astore 6, 2) := by decide +kernel
theorem dL_pedal_23 : decode cL_pedal 23 = .ok (.iconst 2, 1) := by decide +kernel
theorem dL_pedal_24 : decode cL_pedal 24 = .ok (.ireturn, 1) := by decide +kernel
theorem dL_pedal_25 : decode cL_pedal 25 = .ok (.iconst 0, 1) := by decide +kernel
theorem dL_pedal_26 : decode cL_pedal 26 = .ok (.ireturn, 1) := by decide +kernel
set_option maxRecDepth 20000 in
theorem ggL_turn_X3_turn : GoodIn wsL_turn wsX3_turn := goodIn_ca (goodIn_r _ [6, 7, 8, 9, 10, 11, 5, 12, 13, 14, 15, 16, 17, 18, 19, 20, 21, 22, 23, 24, 25, 26, 27, 28, 29, 30, 31, 32, 33, 34, 35, 36, 37, 38, 39, 40, 41, 42, 43, 44, 45, 46, 47, 48, 49, 50, 51, 52, 53, 54, 55, 56, 57, 58, 59, 60, 61, 62, 63, 64, 65, 66, 67, 68, 69, 70] (by decide +kernel) (by decide +kernel)) (goodIn_sub (fun _ h => List.mem_cons_of_mem _ (List.mem_append_right _ h)) (by decide +kernel))
set_option maxRecDepth 20000 in
theorem gL_turn_X3_turn : GoodIn wsL_turn (wsV RL 21 RX3 yX3_turn wsX3_turn) := goodIn_app (goodIn_of _ (by decide +kernel)) ggL_turn_X3_turn
theorem dL_turn_0 : decode cL_turn 0 = .ok (.aload 5, 2) := by decide +kernel
theorem dL_turn_2 : decode cL_turn 2 = .ok (.iconst 0, 1) := by decide +kernel
theorem dL_turn_3 : decode cL_turn 3 = .ok (.aload_n 0, 1) := by decide +kernel
theorem dL_turn_4 : decode cL_turn 4 = .ok (.iload_n 1, 1) := by decide +kernel
theorem dL_turn_5 : decode cL_turn 5 = .ok (.iload_n 2, 1) := by decide +kernel
theorem dL_turn_6 : decode cL_turn 6 = .ok (.iload_n 3, 1) := by decide +kernel
theorem dL_turn_7 : decode cL_turn 7 = .ok (.iload 4, 2) := by decide +kernel
theorem dL_turn_9 : decode cL_turn 9 = .ok (.invokevirtual 21, 3) := by decide +kernel
theorem dL_turn_12 : decode cL_turn 12 = .ok (.ifCond .eq 7, 3) := by decide +kernel
theorem dL_turn_15 : decode cL_turn 15 = .ok (.lconst 1, 1) := by decide +kernel
theorem dL_turn_16 : decode cL_turn 16 = .ok (.goto 4, 3) := by decide +kernel
theorem dL_turn_19 : decode cL_turn 19 = .ok (.lconst 0, 1) := by decide +kernel
theorem dL_turn_20 : decode cL_turn 20 = .ok (.lastore, 1) := by decide +kernel
theorem dL_turn_21 : decode cL_turn 21 = .ok (.goto 7, 3) := by decide +kernel
theorem dL_turn_24 : decode cL_turn 24 = .ok (.astore 6, 2) := by decide +kernel
theorem dL_turn_26 : decode cL_turn 26 = .ok (.iconst 1, 1) := by decide +kernel
theorem dL_turn_27 : decode cL_turn 27 = .ok (.ireturn, 1) := by decide +kernel
theorem dL_turn_28 : decode cL_turn 28 = .ok (.iconst 0, 1) := by decide +kernel
theorem dL_turn_29 : decode cL_turn 29 = .ok (.ireturn, 1) := by decide +kernel
set_option maxRecDepth 20000 in
theorem ggL_tap_X3_tap : GoodIn wsL_tap wsX3_tap := goodIn_ca (goodIn_r _ [6, 7, 8, 9, 10, 11, 5, 12, 13, 14, 15, 16, 17, 18, 19, 20, 21, 22, 23, 24, 25, 26, 27, 28, 29, 30, 31, 32, 33, 34, 35, 36, 37, 38, 39, 40, 41, 42, 43] (by decide +kernel) (by decide +kernel)) (goodIn_sub (fun _ h => List.mem_cons_of_mem _ (List.mem_append_right _ h)) (by decide +kernel))
set_option maxRecDepth 20000 in
theorem gL_tap_X3_tap : GoodIn wsL_tap (wsV RL 25 RX3 yX3_tap wsX3_tap) := goodIn_app (goodIn_of _ (by decide +kernel)) ggL_tap_X3_tap
theorem dL_tap_0 : decode cL_tap 0 = .ok (.aload_n 3, 1) := by decide +kernel
theorem dL_tap_1 : decode cL_tap 1 = .ok (.iconst 0, 1) := by decide +kernel
theorem dL_tap_2 : decode cL_tap 2 = .ok (.aload_n 0, 1) := by decide +kernel
theorem dL_tap_3 : decode cL_tap 3 = .ok (.iload_n 1, 1) := by decide +kernel
theorem dL_tap_4 : decode cL_tap 4 = .ok (.iload_n 2, 1) := by decide +kernel
theorem dL_tap_5 : decode cL_tap 5 = .ok (.invokevirtual 25, 3) := by decide +kernel
theorem dL_tap_8 : decode cL_tap 8 = .ok (.ifCond .eq 7, 3) := by decide +kernel
theorem dL_tap_11 : decode cL_tap 11 = .ok (.lconst 1, 1) := by decide +kernel
theorem dL_tap_12 : decode cL_tap 12 = .ok (.goto 4, 3) := by decide +kernel
theorem dL_tap_15 : decode cL_tap 15 = .ok (.lconst 0, 1) := by decide +kernel
theorem dL_tap_16 : decode cL_tap 16 = .ok (.lastore, 1) := by decide +kernel
theorem dL_tap_17 : decode cL_tap 17 = .ok (.goto 7, 3) := by decide +kernel
theorem dL_tap_20 : decode cL_tap 20 = .ok (.astore 4, 2) := by decide +kernel
theorem dL_tap_22 : decode cL_tap 22 = .ok (.iconst 1, 1) := by decide +kernel
theorem dL_tap_23 : decode cL_tap 23 = .ok (.ireturn, 1) := by decide +kernel
theorem dL_tap_24 : decode cL_tap 24 = .ok (.iconst 0, 1) := by decide +kernel
theorem dL_tap_25 : decode cL_tap 25 = .ok (.ireturn, 1) := by decide +kernel
set_option maxRecDepth 20000 in
theorem ggL_swap_X3_swap : GoodIn wsL_swap wsX3_swap := goodIn_ca (goodIn_r _ [6, 7, 8, 9, 10, 11, 5, 12, 13, 14, 15, 16, 17, 18, 19, 20, 21, 22, 23, 24, 25, 26, 27, 28, 29, 30, 31, 32, 33, 34, 35, 36, 37, 38, 39, 40, 41, 42, 43, 44, 45, 46, 47, 48, 49, 50, 51, 52, 53, 54] (by decide +kernel) (by decide +kernel)) (goodIn_sub (fun _ h => List.mem_cons_of_mem _ (List.mem_append_right _ h)) (by decide +kernel))
set_option maxRecDepth 20000 in
theorem gL_swap_X3_swap : GoodIn wsL_swap (wsV RL 29 RX3 yX3_swap wsX3_swap) := goodIn_app (goodIn_of _ (by decide +kernel)) ggL_swap_X3_swap
theorem dL_swap_0 : decode cL_swap 0 = .ok (.aload 4, 2) := by decide +kernel
theorem dL_swap_2 : decode cL_swap 2 = .ok (.iconst 0, 1) := by decide +kernel
theorem dL_swap_3 : decode cL_swap 3 = .ok (.aload_n 0, 1) := by decide +kernel
theorem dL_swap_4 : decode cL_swap 4 = .ok (.iload_n 1, 1) := by decide +kernel
theorem dL_swap_5 : decode cL_swap 5 = .ok (.iload_n 2, 1) := by decide +kernel
theorem dL_swap_6 : decode cL_swap 6 = .ok (.iload_n 3, 1) := by decide +kernel
theorem dL_swap_7 : decode cL_swap 7 = .ok (.invokevirtual 29, 3) := by decide +kernel
theorem dL_swap_10 : decode cL_swap 10 = .ok (.ifCond .eq 7, 3) := by decide +kernel
theorem dL_swap_13 : decode cL_swap 13 = .ok (.lconst 1, 1) := by decide +kernel
theorem dL_swap_14 : decode cL_swap 14 = .ok (.goto 4, 3) := by decide +kernel
theorem dL_swap_17 : decode cL_swap 17 = .ok (.lconst 0, 1) := by decide +kernel
theorem dL_swap_18 : decode cL_swap 18 = .ok (.lastore, 1) := by decide +kernel
theorem dL_swap_19 : decode cL_swap 19 = .ok (.goto 7, 3) := by decide +kernel
theorem dL_swap_22 : decode cL_swap 22 = .ok (.astore 5, 2) := by decide +kernel
theorem dL_swap_24 : decode cL_swap 24 = .ok (.iconst 1, 1) := by decide +kernel
theorem dL_swap_25 : decode cL_swap 25 = .ok (.ireturn, 1) := by decide +kernel
theorem dL_swap_26 : decode cL_swap 26 = .ok (.iconst 0, 1) := by decide +kernel
theorem dL_swap_27 : decode cL_swap 27 = .ok (.ireturn, 1) := by decide +kernel
set_option maxRecDepth 20000 in
theorem ggL_play_X3_play : GoodIn wsL_play wsX3_play := goodIn_ca (goodIn_r _ [6, 7, 8, 9, 10, 11, 5, 12, 13, 14, 15, 16, 17, 18, 19, 20, 21, 22, 23, 24, 25, 26, 27, 28, 29, 30, 31, 32, 33, 34, 35, 36, 37, 38, 39, 40, 41, 42, 43, 44, 45, 46, 47, 48, 49, 50, 51, 52, 53, 54, 55, 56, 57, 58, 59, 60, 61, 62, 63, 64, 65, 66, 67, 68, 69, 70, 71, 72, 73, 74, 75, 76, 77, 78, 79, 80, 81, 82, 83, 84, 85, 86, 87, 88, 89, 90, 91, 92, 93, 94, 95, 96, 97, 98, 99, 100, 101, 102, 103, 104, 105, 106, 107, 108, 109, 110, 111, 112, 113, 114, 115] (by decide +kernel) (by decide +kernel)) (goodIn_sub (fun _ h => List.mem_cons_of_mem _ (List.mem_append_right _ h)) (by decide +kernel))
set_option maxRecDepth 20000 in
theorem gL_play_X3_play : GoodIn wsL_play (wsV RL 32 RX3 yX3_play wsX3_play) := goodIn_app (goodIn_of _ (by decide +kernel)) ggL_play_X3_play
theorem dL_play_0 : decode cL_play 0 = .ok (.aload_n 3, 1) := by decide +kernel
theorem dL_play_1 : decode cL_play 1 = .ok (.iconst 0, 1) := by decide +kernel
theorem dL_play_2 : decode cL_play 2 = .ok (.aload_n 0, 1) := by decide +kernel
theorem dL_play_3 : decode cL_play 3 = .ok (.iload_n 1, 1) := by decide +kernel
theorem dL_play_4 : decode cL_play 4 = .ok (.iload_n 2, 1) := by decide +kernel
theorem dL_play_5 : decode cL_play 5 = .ok (.invokevirtual 32, 3) := by decide +kernel
theorem dL_play_8 : decode cL_play 8 = .ok (.i2l, 1) := by decide +kernel
theorem dL_play_9 : decode cL_play 9 = .ok (.lastore, 1) := by decide +kernel
theorem dL_play_10 : decode cL_play 10 = .ok (.goto 7, 3) := by decide +kernel
theorem dL_play_13 : decode cL_play 13 = .ok (.astore 4, 2) := by decide +kernel
theorem dL_play_15 : decode cL_play 15 = .ok (.iconst 1, 1) := by decide +kernel
theorem dL_play_16 : decode cL_play 16 = .ok (.ireturn, 1) := by decide +kernel
theorem dL_play_17 : decode cL_play 17 = .ok (.iconst 0, 1) := by decide +kernel
theorem dL_play_18 : decode cL_play 18 = .ok (.ireturn, 1) := by decide +kernel
set_option maxRecDepth 20000 in
theorem ggL_code_X3_code : GoodIn wsL_code wsX3_code := goodIn_ca (goodIn_ca (goodIn_r _ [7, 8, 9, 10, 11, 12, 13, 14, 15, 16, 17, 18, 6, 19, 20, 21, 22, 23, 24, 25, 26, 27, 28, 29, 30, 31, 32, 33, 34, 35, 36, 37, 38, 39, 40, 41] (by decide +kernel) (by decide +kernel)) (goodIn_sub (fun _ h => List.mem_cons_of_mem _ (List.mem_append_left _ (List.mem_append_right _ h))) (by decide +kernel))) (goodIn_sub (fun _ h => List.mem_cons_of_mem _ (List.mem_append_right _ h)) (by decide +kernel))
set_option maxRecDepth 20000 in
theorem gL_code_X3_code : GoodIn wsL_code (wsV RL 36 RX3 yX3_code wsX3_code) := goodIn_app (goodIn_of _ (by decide +kernel)) ggL_code_X3_code
theorem dL_code_0 : decode cL_code 0 = .ok (.aload_n 3, 1) := by decide +kernel
theorem dL_code_1 : decode cL_code 1 = .ok (.iconst 0, 1) := by decide +kernel
theorem dL_code_2 : decode cL_code 2 = .ok (.aload_n 0, 1) := by decide +kernel
theorem dL_code_3 : decode cL_code 3 = .ok (.iload_n 1, 1) := by decide +kernel
theorem dL_code_4 : decode cL_code 4 = .ok (.iload_n 2, 1) := by decide +kernel
theorem dL_code_5 : decode cL_code 5 = .ok (.invokevirtual 36, 3) := by decide +kernel
theorem dL_code_8 : decode cL_code 8 = .ok (.lastore, 1) := by decide +kernel
theorem dL_code_9 : decode cL_code 9 = .ok (.goto 11, 3) := by decide +kernel
theorem dL_code_12 : decode cL_code 12 = .ok (.astore 4, 2) := by decide +kernel
theorem dL_code_14 : decode cL_code 14 = .ok (.iconst 1, 1) := by decide +kernel
theorem dL_code_15 : decode cL_code 15 = .ok (.ireturn, 1) := by decide +kernel
theorem dL_code_16 : decode cL_code 16 = .ok (.astore 4, 2) := by decide +kernel
theorem dL_code_18 : decode cL_code 18 = .ok (.iconst 2, 1) := by decide +kernel
theorem dL_code_19 : decode cL_code 19 = .ok (.ireturn, 1) := by decide +kernel
theorem dL_code_20 : decode cL_code 20 = .ok (.iconst 0, 1) := by decide +kernel
theorem dL_code_21 : decode cL_code 21 = .ok (.ireturn, 1) := by decide +kernel
set_option maxRecDepth 20000 in
theorem ggL_trace_X3_trace : GoodIn wsL_trace wsX3_trace := goodIn_ca (goodIn_ca (goodIn_r _ [7, 8, 9, 10, 11, 12, 13, 14, 6, 15, 16, 17, 18, 19, 20, 21, 22, 23, 24, 25, 26, 27, 28, 29, 30, 31, 32, 33, 34, 35, 36, 37, 38, 39, 40, 41, 42, 43, 44, 45, 46, 47] (by decide +kernel) (by decide +kernel)) (goodIn_sub (fun _ h => List.mem_cons_of_mem _ (List.mem_append_left _ (List.mem_append_right _ h))) (by decide +kernel))) (goodIn_sub (fun _ h => List.mem_cons_of_mem _ (List.mem_append_right _ h)) (by decide +kernel))
set_option maxRecDepth 20000 in
theorem gL_trace_X3_trace : GoodIn wsL_trace (wsV RL 40 RX3 yX3_trace wsX3_trace) := goodIn_app (goodIn_of _ (by decide +kernel)) ggL_trace_X3_trace
theorem dL_trace_0 : decode cL_trace 0 = .ok (.aload_n 3, 1) := by decide +kernel
theorem dL_trace_1 : decode cL_trace 1 = .ok (.iconst 0, 1) := by decide +kernel
theorem dL_trace_2 : decode cL_trace 2 = .ok (.aload_n 0, 1) := by decide +kernel
theorem dL_trace_3 : decode cL_trace 3 = .ok (.iload_n 1, 1) := by decide +kernel
theorem dL_trace_4 : decode cL_trace 4 = .ok (.iload_n 2, 1) := by decide +kernel
theorem dL_trace_5 : decode cL_trace 5 = .ok (.invokevirtual 40, 3) := by decide +kernel
theorem dL_trace_8 : decode cL_trace 8 = .ok (.lastore, 1) := by decide +kernel
theorem dL_trace_9 : decode cL_trace 9 = .ok (.goto 11, 3) := by decide +kernel
theorem dL_trace_12 : decode cL_trace 12 = .ok (.astore 4, 2) := by decide +kernel
theorem dL_trace_14 : decode cL_trace 14 = .ok (.iconst 1, 1) := by decide +kernel
theorem dL_trace_15 : decode cL_trace 15 = .ok (.ireturn, 1) := by decide +kernel
theorem dL_trace_16 : decode cL_trace 16 = .ok (.astore 4, 2) := by decide +kernel
theorem dL_trace_18 : decode cL_trace 18 = .ok (.iconst 2, 1) := by decide +kernel
theorem dL_trace_19 : decode cL_trace 19 = .ok (.ireturn, 1) := by decide +kernel
theorem dL_trace_20 : decode cL_trace 20 = .ok (.iconst 0, 1) := by decide +kernel
theorem dL_trace_21 : decode cL_trace 21 = .ok (.ireturn, 1) := by decide +kernel
set_option maxRecDepth 20000 in
theorem ggL_against_X3_against : GoodIn wsL_against wsX3_against := goodIn_ca (goodIn_r _ [6, 7, 8, 9, 10, 11, 12, 5, 13, 14, 15, 16, 17, 18, 19, 20, 21, 22, 23, 24, 25, 26, 27, 28, 29, 30, 31, 32, 33, 34, 35, 36, 37, 38, 39, 40, 41, 42, 43, 44, 45, 46, 47, 48, 49, 50] (by decide +kernel) (by decide +kernel)) (goodIn_sub (fun _ h => List.mem_cons_of_mem _ (List.mem_append_right _ h)) (by decide +kernel))
set_option maxRecDepth 20000 in
theorem gL_against_X3_against : GoodIn wsL_against (wsV RL 43 RX3 yX3_against wsX3_against) := goodIn_app (goodIn_of _ (by decide +kernel)) ggL_against_X3_against
theorem dL_against_0 : decode cL_against 0 = .ok (.aload_n 2, 1) := by decide +kernel
theorem dL_against_1 : decode cL_against 1 = .ok (.iconst 0, 1) := by decide +kernel
theorem dL_against_2 : decode cL_against 2 = .ok (.aload_n 0, 1) := by decide +kernel
theorem dL_against_3 : decode cL_against 3 = .ok (.iload_n 1, 1) := by decide +kernel
theorem dL_against_4 : decode cL_against 4 = .ok (.invokevirtual 43, 3) := by decide +kernel
theorem dL_against_7 : decode cL_against 7 = .ok (.i2l, 1) := by decide +kernel
theorem dL_against_8 : decode cL_against 8 = .ok (.lastore, 1) := by decide +kernel
theorem dL_against_9 : decode cL_against 9 = .ok (.goto 6, 3) := by decide +kernel
theorem dL_against_12 : decode cL_against 12 = .ok (.astore_n 3, 1) := by decide +kernel
theorem dL_against_13 : decode cL_against 13 = .ok (.iconst 1, 1) := by decide +kernel
theorem dL_against_14 : decode cL_against 14 = .ok (.ireturn, 1) := by decide +kernel
theorem dL_against_15 : decode cL_against 15 = .ok (.iconst 0, 1) := by decide +kernel
theorem dL_against_16 : decode cL_against 16 = .ok (.ireturn, 1) := by decide +kernel
set_option maxRecDepth 20000 in
theorem ggL_save_X3_save : GoodIn wsL_save wsX3_save := goodIn_ca (goodIn_r _ [6, 7, 8, 9, 10, 11, 5, 12, 13, 14, 15, 16, 17, 18, 19, 20, 21, 22, 23, 24, 25, 26, 27, 28, 29, 30, 31, 32, 33, 34, 35, 36, 37, 38, 39, 40, 41, 42, 43, 44, 45, 46, 47] (by decide +kernel) (by decide +kernel)) (goodIn_sub (fun _ h => List.mem_cons_of_mem _ (List.mem_append_right _ h)) (by decide +kernel))
set_option maxRecDepth 20000 in
theorem gL_save_X3_save : GoodIn wsL_save (wsV RL 47 RX3 yX3_save wsX3_save) := goodIn_app (goodIn_of _ (by decide +kernel)) ggL_save_X3_save
theorem dL_save_0 : decode cL_save 0 = .ok (.aload_n 3, 1) := by decide +kernel
theorem dL_save_1 : decode cL_save 1 = .ok (.iconst 0, 1) := by decide +kernel
theorem dL_save_2 : decode cL_save 2 = .ok (.aload_n 0, 1) := by decide +kernel
theorem dL_save_3 : decode cL_save 3 = .ok (.iload_n 1, 1) := by decide +kernel
theorem dL_save_4 : decode cL_save 4 = .ok (.iload_n 2, 1) := by decide +kernel
theorem dL_save_5 : decode cL_save 5 = .ok (.invokevirtual 47, 3) := by decide +kernel
theorem dL_save_8 : decode cL_save 8 = .ok (.i2l, 1) := by decide +kernel
theorem dL_save_9 : decode cL_save 9 = .ok (.lastore, 1) := by decide +kernel
theorem dL_save_10 : decode cL_save 10 = .ok (.goto 7, 3) := by decide +kernel
theorem dL_save_13 : decode cL_save 13 = .ok (.astore 4, 2) := by decide +kernel
theorem dL_save_15 : decode cL_save 15 = .ok (.iconst 1, 1) := by decide +kernel
theorem dL_save_16 : decode cL_save 16 = .ok (.ireturn, 1) := by decide +kernel
theorem dL_save_17 : decode cL_save 17 = .ok (.iconst 0, 1) := by decide +kernel
theorem dL_save_18 : decode cL_save 18 = .ok (.ireturn, 1) := by decide +kernel
set_option maxRecDepth 20000 in
theorem ggL_recall_X3_recall : GoodIn wsL_recall wsX3_recall := goodIn_ca (goodIn_r _ [6, 7, 8, 9, 10, 11, 12, 5, 13, 14, 15, 16, 17, 18, 19, 20, 21, 22, 23, 24, 25, 26, 27, 28, 29, 30, 31, 32, 33, 34, 35, 36, 37, 38, 39, 40, 41, 42, 43, 44, 45, 46, 47, 48] (by decide +kernel) (by decide +kernel)) (goodIn_sub (fun _ h => List.mem_cons_of_mem _ (List.mem_append_right _ h)) (by decide +kernel))
set_option maxRecDepth 20000 in
theorem gL_recall_X3_recall : GoodIn wsL_recall (wsV RL 50 RX3 yX3_recall wsX3_recall) := goodIn_app (goodIn_of _ (by decide +kernel)) ggL_recall_X3_recall
theorem dL_recall_0 : decode cL_recall 0 = .ok (.aload_n 3, 1) := by decide +kernel
theorem dL_recall_1 : decode cL_recall 1 = .ok (.iconst 0, 1) := by decide +kernel
theorem dL_recall_2 : decode cL_recall 2 = .ok (.aload_n 0, 1) := by decide +kernel
theorem dL_recall_3 : decode cL_recall 3 = .ok (.iload_n 1, 1) := by decide +kernel
theorem dL_recall_4 : decode cL_recall 4 = .ok (.iload_n 2, 1) := by decide +kernel
theorem dL_recall_5 : decode cL_recall 5 = .ok (.invokevirtual 50, 3) := by decide +kernel
theorem dL_recall_8 : decode cL_recall 8 = .ok (.i2l, 1) := by decide +kernel
theorem dL_recall_9 : decode cL_recall 9 = .ok (.lastore, 1) := by decide +kernel
theorem dL_recall_10 : decode cL_recall 10 = .ok (.goto 7, 3) := by decide +kernel
theorem dL_recall_13 : decode cL_recall 13 = .ok (.astore 4, 2) := by decide +kernel
theorem dL_recall_15 : decode cL_recall 15 = .ok (.iconst 1, 1) := by decide +kernel
theorem dL_recall_16 : decode cL_recall 16 = .ok (.ireturn, 1) := by decide +kernel
theorem dL_recall_17 : decode cL_recall 17 = .ok (.iconst 0, 1) := by decide +kernel
theorem dL_recall_18 : decode cL_recall 18 = .ok (.ireturn, 1) := by decide +kernel
set_option maxRecDepth 20000 in
theorem ggL_patch_X3_patch : GoodIn wsL_patch wsX3_patch := goodIn_ca (goodIn_r _ [6, 7, 8, 9, 10, 11, 5, 12, 13, 14, 15, 16, 17, 18, 19, 20, 21, 22, 23, 24, 25, 26, 27, 28, 29, 30, 31, 32, 33, 34, 35, 36, 37, 38, 39, 40, 41, 42, 43, 44, 45, 46, 47, 48, 49, 50, 51, 52, 53, 54, 55, 56, 57, 58, 59, 60, 61, 62, 63, 64, 65, 66, 67, 68, 69, 70, 71, 72, 73, 74, 75, 76, 77, 78, 79, 80, 81, 82, 83, 84, 85, 86, 87, 88, 89, 90, 91, 92, 93] (by decide +kernel) (by decide +kernel)) (goodIn_sub (fun _ h => List.mem_cons_of_mem _ (List.mem_append_right _ h)) (by decide +kernel))
set_option maxRecDepth 20000 in
theorem gL_patch_X3_patch : GoodIn wsL_patch (wsV RL 53 RX3 yX3_patch wsX3_patch) := goodIn_app (goodIn_of _ (by decide +kernel)) ggL_patch_X3_patch
theorem dL_patch_0 : decode cL_patch 0 = .ok (.aload_n 3, 1) := by decide +kernel
theorem dL_patch_1 : decode cL_patch 1 = .ok (.iconst 0, 1) := by decide +kernel
theorem dL_patch_2 : decode cL_patch 2 = .ok (.aload_n 0, 1) := by decide +kernel
theorem dL_patch_3 : decode cL_patch 3 = .ok (.iload_n 1, 1) := by decide +kernel
theorem dL_patch_4 : decode cL_patch 4 = .ok (.iload_n 2, 1) := by decide +kernel
theorem dL_patch_5 : decode cL_patch 5 = .ok (.invokevirtual 53, 3) := by decide +kernel
theorem dL_patch_8 : decode cL_patch 8 = .ok (.lastore, 1) := by decide +kernel
theorem dL_patch_9 : decode cL_patch 9 = .ok (.goto 7, 3) := by decide +kernel
theorem dL_patch_12 : decode cL_patch 12 = .ok (.astore 4, 2) := by decide +kernel
theorem dL_patch_14 : decode cL_patch 14 = .ok (.iconst 1, 1) := by decide +kernel
theorem dL_patch_15 : decode cL_patch 15 = .ok (.ireturn, 1) := by decide +kernel
theorem dL_patch_16 : decode cL_patch 16 = .ok (.iconst 0, 1) := by decide +kernel
theorem dL_patch_17 : decode cL_patch 17 = .ok (.ireturn, 1) := by decide +kernel
set_option maxRecDepth 20000 in
theorem ggL_law_X3_init : GoodIn wsL_law wsX3_init := goodIn_r _ [9, 10, 11, 12, 13, 14, 15, 16, 17, 18, 19, 20, 21, 22, 23, 24, 25, 26, 27, 6, 28, 29, 30, 31, 32, 33, 34, 35, 36, 37, 38, 514, 533, 534, 535, 536, 537, 538, 539, 540, 541, 542, 543, 544, 545, 546, 547] (by decide +kernel) (by decide +kernel)
set_option maxRecDepth 20000 in
theorem gL_law_X3_init : GoodIn wsL_law (wsX3_init) := ggL_law_X3_init
set_option maxRecDepth 20000 in
theorem ggL_law_X4_init : GoodIn wsL_law wsX4_init := goodIn_r _ [41, 42, 11, 12, 6, 43, 44, 45, 46, 35, 47, 48, 29, 49, 50, 51, 52, 53, 54, 55, 56, 57, 58, 59, 515, 516, 517, 518, 519, 520, 521, 522, 523, 524, 525, 526, 527, 528, 529, 530, 531, 532] (by decide +kernel) (by decide +kernel)
set_option maxRecDepth 20000 in
theorem gL_law_X4_init : GoodIn wsL_law (wsX4_init) := ggL_law_X4_init
set_option maxRecDepth 20000 in
theorem ggL_law_L_put : GoodIn wsL_law wsL_put := goodIn_ca (goodIn_r _ [63, 64, 65, 66, 67, 2, 68, 69, 70, 71, 72, 73, 74, 14, 75, 76, 77, 78, 79, 80, 81, 82, 83, 84, 85, 86, 87, 88, 89, 90, 91, 92, 93, 94, 95, 96, 97, 98, 99, 100, 101, 102, 103, 104, 105, 106, 107, 16, 108, 109, 110, 111, 112, 514, 533, 534, 535, 536, 537, 538, 539, 540, 541, 542, 543] (by decide +kernel) (by decide +kernel)) (goodIn_sub (fun _ h => List.mem_append_left _ (List.mem_append_right _ h)) (by decide +kernel))
set_option maxRecDepth 20000 in
theorem gL_law_L_put : GoodIn wsL_law (va_wsS RL 60 yL_put wsL_put) := goodIn_app (goodIn_of _ (by decide +kernel)) ggL_law_L_put
set_option maxRecDepth 20000 in
theorem ggL_law_X4_put : GoodIn wsL_law wsX4_put := goodIn_r _ [116, 117, 118, 5, 119, 120, 121, 122, 123, 124, 125, 126, 127, 128, 129, 130, 131, 132, 133, 134, 135, 136, 137, 138, 139, 140, 141, 142, 143, 144, 145, 146, 147, 148, 149, 150, 151, 152, 43, 44, 47, 50, 49, 515, 516, 517, 518, 519, 520, 521, 522, 523, 524, 525, 526, 527, 528, 529, 530, 531, 532] (by decide +kernel) (by decide +kernel)
set_option maxRecDepth 20000 in
theorem gL_law_X4_put : GoodIn wsL_law (wsV RL 65 RX4 yX4_put wsX4_put) := goodIn_app (goodIn_of _ (by decide +kernel)) ggL_law_X4_put
set_option maxRecDepth 20000 in
theorem ggL_law_X4_thrown : GoodIn wsL_law wsX4_thrown := goodIn_r _ [156, 148, 515, 516, 517, 518, 519, 520, 521, 522, 523, 524, 525, 526, 527, 528, 529, 530, 531, 532] (by decide +kernel) (by decide +kernel)
set_option maxRecDepth 20000 in
theorem gL_law_X4_thrown : GoodIn wsL_law (wsV RL 66 RX4 yX4_thrown wsX4_thrown) := goodIn_app (goodIn_of _ (by decide +kernel)) ggL_law_X4_thrown
set_option maxRecDepth 20000 in
theorem ggL_law_L_pedal : GoodIn wsL_law wsL_pedal := goodIn_ca (goodIn_ca (goodIn_r _ [159, 64, 160, 161, 162, 163, 2, 164, 73, 74, 165, 166, 81, 167, 168, 69, 70, 71, 72, 14, 75, 76, 77, 169, 170, 171, 85, 172, 94, 95, 96, 97, 98, 78, 79, 80, 82, 83, 84, 86, 87, 88, 89, 90, 91, 92, 93, 99, 100, 101, 102, 103, 104, 173, 174, 175, 25, 176, 177, 178, 179, 180, 181, 36, 37, 38, 182, 533, 534, 535, 536, 537, 538, 539, 540, 541, 542, 543, 514, 544, 545, 546, 547] (by decide +kernel) (by decide +kernel)) (goodIn_sub (fun _ h => List.mem_append_left _ (List.mem_append_right _ h)) (by decide +kernel))) (goodIn_sub (fun _ h => List.mem_append_right _ h) (by decide +kernel))
set_option maxRecDepth 20000 in
theorem gL_law_L_pedal : GoodIn wsL_law (va_wsS RL 70 yL_pedal wsL_pedal) := goodIn_app (goodIn_of _ (by decide +kernel)) ggL_law_L_pedal
set_option maxRecDepth 20000 in
theorem ggL_law_X4_pedal : GoodIn wsL_law wsX4_pedal := goodIn_r _ [186, 48, 51, 52, 54, 49, 117, 118, 5, 119, 187, 188, 189, 120, 121, 122, 123, 124, 125, 126, 127, 128, 129, 130, 131, 132, 133, 134, 135, 136, 137, 138, 139, 140, 141, 142, 143, 144, 145, 146, 147, 148, 515, 516, 517, 518, 519, 520, 521, 522, 523, 524, 525, 526, 527, 528, 529, 530, 531, 532] (by decide +kernel) (by decide +kernel)
set_option maxRecDepth 20000 in
theorem gL_law_X4_pedal : GoodIn wsL_law (wsV RL 73 RX4 yX4_pedal wsX4_pedal) := goodIn_app (goodIn_of _ (by decide +kernel)) ggL_law_X4_pedal
set_option maxRecDepth 20000 in
theorem ggL_law_L_turn : GoodIn wsL_law wsL_turn := goodIn_ca (goodIn_r _ [192, 64, 193, 194, 195, 2, 196, 167, 197, 69, 70, 71, 72, 73, 74, 14, 75, 76, 77, 198, 199, 200, 201, 202, 203, 25, 204, 177, 78, 79, 80, 81, 82, 83, 84, 85, 86, 87, 88, 89, 90, 91, 92, 93, 94, 95, 96, 97, 98, 99, 100, 101, 102, 103, 104, 533, 534, 535, 536, 537, 538, 539, 540, 541, 542, 543, 544, 545, 546, 547, 514] (by decide +kernel) (by decide +kernel)) (goodIn_sub (fun _ h => List.mem_append_left _ (List.mem_append_right _ h)) (by decide +kernel))
set_option maxRecDepth 20000 in
theorem gL_law_L_turn : GoodIn wsL_law (va_wsS RL 74 yL_turn wsL_turn) := goodIn_app (goodIn_of _ (by decide +kernel)) ggL_law_L_turn
set_option maxRecDepth 20000 in
theorem ggL_law_X4_turn : GoodIn wsL_law wsX4_turn := goodIn_r _ [208, 52, 209, 210, 211, 5, 212, 48, 117, 118, 119, 120, 121, 122, 123, 124, 125, 126, 127, 128, 129, 130, 131, 132, 133, 134, 135, 136, 137, 138, 139, 140, 141, 142, 143, 144, 145, 146, 147, 148, 515, 516, 517, 518, 519, 520, 521, 522, 523, 524, 525, 526, 527, 528, 529, 530, 531, 532] (by decide +kernel) (by decide +kernel)
set_option maxRecDepth 20000 in
theorem gL_law_X4_turn : GoodIn wsL_law (wsV RL 76 RX4 yX4_turn wsX4_turn) := goodIn_app (goodIn_of _ (by decide +kernel)) ggL_law_X4_turn
set_option maxRecDepth 20000 in
theorem ggL_law_L_tap : GoodIn wsL_law wsL_tap := goodIn_ca (goodIn_r _ [215, 64, 216, 217, 218, 2, 219, 167, 220, 69, 70, 71, 72, 73, 74, 14, 75, 76, 77, 198, 199, 200, 201, 202, 203, 25, 204, 177, 533, 534, 535, 536, 537, 538, 539, 540, 541, 542, 543, 544, 545, 546, 547, 514] (by decide +kernel) (by decide +kernel)) (goodIn_sub (fun _ h => List.mem_append_left _ (List.mem_append_right _ h)) (by decide +kernel))
set_option maxRecDepth 20000 in
theorem gL_law_L_tap : GoodIn wsL_law (va_wsS RL 77 yL_tap wsL_tap) := goodIn_app (goodIn_of _ (by decide +kernel)) ggL_law_L_tap
set_option maxRecDepth 20000 in
theorem ggL_law_X4_tap : GoodIn wsL_law wsX4_tap := goodIn_r _ [224, 54, 209, 210, 211, 5, 212, 48, 117, 118, 119, 144, 145, 146, 147, 148, 515, 516, 517, 518, 519, 520, 521, 522, 523, 524, 525, 526, 527, 528, 529, 530, 531, 532] (by decide +kernel) (by decide +kernel)
set_option maxRecDepth 20000 in
theorem gL_law_X4_tap : GoodIn wsL_law (wsV RL 80 RX4 yX4_tap wsX4_tap) := goodIn_app (goodIn_of _ (by decide +kernel)) ggL_law_X4_tap
set_option maxRecDepth 20000 in
theorem ggL_law_L_swap : GoodIn wsL_law wsL_swap := goodIn_ca (goodIn_r _ [227, 64, 228, 229, 230, 2, 231, 168, 167, 69, 70, 71, 72, 73, 74, 14, 75, 76, 77, 198, 199, 200, 201, 202, 203, 25, 204, 177, 232, 233, 234, 235, 36, 37, 38, 236, 237, 238, 239, 533, 534, 535, 536, 537, 538, 539, 540, 541, 542, 543, 514, 544, 545, 546, 547] (by decide +kernel) (by decide +kernel)) (goodIn_sub (fun _ h => List.mem_append_left _ (List.mem_append_right _ h)) (by decide +kernel))
set_option maxRecDepth 20000 in
theorem gL_law_L_swap : GoodIn wsL_law (va_wsS RL 81 yL_swap wsL_swap) := goodIn_app (goodIn_of _ (by decide +kernel)) ggL_law_L_swap
set_option maxRecDepth 20000 in
theorem ggL_law_X4_swap : GoodIn wsL_law wsX4_swap := goodIn_r _ [243, 51, 52, 54, 49, 209, 210, 211, 5, 212, 48, 117, 118, 119, 144, 145, 146, 147, 148, 515, 516, 517, 518, 519, 520, 521, 522, 523, 524, 525, 526, 527, 528, 529, 530, 531, 532] (by decide +kernel) (by decide +kernel)
set_option maxRecDepth 20000 in
theorem gL_law_X4_swap : GoodIn wsL_law (wsV RL 83 RX4 yX4_swap wsX4_swap) := goodIn_app (goodIn_of _ (by decide +kernel)) ggL_law_X4_swap
set_option maxRecDepth 20000 in
theorem ggL_law_L_play : GoodIn wsL_law wsL_play := goodIn_ca (goodIn_r _ [246, 64, 247, 248, 249, 2, 250, 73, 74, 69, 70, 71, 72, 14, 75, 76, 77, 251, 252, 253, 16, 254, 26, 255, 110, 256, 22, 257, 258, 28, 30, 112, 111, 259, 260, 261, 85, 262, 263, 264, 265, 266, 93, 267, 94, 95, 96, 97, 98, 268, 269, 270, 271, 87, 272, 273, 274, 275, 276, 277, 278, 279, 280, 281, 282, 283, 104, 284, 285, 286, 287, 288, 289, 290, 291, 292, 293, 294, 295, 296, 297, 298, 299, 300, 301, 302, 303, 304, 305, 306, 307, 308, 309, 310, 311, 312, 313, 314, 315, 316, 514, 533, 534, 535, 536, 537, 538, 539, 540, 541, 542, 543, 544, 545, 546, 547] (by decide +kernel) (by decide +kernel)) (goodIn_sub (fun _ h => List.mem_append_left _ (List.mem_append_right _ h)) (by decide +kernel))
set_option maxRecDepth 20000 in
theorem gL_law_L_play : GoodIn wsL_law (va_wsS RL 84 yL_play wsL_play) := goodIn_app (goodIn_of _ (by decide +kernel)) ggL_law_L_play
set_option maxRecDepth 20000 in
theorem ggL_law_X4_play : GoodIn wsL_law wsX4_play := goodIn_r _ [320, 117, 118, 5, 119, 144, 145, 146, 147, 148, 321, 322, 323, 324, 44, 48, 54, 51, 52, 55, 53, 50, 45, 46, 49, 47, 325, 326, 327, 328, 329, 330, 331, 332, 333, 131, 132, 133, 123, 134, 135, 136, 137, 138, 334, 335, 336, 127, 128, 129, 130, 337, 338, 339, 340, 341, 342, 343, 344, 345, 346, 347, 348, 349, 350, 351, 352, 353, 354, 515, 516, 517, 518, 519, 520, 521, 522, 523, 524, 525, 526, 527, 528, 529, 530, 531, 532] (by decide +kernel) (by decide +kernel)
set_option maxRecDepth 20000 in
theorem gL_law_X4_play : GoodIn wsL_law (wsV RL 86 RX4 yX4_play wsX4_play) := goodIn_app (goodIn_of _ (by decide +kernel)) ggL_law_X4_play
set_option maxRecDepth 20000 in
theorem ggL_law_L_code : GoodIn wsL_law wsL_code := goodIn_ca (goodIn_ca (goodIn_r _ [357, 64, 160, 358, 359, 360, 2, 361, 73, 74, 165, 166, 362, 363, 364, 365, 69, 70, 71, 72, 14, 75, 76, 77, 366, 313, 314, 16, 315, 111, 533, 534, 535, 536, 537, 538, 539, 540, 541, 542, 543, 514] (by decide +kernel) (by decide +kernel)) (goodIn_sub (fun _ h => List.mem_append_left _ (List.mem_append_right _ h)) (by decide +kernel))) (goodIn_sub (fun _ h => List.mem_append_right _ h) (by decide +kernel))
set_option maxRecDepth 20000 in
theorem gL_law_L_code : GoodIn wsL_law (va_wsS RL 87 yL_code wsL_code) := goodIn_app (goodIn_of _ (by decide +kernel)) ggL_law_L_code
set_option maxRecDepth 20000 in
theorem ggL_law_X4_code : GoodIn wsL_law wsX4_code := goodIn_r _ [370, 50, 43, 44, 45, 46, 117, 118, 5, 119, 144, 145, 146, 147, 148, 515, 516, 517, 518, 519, 520, 521, 522, 523, 524, 525, 526, 527, 528, 529, 530, 531, 532] (by decide +kernel) (by decide +kernel)
set_option maxRecDepth 20000 in
theorem gL_law_X4_code : GoodIn wsL_law (wsV RL 89 RX4 yX4_code wsX4_code) := goodIn_app (goodIn_of _ (by decide +kernel)) ggL_law_X4_code
set_option maxRecDepth 20000 in
theorem ggL_law_L_trace : GoodIn wsL_law wsL_trace := goodIn_ca (goodIn_ca (goodIn_r _ [373, 64, 160, 374, 375, 376, 2, 377, 165, 166, 168, 378, 69, 70, 71, 72, 73, 74, 14, 75, 76, 77, 198, 199, 200, 167, 201, 202, 203, 25, 204, 177, 533, 534, 535, 536, 537, 538, 539, 540, 541, 542, 543, 514, 544, 545, 546, 547] (by decide +kernel) (by decide +kernel)) (goodIn_sub (fun _ h => List.mem_append_right _ h) (by decide +kernel))) (goodIn_sub (fun _ h => List.mem_append_left _ (List.mem_append_right _ h)) (by decide +kernel))
set_option maxRecDepth 20000 in
theorem gL_law_L_trace : GoodIn wsL_law (va_wsS RL 90 yL_trace wsL_trace) := goodIn_app (goodIn_of _ (by decide +kernel)) ggL_law_L_trace
set_option maxRecDepth 20000 in
theorem ggL_law_X4_trace : GoodIn wsL_law wsX4_trace := goodIn_r _ [382, 49, 53, 209, 210, 211, 5, 212, 48, 117, 118, 119, 144, 145, 146, 147, 148, 515, 516, 517, 518, 519, 520, 521, 522, 523, 524, 525, 526, 527, 528, 529, 530, 531, 532] (by decide +kernel) (by decide +kernel)
set_option maxRecDepth 20000 in
theorem gL_law_X4_trace : GoodIn wsL_law (wsV RL 92 RX4 yX4_trace wsX4_trace) := goodIn_app (goodIn_of _ (by decide +kernel)) ggL_law_X4_trace
set_option maxRecDepth 20000 in
theorem ggL_law_X3_light : GoodIn wsL_law wsX3_light := goodIn_r _ [386, 14, 75, 76, 2, 77, 387, 388, 389, 16, 390, 112, 26, 30, 391, 202, 203, 25, 204, 177, 514, 533, 534, 535, 536, 537, 538, 539, 540, 541, 542, 543, 544, 545, 546, 547] (by decide +kernel) (by decide +kernel)
set_option maxRecDepth 20000 in
theorem gL_law_X3_light : GoodIn wsL_law (wsV RL 93 RX3 yX3_light wsX3_light) := goodIn_app (goodIn_of _ (by decide +kernel)) ggL_law_X3_light
set_option maxRecDepth 20000 in
theorem ggL_law_X4_light : GoodIn wsL_law wsX4_light := goodIn_r _ [395, 148, 49, 55, 209, 210, 211, 5, 212, 48, 117, 118, 119, 515, 516, 517, 518, 519, 520, 521, 522, 523, 524, 525, 526, 527, 528, 529, 530, 531, 532] (by decide +kernel) (by decide +kernel)
set_option maxRecDepth 20000 in
theorem gL_law_X4_light : GoodIn wsL_law (wsV RL 96 RX4 yX4_light wsX4_light) := goodIn_app (goodIn_of _ (by decide +kernel)) ggL_law_X4_light
set_option maxRecDepth 20000 in
theorem ggL_law_L_against : GoodIn wsL_law wsL_against := goodIn_ca (goodIn_r _ [398, 64, 399, 400, 401, 2, 402, 363, 362, 81, 69, 70, 71, 72, 73, 74, 14, 75, 76, 77, 403, 303, 304, 85, 305, 93, 94, 95, 96, 97, 98, 404, 273, 274, 275, 276, 277, 278, 279, 533, 534, 535, 536, 537, 538, 539, 540, 541, 542, 543, 514] (by decide +kernel) (by decide +kernel)) (goodIn_sub (fun _ h => List.mem_append_left _ (List.mem_append_right _ h)) (by decide +kernel))
set_option maxRecDepth 20000 in
theorem gL_law_L_against : GoodIn wsL_law (va_wsS RL 97 yL_against wsL_against) := goodIn_app (goodIn_of _ (by decide +kernel)) ggL_law_L_against
set_option maxRecDepth 20000 in
theorem ggL_law_X4_against : GoodIn wsL_law wsX4_against := goodIn_r _ [408, 44, 43, 117, 118, 5, 119, 144, 145, 146, 147, 148, 337, 338, 339, 340, 341, 342, 134, 135, 136, 137, 138, 127, 128, 129, 130, 131, 132, 133, 123, 515, 516, 517, 518, 519, 520, 521, 522, 523, 524, 525, 526, 527, 528, 529, 530, 531, 532] (by decide +kernel) (by decide +kernel)
set_option maxRecDepth 20000 in
theorem gL_law_X4_against : GoodIn wsL_law (wsV RL 100 RX4 yX4_against wsX4_against) := goodIn_app (goodIn_of _ (by decide +kernel)) ggL_law_X4_against
set_option maxRecDepth 20000 in
theorem ggL_law_L_save : GoodIn wsL_law wsL_save := goodIn_ca (goodIn_r _ [411, 64, 412, 413, 414, 2, 415, 167, 416, 69, 70, 71, 72, 73, 74, 14, 75, 76, 77, 417, 418, 419, 420, 421, 422, 423, 25, 424, 177, 36, 37, 38, 533, 534, 535, 536, 537, 538, 539, 540, 541, 542, 543, 544, 545, 546, 547, 514] (by decide +kernel) (by decide +kernel)) (goodIn_sub (fun _ h => List.mem_append_left _ (List.mem_append_right _ h)) (by decide +kernel))
set_option maxRecDepth 20000 in
theorem gL_law_L_save : GoodIn wsL_law (va_wsS RL 101 yL_save wsL_save) := goodIn_app (goodIn_of _ (by decide +kernel)) ggL_law_L_save
set_option maxRecDepth 20000 in
theorem ggL_law_X4_save : GoodIn wsL_law wsX4_save := goodIn_r _ [428, 56, 48, 57, 51, 58, 52, 59, 54, 117, 118, 5, 119, 144, 145, 146, 147, 148, 515, 516, 517, 518, 519, 520, 521, 522, 523, 524, 525, 526, 527, 528, 529, 530, 531, 532] (by decide +kernel) (by decide +kernel)
set_option maxRecDepth 20000 in
theorem gL_law_X4_save : GoodIn wsL_law (wsV RL 103 RX4 yX4_save wsX4_save) := goodIn_app (goodIn_of _ (by decide +kernel)) ggL_law_X4_save
set_option maxRecDepth 20000 in
theorem ggL_law_L_recall : GoodIn wsL_law wsL_recall := goodIn_ca (goodIn_r _ [431, 64, 432, 433, 434, 2, 435, 167, 168, 416, 69, 70, 71, 72, 73, 74, 14, 75, 76, 77, 417, 418, 419, 420, 421, 422, 423, 25, 424, 177, 36, 37, 38, 533, 534, 535, 536, 537, 538, 539, 540, 541, 542, 543, 544, 545, 546, 547, 514] (by decide +kernel) (by decide +kernel)) (goodIn_sub (fun _ h => List.mem_append_left _ (List.mem_append_right _ h)) (by decide +kernel))
set_option maxRecDepth 20000 in
theorem gL_law_L_recall : GoodIn wsL_law (va_wsS RL 104 yL_recall wsL_recall) := goodIn_app (goodIn_of _ (by decide +kernel)) ggL_law_L_recall
set_option maxRecDepth 20000 in
theorem ggL_law_X4_recall : GoodIn wsL_law wsX4_recall := goodIn_r _ [439, 48, 56, 51, 57, 52, 58, 54, 59, 49, 117, 118, 5, 119, 144, 145, 146, 147, 148, 515, 516, 517, 518, 519, 520, 521, 522, 523, 524, 525, 526, 527, 528, 529, 530, 531, 532] (by decide +kernel) (by decide +kernel)
set_option maxRecDepth 20000 in
theorem gL_law_X4_recall : GoodIn wsL_law (wsV RL 106 RX4 yX4_recall wsX4_recall) := goodIn_app (goodIn_of _ (by decide +kernel)) ggL_law_X4_recall
set_option maxRecDepth 20000 in
theorem ggL_law_L_patch : GoodIn wsL_law wsL_patch := goodIn_ca (goodIn_r _ [442, 64, 443, 444, 445, 2, 446, 81, 363, 69, 70, 71, 72, 73, 74, 14, 75, 76, 77, 447, 448, 449, 85, 450, 94, 95, 96, 97, 98, 268, 269, 270, 271, 87, 451, 452, 453, 454, 455, 456, 457, 458, 104, 459, 460, 461, 462, 463, 464, 465, 466, 467, 468, 469, 99, 100, 101, 102, 103, 298, 299, 300, 301, 93, 267, 470, 471, 472, 473, 474, 475, 476, 477, 105, 106, 107, 16, 108, 109, 110, 111, 112, 533, 534, 535, 536, 537, 538, 539, 540, 541, 542, 543, 514] (by decide +kernel) (by decide +kernel)) (goodIn_sub (fun _ h => List.mem_append_left _ (List.mem_append_right _ h)) (by decide +kernel))
set_option maxRecDepth 20000 in
theorem gL_law_L_patch : GoodIn wsL_law (va_wsS RL 107 yL_patch wsL_patch) := goodIn_app (goodIn_of _ (by decide +kernel)) ggL_law_L_patch
set_option maxRecDepth 20000 in
theorem ggL_law_X4_patch : GoodIn wsL_law wsX4_patch := goodIn_r _ [481, 44, 117, 118, 5, 119, 144, 145, 146, 147, 148, 482, 483, 484, 485, 486, 487, 134, 135, 136, 137, 138, 334, 335, 336, 349, 350, 351, 488, 489, 490, 139, 140, 141, 142, 143, 127, 128, 129, 130, 131, 132, 133, 123, 340, 341, 342, 491, 492, 493, 494, 495, 149, 150, 151, 152, 43, 47, 50, 49, 515, 516, 517, 518, 519, 520, 521, 522, 523, 524, 525, 526, 527, 528, 529, 530, 531, 532] (by decide +kernel) (by decide +kernel)
set_option maxRecDepth 20000 in
theorem gL_law_X4_patch : GoodIn wsL_law (wsV RL 109 RX4 yX4_patch wsX4_patch) := goodIn_app (goodIn_of _ (by decide +kernel)) ggL_law_X4_patch
set_option maxRecDepth 20000 in
theorem ggL_law_X3_about : GoodIn wsL_law wsX3_about := goodIn_r _ [499, 14, 167, 416, 500, 75, 76, 2, 77, 501, 502, 503, 25, 504, 177, 38, 505, 506, 507, 16, 508, 26, 255, 509, 388, 389, 390, 112, 30, 391, 202, 203, 204, 514, 533, 534, 535, 536, 537, 538, 539, 540, 541, 542, 543, 544, 545, 546, 547] (by decide +kernel) (by decide +kernel)
set_option maxRecDepth 20000 in
theorem gL_law_X3_about : GoodIn wsL_law (wsV RL 110 RX3 yX3_about wsX3_about) := goodIn_app (goodIn_of _ (by decide +kernel)) ggL_law_X3_about
set_option maxRecDepth 20000 in
theorem ggL_law_X4_about : GoodIn wsL_law wsX4_about := goodIn_r _ [513, 148, 48, 47, 54, 49, 55, 117, 118, 5, 119, 515, 516, 517, 518, 519, 520, 521, 522, 523, 524, 525, 526, 527, 528, 529, 530, 531, 532] (by decide +kernel) (by decide +kernel)
set_option maxRecDepth 20000 in
theorem gL_law_X4_about : GoodIn wsL_law (wsV RL 113 RX4 yX4_about wsX4_about) := goodIn_app (goodIn_of _ (by decide +kernel)) ggL_law_X4_about
end
section
theorem dL_law_0 : decode cL_law 0 = .ok (.new 8, 3) := by decide +kernel
theorem dL_law_3 : decode cL_law 3 = .ok (.dup, 1) := by decide +kernel
theorem dL_law_4 : decode cL_law 4 = .ok (.invokespecial 56, 3) := by decide +kernel
theorem dL_law_7 : decode cL_law 7 = .ok (.astore_n 1, 1) := by decide +kernel
theorem dL_law_8 : decode cL_law 8 = .ok (.new 57, 3) := by decide +kernel
theorem dL_law_11 : decode cL_law 11 = .ok (.dup, 1) := by decide +kernel
theorem dL_law_12 : decode cL_law 12 = .ok (.invokespecial 59, 3) := by decide +kernel
theorem dL_law_15 : decode cL_law 15 = .ok (.astore_n 2, 1) := by decide +kernel
theorem dL_law_16 : decode cL_law 16 = .ok (.iconst 1, 1) := by decide +kernel
theorem dL_law_17 : decode cL_law 17 = .ok (.newarray .long, 2) := by decide +kernel
theorem dL_law_19 : decode cL_law 19 = .ok (.astore_n 3, 1) := by decide +kernel
theorem dL_law_20 : decode cL_law 20 = .ok (.iconst 0, 1) := by decide +kernel
theorem dL_law_21 : decode cL_law 21 = .ok (.istore 4, 2) := by decide +kernel
theorem dL_law_23 : decode cL_law 23 = .ok (.iload 4, 2) := by decide +kernel
theorem dL_law_25 : decode cL_law 25 = .ok (.aload_n 0, 1) := by decide +kernel
theorem dL_law_26 : decode cL_law 26 = .ok (.arraylength, 1) := by decide +kernel
theorem dL_law_27 : decode cL_law 27 = .ok (.iconst 5, 1) := by decide +kernel
theorem dL_law_28 : decode cL_law 28 = .ok (.isub, 1) := by decide +kernel
theorem dL_law_29 : decode cL_law 29 = .ok (.if_icmp .gt 1060, 3) := by decide +kernel
theorem dL_law_32 : decode cL_law 32 = .ok (.aload_n 0, 1) := by decide +kernel
theorem dL_law_33 : decode cL_law 33 = .ok (.iload 4, 2) := by decide +kernel
theorem dL_law_35 : decode cL_law 35 = .ok (.iaload, 1) := by decide +kernel
theorem dL_law_36 : decode cL_law 36 = .ok (.bipush 15, 2) := by decide +kernel
theorem dL_law_38 : decode cL_law 38 = .ok (.iand, 1) := by decide +kernel
theorem dL_law_39 : decode cL_law 39 = .ok (.tableswitch 1044 0 13 #[69, 156, 248, 347, 422, 509, 577, 644, 711, 748, 804, 872, 940, 1007], 69) := by decide +kernel
theorem dL_law_108 : decode cL_law 108 = .ok (.aload_n 1, 1) := by decide +kernel
theorem dL_law_109 : decode cL_law 109 = .ok (.aload_n 0, 1) := by decide +kernel
theorem dL_law_110 : decode cL_law 110 = .ok (.iload 4, 2) := by decide +kernel
theorem dL_law_112 : decode cL_law 112 = .ok (.iconst 1, 1) := by decide +kernel
theorem dL_law_113 : decode cL_law 113 = .ok (.iadd, 1) := by decide +kernel
theorem dL_law_114 : decode cL_law 114 = .ok (.iaload, 1) := by decide +kernel
theorem dL_law_115 : decode cL_law 115 = .ok (.aload_n 0, 1) := by decide +kernel
theorem dL_law_116 : decode cL_law 116 = .ok (.iload 4, 2) := by decide +kernel
theorem dL_law_118 : decode cL_law 118 = .ok (.iconst 2, 1) := by decide +kernel
theorem dL_law_119 : decode cL_law 119 = .ok (.iadd, 1) := by decide +kernel
theorem dL_law_120 : decode cL_law 120 = .ok (.iaload, 1) := by decide +kernel
theorem dL_law_121 : decode cL_law 121 = .ok (.aload_n 0, 1) := by decide +kernel
theorem dL_law_122 : decode cL_law 122 = .ok (.iload 4, 2) := by decide +kernel
theorem dL_law_124 : decode cL_law 124 = .ok (.iconst 3, 1) := by decide +kernel
theorem dL_law_125 : decode cL_law 125 = .ok (.iadd, 1) := by decide +kernel
theorem dL_law_126 : decode cL_law 126 = .ok (.iaload, 1) := by decide +kernel
theorem dL_law_127 : decode cL_law 127 = .ok (.aload_n 3, 1) := by decide +kernel
theorem dL_law_128 : decode cL_law 128 = .ok (.invokestatic 60, 3) := by decide +kernel
theorem dL_law_131 : decode cL_law 131 = .ok (.istore 5, 2) := by decide +kernel
theorem dL_law_133 : decode cL_law 133 = .ok (.aload_n 2, 1) := by decide +kernel
theorem dL_law_134 : decode cL_law 134 = .ok (.aload_n 0, 1) := by decide +kernel
theorem dL_law_135 : decode cL_law 135 = .ok (.iload 4, 2) := by decide +kernel
theorem dL_law_137 : decode cL_law 137 = .ok (.iconst 1, 1) := by decide +kernel
theorem dL_law_138 : decode cL_law 138 = .ok (.iadd, 1) := by decide +kernel
theorem dL_law_139 : decode cL_law 139 = .ok (.iaload, 1) := by decide +kernel
theorem dL_law_140 : decode cL_law 140 = .ok (.aload_n 0, 1) := by decide +kernel
theorem dL_law_141 : decode cL_law 141 = .ok (.iload 4, 2) := by decide +kernel
theorem dL_law_143 : decode cL_law 143 = .ok (.iconst 2, 1) := by decide +kernel
theorem dL_law_144 : decode cL_law 144 = .ok (.iadd, 1) := by decide +kernel
theorem dL_law_145 : decode cL_law 145 = .ok (.iaload, 1) := by decide +kernel
theorem dL_law_146 : decode cL_law 146 = .ok (.aload_n 0, 1) := by decide +kernel
theorem dL_law_147 : decode cL_law 147 = .ok (.iload 4, 2) := by decide +kernel
theorem dL_law_149 : decode cL_law 149 = .ok (.iconst 3, 1) := by decide +kernel
theorem dL_law_150 : decode cL_law 150 = .ok (.iadd, 1) := by decide +kernel
theorem dL_law_151 : decode cL_law 151 = .ok (.iaload, 1) := by decide +kernel
theorem dL_law_152 : decode cL_law 152 = .ok (.invokevirtual 65, 3) := by decide +kernel
theorem dL_law_155 : decode cL_law 155 = .ok (.istore 6, 2) := by decide +kernel
theorem dL_law_157 : decode cL_law 157 = .ok (.aload_n 2, 1) := by decide +kernel
theorem dL_law_158 : decode cL_law 158 = .ok (.invokevirtual 66, 3) := by decide +kernel
theorem dL_law_161 : decode cL_law 161 = .ok (.iload 5, 2) := by decide +kernel
theorem dL_law_163 : decode cL_law 163 = .ok (.if_icmp .eq 5, 3) := by decide +kernel
theorem dL_law_166 : decode cL_law 166 = .ok (.iconst 0, 1) := by decide +kernel
theorem dL_law_167 : decode cL_law 167 = .ok (.ireturn, 1) := by decide +kernel
theorem dL_law_168 : decode cL_law 168 = .ok (.iload 5, 2) := by decide +kernel
theorem dL_law_170 : decode cL_law 170 = .ok (.ifCond .ne 22, 3) := by decide +kernel
theorem dL_law_173 : decode cL_law 173 = .ok (.aload_n 3, 1) := by decide +kernel
theorem dL_law_174 : decode cL_law 174 = .ok (.iconst 0, 1) := by decide +kernel
theorem dL_law_175 : decode cL_law 175 = .ok (.laload, 1) := by decide +kernel
theorem dL_law_176 : decode cL_law 176 = .ok (.iload 6, 2) := by decide +kernel
theorem dL_law_178 : decode cL_law 178 = .ok (.ifCond .eq 7, 3) := by decide +kernel
theorem dL_law_181 : decode cL_law 181 = .ok (.lconst 1, 1) := by decide +kernel
theorem dL_law_182 : decode cL_law 182 = .ok (.goto 4, 3) := by decide +kernel
theorem dL_law_185 : decode cL_law 185 = .ok (.lconst 0, 1) := by decide +kernel
theorem dL_law_186 : decode cL_law 186 = .ok (.lcmp, 1) := by decide +kernel
theorem dL_law_187 : decode cL_law 187 = .ok (.ifCond .eq 5, 3) := by decide +kernel
theorem dL_law_190 : decode cL_law 190 = .ok (.iconst 0, 1) := by decide +kernel
theorem dL_law_191 : decode cL_law 191 = .ok (.ireturn, 1) := by decide +kernel
theorem dL_law_192 : decode cL_law 192 = .ok (.goto 891, 3) := by decide +kernel
theorem dL_law_195 : decode cL_law 195 = .ok (.aload_n 1, 1) := by decide +kernel
theorem dL_law_196 : decode cL_law 196 = .ok (.aload_n 0, 1) := by decide +kernel
theorem dL_law_197 : decode cL_law 197 = .ok (.iload 4, 2) := by decide +kernel
theorem dL_law_199 : decode cL_law 199 = .ok (.iconst 1, 1) := by decide +kernel
theorem dL_law_200 : decode cL_law 200 = .ok (.iadd, 1) := by decide +kernel
theorem dL_law_201 : decode cL_law 201 = .ok (.iaload, 1) := by decide +kernel
theorem dL_law_202 : decode cL_law 202 = .ok (.aload_n 0, 1) := by decide +kernel
theorem dL_law_203 : decode cL_law 203 = .ok (.iload 4, 2) := by decide +kernel
theorem dL_law_205 : decode cL_law 205 = .ok (.iconst 2, 1) := by decide +kernel
theorem dL_law_206 : decode cL_law 206 = .ok (.iadd, 1) := by decide +kernel
theorem dL_law_207 : decode cL_law 207 = .ok (.iaload, 1) := by decide +kernel
theorem dL_law_208 : decode cL_law 208 = .ok (.aload_n 0, 1) := by decide +kernel
theorem dL_law_209 : decode cL_law 209 = .ok (.iload 4, 2) := by decide +kernel
theorem dL_law_211 : decode cL_law 211 = .ok (.iconst 3, 1) := by decide +kernel
theorem dL_law_212 : decode cL_law 212 = .ok (.iadd, 1) := by decide +kernel
theorem dL_law_213 : decode cL_law 213 = .ok (.iaload, 1) := by decide +kernel
theorem dL_law_214 : decode cL_law 214 = .ok (.aload_n 0, 1) := by decide +kernel
theorem dL_law_215 : decode cL_law 215 = .ok (.iload 4, 2) := by decide +kernel
theorem dL_law_217 : decode cL_law 217 = .ok (.iconst 4, 1) := by decide +kernel
theorem dL_law_218 : decode cL_law 218 = .ok (.iadd, 1) := by decide +kernel
theorem dL_law_219 : decode cL_law 219 = .ok (.iaload, 1) := by decide +kernel
theorem dL_law_220 : decode cL_law 220 = .ok (.aload_n 3, 1) := by decide +kernel
theorem dL_law_221 : decode cL_law 221 = .ok (.invokestatic 70, 3) := by decide +kernel
theorem dL_law_224 : decode cL_law 224 = .ok (.istore 5, 2) := by decide +kernel
theorem dL_law_226 : decode cL_law 226 = .ok (.aload_n 2, 1) := by decide +kernel
theorem dL_law_227 : decode cL_law 227 = .ok (.aload_n 0, 1) := by decide +kernel
theorem dL_law_228 : decode cL_law 228 = .ok (.iload 4, 2) := by decide +kernel
theorem dL_law_230 : decode cL_law 230 = .ok (.iconst 1, 1) := by decide +kernel
theorem dL_law_231 : decode cL_law 231 = .ok (.iadd, 1) := by decide +kernel
theorem dL_law_232 : decode cL_law 232 = .ok (.iaload, 1) := by decide +kernel
theorem dL_law_233 : decode cL_law 233 = .ok (.aload_n 0, 1) := by decide +kernel
theorem dL_law_234 : decode cL_law 234 = .ok (.iload 4, 2) := by decide +kernel
theorem dL_law_236 : decode cL_law 236 = .ok (.iconst 2, 1) := by decide +kernel
theorem dL_law_237 : decode cL_law 237 = .ok (.iadd, 1) := by decide +kernel
theorem dL_law_238 : decode cL_law 238 = .ok (.iaload, 1) := by decide +kernel
theorem dL_law_239 : decode cL_law 239 = .ok (.aload_n 0, 1) := by decide +kernel
theorem dL_law_240 : decode cL_law 240 = .ok (.iload 4, 2) := by decide +kernel
end
section
theorem dL_law_242 : decode cL_law 242 = .ok (.iconst 3, 1) := by decide +kernel
theorem dL_law_243 : decode cL_law 243 = .ok (.iadd, 1) := by decide +kernel
theorem dL_law_244 : decode cL_law 244 = .ok (.iaload, 1) := by decide +kernel
theorem dL_law_245 : decode cL_law 245 = .ok (.aload_n 0, 1) := by decide +kernel
theorem dL_law_246 : decode cL_law 246 = .ok (.iload 4, 2) := by decide +kernel
theorem dL_law_248 : decode cL_law 248 = .ok (.iconst 4, 1) := by decide +kernel
theorem dL_law_249 : decode cL_law 249 = .ok (.iadd, 1) := by decide +kernel
theorem dL_law_250 : decode cL_law 250 = .ok (.iaload, 1) := by decide +kernel
theorem dL_law_251 : decode cL_law 251 = .ok (.invokevirtual 73, 3) := by decide +kernel
theorem dL_law_254 : decode cL_law 254 = .ok (.istore 6, 2) := by decide +kernel
theorem dL_law_256 : decode cL_law 256 = .ok (.aload_n 2, 1) := by decide +kernel
theorem dL_law_257 : decode cL_law 257 = .ok (.invokevirtual 66, 3) := by decide +kernel
theorem dL_law_260 : decode cL_law 260 = .ok (.iload 5, 2) := by decide +kernel
theorem dL_law_262 : decode cL_law 262 = .ok (.if_icmp .eq 5, 3) := by decide +kernel
theorem dL_law_265 : decode cL_law 265 = .ok (.iconst 0, 1) := by decide +kernel
theorem dL_law_266 : decode cL_law 266 = .ok (.ireturn, 1) := by decide +kernel
theorem dL_law_267 : decode cL_law 267 = .ok (.iload 5, 2) := by decide +kernel
theorem dL_law_269 : decode cL_law 269 = .ok (.ifCond .ne 15, 3) := by decide +kernel
theorem dL_law_272 : decode cL_law 272 = .ok (.aload_n 3, 1) := by decide +kernel
theorem dL_law_273 : decode cL_law 273 = .ok (.iconst 0, 1) := by decide +kernel
theorem dL_law_274 : decode cL_law 274 = .ok (.laload, 1) := by decide +kernel
theorem dL_law_275 : decode cL_law 275 = .ok (.iload 6, 2) := by decide +kernel
theorem dL_law_277 : decode cL_law 277 = .ok (.i2l, 1) := by decide +kernel
theorem dL_law_278 : decode cL_law 278 = .ok (.lcmp, 1) := by decide +kernel
theorem dL_law_279 : decode cL_law 279 = .ok (.ifCond .eq 5, 3) := by decide +kernel
theorem dL_law_282 : decode cL_law 282 = .ok (.iconst 0, 1) := by decide +kernel
theorem dL_law_283 : decode cL_law 283 = .ok (.ireturn, 1) := by decide +kernel
theorem dL_law_284 : decode cL_law 284 = .ok (.goto 799, 3) := by decide +kernel
theorem dL_law_287 : decode cL_law 287 = .ok (.aload_n 1, 1) := by decide +kernel
theorem dL_law_288 : decode cL_law 288 = .ok (.aload_n 0, 1) := by decide +kernel
theorem dL_law_289 : decode cL_law 289 = .ok (.iload 4, 2) := by decide +kernel
theorem dL_law_291 : decode cL_law 291 = .ok (.iconst 1, 1) := by decide +kernel
theorem dL_law_292 : decode cL_law 292 = .ok (.iadd, 1) := by decide +kernel
theorem dL_law_293 : decode cL_law 293 = .ok (.iaload, 1) := by decide +kernel
theorem dL_law_294 : decode cL_law 294 = .ok (.aload_n 0, 1) := by decide +kernel
theorem dL_law_295 : decode cL_law 295 = .ok (.iload 4, 2) := by decide +kernel
theorem dL_law_297 : decode cL_law 297 = .ok (.iconst 2, 1) := by decide +kernel
theorem dL_law_298 : decode cL_law 298 = .ok (.iadd, 1) := by decide +kernel
theorem dL_law_299 : decode cL_law 299 = .ok (.iaload, 1) := by decide +kernel
theorem dL_law_300 : decode cL_law 300 = .ok (.aload_n 0, 1) := by decide +kernel
theorem dL_law_301 : decode cL_law 301 = .ok (.iload 4, 2) := by decide +kernel
theorem dL_law_303 : decode cL_law 303 = .ok (.iconst 3, 1) := by decide +kernel
theorem dL_law_304 : decode cL_law 304 = .ok (.iadd, 1) := by decide +kernel
theorem dL_law_305 : decode cL_law 305 = .ok (.iaload, 1) := by decide +kernel
theorem dL_law_306 : decode cL_law 306 = .ok (.aload_n 0, 1) := by decide +kernel
theorem dL_law_307 : decode cL_law 307 = .ok (.iload 4, 2) := by decide +kernel
theorem dL_law_309 : decode cL_law 309 = .ok (.iconst 4, 1) := by decide +kernel
theorem dL_law_310 : decode cL_law 310 = .ok (.iadd, 1) := by decide +kernel
theorem dL_law_311 : decode cL_law 311 = .ok (.iaload, 1) := by decide +kernel
theorem dL_law_312 : decode cL_law 312 = .ok (.aload_n 3, 1) := by decide +kernel
theorem dL_law_313 : decode cL_law 313 = .ok (.invokestatic 74, 3) := by decide +kernel
theorem dL_law_316 : decode cL_law 316 = .ok (.istore 5, 2) := by decide +kernel
theorem dL_law_318 : decode cL_law 318 = .ok (.aload_n 2, 1) := by decide +kernel
theorem dL_law_319 : decode cL_law 319 = .ok (.aload_n 0, 1) := by decide +kernel
theorem dL_law_320 : decode cL_law 320 = .ok (.iload 4, 2) := by decide +kernel
theorem dL_law_322 : decode cL_law 322 = .ok (.iconst 1, 1) := by decide +kernel
theorem dL_law_323 : decode cL_law 323 = .ok (.iadd, 1) := by decide +kernel
theorem dL_law_324 : decode cL_law 324 = .ok (.iaload, 1) := by decide +kernel
theorem dL_law_325 : decode cL_law 325 = .ok (.aload_n 0, 1) := by decide +kernel
theorem dL_law_326 : decode cL_law 326 = .ok (.iload 4, 2) := by decide +kernel
theorem dL_law_328 : decode cL_law 328 = .ok (.iconst 2, 1) := by decide +kernel
theorem dL_law_329 : decode cL_law 329 = .ok (.iadd, 1) := by decide +kernel
theorem dL_law_330 : decode cL_law 330 = .ok (.iaload, 1) := by decide +kernel
theorem dL_law_331 : decode cL_law 331 = .ok (.aload_n 0, 1) := by decide +kernel
theorem dL_law_332 : decode cL_law 332 = .ok (.iload 4, 2) := by decide +kernel
theorem dL_law_334 : decode cL_law 334 = .ok (.iconst 3, 1) := by decide +kernel
theorem dL_law_335 : decode cL_law 335 = .ok (.iadd, 1) := by decide +kernel
theorem dL_law_336 : decode cL_law 336 = .ok (.iaload, 1) := by decide +kernel
theorem dL_law_337 : decode cL_law 337 = .ok (.aload_n 0, 1) := by decide +kernel
theorem dL_law_338 : decode cL_law 338 = .ok (.iload 4, 2) := by decide +kernel
theorem dL_law_340 : decode cL_law 340 = .ok (.iconst 4, 1) := by decide +kernel
theorem dL_law_341 : decode cL_law 341 = .ok (.iadd, 1) := by decide +kernel
theorem dL_law_342 : decode cL_law 342 = .ok (.iaload, 1) := by decide +kernel
theorem dL_law_343 : decode cL_law 343 = .ok (.invokevirtual 76, 3) := by decide +kernel
theorem dL_law_346 : decode cL_law 346 = .ok (.istore 6, 2) := by decide +kernel
theorem dL_law_348 : decode cL_law 348 = .ok (.aload_n 2, 1) := by decide +kernel
theorem dL_law_349 : decode cL_law 349 = .ok (.invokevirtual 66, 3) := by decide +kernel
theorem dL_law_352 : decode cL_law 352 = .ok (.iload 5, 2) := by decide +kernel
theorem dL_law_354 : decode cL_law 354 = .ok (.if_icmp .eq 5, 3) := by decide +kernel
theorem dL_law_357 : decode cL_law 357 = .ok (.iconst 0, 1) := by decide +kernel
theorem dL_law_358 : decode cL_law 358 = .ok (.ireturn, 1) := by decide +kernel
theorem dL_law_359 : decode cL_law 359 = .ok (.iload 5, 2) := by decide +kernel
theorem dL_law_361 : decode cL_law 361 = .ok (.ifCond .ne 22, 3) := by decide +kernel
theorem dL_law_364 : decode cL_law 364 = .ok (.aload_n 3, 1) := by decide +kernel
theorem dL_law_365 : decode cL_law 365 = .ok (.iconst 0, 1) := by decide +kernel
theorem dL_law_366 : decode cL_law 366 = .ok (.laload, 1) := by decide +kernel
theorem dL_law_367 : decode cL_law 367 = .ok (.iload 6, 2) := by decide +kernel
theorem dL_law_369 : decode cL_law 369 = .ok (.ifCond .eq 7, 3) := by decide +kernel
theorem dL_law_372 : decode cL_law 372 = .ok (.lconst 1, 1) := by decide +kernel
theorem dL_law_373 : decode cL_law 373 = .ok (.goto 4, 3) := by decide +kernel
theorem dL_law_376 : decode cL_law 376 = .ok (.lconst 0, 1) := by decide +kernel
theorem dL_law_377 : decode cL_law 377 = .ok (.lcmp, 1) := by decide +kernel
theorem dL_law_378 : decode cL_law 378 = .ok (.ifCond .eq 5, 3) := by decide +kernel
theorem dL_law_381 : decode cL_law 381 = .ok (.iconst 0, 1) := by decide +kernel
theorem dL_law_382 : decode cL_law 382 = .ok (.ireturn, 1) := by decide +kernel
theorem dL_law_383 : decode cL_law 383 = .ok (.goto 700, 3) := by decide +kernel
theorem dL_law_386 : decode cL_law 386 = .ok (.aload_n 1, 1) := by decide +kernel
theorem dL_law_387 : decode cL_law 387 = .ok (.aload_n 0, 1) := by decide +kernel
theorem dL_law_388 : decode cL_law 388 = .ok (.iload 4, 2) := by decide +kernel
theorem dL_law_390 : decode cL_law 390 = .ok (.iconst 1, 1) := by decide +kernel
theorem dL_law_391 : decode cL_law 391 = .ok (.iadd, 1) := by decide +kernel
theorem dL_law_392 : decode cL_law 392 = .ok (.iaload, 1) := by decide +kernel
theorem dL_law_393 : decode cL_law 393 = .ok (.aload_n 0, 1) := by decide +kernel
theorem dL_law_394 : decode cL_law 394 = .ok (.iload 4, 2) := by decide +kernel
theorem dL_law_396 : decode cL_law 396 = .ok (.iconst 2, 1) := by decide +kernel
theorem dL_law_397 : decode cL_law 397 = .ok (.iadd, 1) := by decide +kernel
theorem dL_law_398 : decode cL_law 398 = .ok (.iaload, 1) := by decide +kernel
theorem dL_law_399 : decode cL_law 399 = .ok (.aload_n 3, 1) := by decide +kernel
theorem dL_law_400 : decode cL_law 400 = .ok (.invokestatic 77, 3) := by decide +kernel
theorem dL_law_403 : decode cL_law 403 = .ok (.istore 5, 2) := by decide +kernel
theorem dL_law_405 : decode cL_law 405 = .ok (.aload_n 2, 1) := by decide +kernel
theorem dL_law_406 : decode cL_law 406 = .ok (.aload_n 0, 1) := by decide +kernel
theorem dL_law_407 : decode cL_law 407 = .ok (.iload 4, 2) := by decide +kernel
theorem dL_law_409 : decode cL_law 409 = .ok (.iconst 1, 1) := by decide +kernel
theorem dL_law_410 : decode cL_law 410 = .ok (.iadd, 1) := by decide +kernel
theorem dL_law_411 : decode cL_law 411 = .ok (.iaload, 1) := by decide +kernel
theorem dL_law_412 : decode cL_law 412 = .ok (.aload_n 0, 1) := by decide +kernel
theorem dL_law_413 : decode cL_law 413 = .ok (.iload 4, 2) := by decide +kernel
theorem dL_law_415 : decode cL_law 415 = .ok (.iconst 2, 1) := by decide +kernel
theorem dL_law_416 : decode cL_law 416 = .ok (.iadd, 1) := by decide +kernel
end
section
theorem dL_law_417 : decode cL_law 417 = .ok (.iaload, 1) := by decide +kernel
theorem dL_law_418 : decode cL_law 418 = .ok (.invokevirtual 80, 3) := by decide +kernel
theorem dL_law_421 : decode cL_law 421 = .ok (.istore 6, 2) := by decide +kernel
theorem dL_law_423 : decode cL_law 423 = .ok (.aload_n 2, 1) := by decide +kernel
theorem dL_law_424 : decode cL_law 424 = .ok (.invokevirtual 66, 3) := by decide +kernel
theorem dL_law_427 : decode cL_law 427 = .ok (.iload 5, 2) := by decide +kernel
theorem dL_law_429 : decode cL_law 429 = .ok (.if_icmp .eq 5, 3) := by decide +kernel
theorem dL_law_432 : decode cL_law 432 = .ok (.iconst 0, 1) := by decide +kernel
theorem dL_law_433 : decode cL_law 433 = .ok (.ireturn, 1) := by decide +kernel
theorem dL_law_434 : decode cL_law 434 = .ok (.iload 5, 2) := by decide +kernel
theorem dL_law_436 : decode cL_law 436 = .ok (.ifCond .ne 22, 3) := by decide +kernel
theorem dL_law_439 : decode cL_law 439 = .ok (.aload_n 3, 1) := by decide +kernel
theorem dL_law_440 : decode cL_law 440 = .ok (.iconst 0, 1) := by decide +kernel
theorem dL_law_441 : decode cL_law 441 = .ok (.laload, 1) := by decide +kernel
theorem dL_law_442 : decode cL_law 442 = .ok (.iload 6, 2) := by decide +kernel
theorem dL_law_444 : decode cL_law 444 = .ok (.ifCond .eq 7, 3) := by decide +kernel
theorem dL_law_447 : decode cL_law 447 = .ok (.lconst 1, 1) := by decide +kernel
theorem dL_law_448 : decode cL_law 448 = .ok (.goto 4, 3) := by decide +kernel
theorem dL_law_451 : decode cL_law 451 = .ok (.lconst 0, 1) := by decide +kernel
theorem dL_law_452 : decode cL_law 452 = .ok (.lcmp, 1) := by decide +kernel
theorem dL_law_453 : decode cL_law 453 = .ok (.ifCond .eq 5, 3) := by decide +kernel
theorem dL_law_456 : decode cL_law 456 = .ok (.iconst 0, 1) := by decide +kernel
theorem dL_law_457 : decode cL_law 457 = .ok (.ireturn, 1) := by decide +kernel
theorem dL_law_458 : decode cL_law 458 = .ok (.goto 625, 3) := by decide +kernel
theorem dL_law_461 : decode cL_law 461 = .ok (.aload_n 1, 1) := by decide +kernel
theorem dL_law_462 : decode cL_law 462 = .ok (.aload_n 0, 1) := by decide +kernel
theorem dL_law_463 : decode cL_law 463 = .ok (.iload 4, 2) := by decide +kernel
theorem dL_law_465 : decode cL_law 465 = .ok (.iconst 1, 1) := by decide +kernel
theorem dL_law_466 : decode cL_law 466 = .ok (.iadd, 1) := by decide +kernel
theorem dL_law_467 : decode cL_law 467 = .ok (.iaload, 1) := by decide +kernel
theorem dL_law_468 : decode cL_law 468 = .ok (.aload_n 0, 1) := by decide +kernel
theorem dL_law_469 : decode cL_law 469 = .ok (.iload 4, 2) := by decide +kernel
theorem dL_law_471 : decode cL_law 471 = .ok (.iconst 2, 1) := by decide +kernel
theorem dL_law_472 : decode cL_law 472 = .ok (.iadd, 1) := by decide +kernel
theorem dL_law_473 : decode cL_law 473 = .ok (.iaload, 1) := by decide +kernel
theorem dL_law_474 : decode cL_law 474 = .ok (.aload_n 0, 1) := by decide +kernel
theorem dL_law_475 : decode cL_law 475 = .ok (.iload 4, 2) := by decide +kernel
theorem dL_law_477 : decode cL_law 477 = .ok (.iconst 3, 1) := by decide +kernel
theorem dL_law_478 : decode cL_law 478 = .ok (.iadd, 1) := by decide +kernel
theorem dL_law_479 : decode cL_law 479 = .ok (.iaload, 1) := by decide +kernel
theorem dL_law_480 : decode cL_law 480 = .ok (.aload_n 3, 1) := by decide +kernel
theorem dL_law_481 : decode cL_law 481 = .ok (.invokestatic 81, 3) := by decide +kernel
theorem dL_law_484 : decode cL_law 484 = .ok (.istore 5, 2) := by decide +kernel
theorem dL_law_486 : decode cL_law 486 = .ok (.aload_n 2, 1) := by decide +kernel
theorem dL_law_487 : decode cL_law 487 = .ok (.aload_n 0, 1) := by decide +kernel
theorem dL_law_488 : decode cL_law 488 = .ok (.iload 4, 2) := by decide +kernel
theorem dL_law_490 : decode cL_law 490 = .ok (.iconst 1, 1) := by decide +kernel
theorem dL_law_491 : decode cL_law 491 = .ok (.iadd, 1) := by decide +kernel
theorem dL_law_492 : decode cL_law 492 = .ok (.iaload, 1) := by decide +kernel
theorem dL_law_493 : decode cL_law 493 = .ok (.aload_n 0, 1) := by decide +kernel
theorem dL_law_494 : decode cL_law 494 = .ok (.iload 4, 2) := by decide +kernel
theorem dL_law_496 : decode cL_law 496 = .ok (.iconst 2, 1) := by decide +kernel
theorem dL_law_497 : decode cL_law 497 = .ok (.iadd, 1) := by decide +kernel
theorem dL_law_498 : decode cL_law 498 = .ok (.iaload, 1) := by decide +kernel
theorem dL_law_499 : decode cL_law 499 = .ok (.aload_n 0, 1) := by decide +kernel
theorem dL_law_500 : decode cL_law 500 = .ok (.iload 4, 2) := by decide +kernel
theorem dL_law_502 : decode cL_law 502 = .ok (.iconst 3, 1) := by decide +kernel
theorem dL_law_503 : decode cL_law 503 = .ok (.iadd, 1) := by decide +kernel
theorem dL_law_504 : decode cL_law 504 = .ok (.iaload, 1) := by decide +kernel
theorem dL_law_505 : decode cL_law 505 = .ok (.invokevirtual 83, 3) := by decide +kernel
theorem dL_law_508 : decode cL_law 508 = .ok (.istore 6, 2) := by decide +kernel
theorem dL_law_510 : decode cL_law 510 = .ok (.aload_n 2, 1) := by decide +kernel
theorem dL_law_511 : decode cL_law 511 = .ok (.invokevirtual 66, 3) := by decide +kernel
theorem dL_law_514 : decode cL_law 514 = .ok (.iload 5, 2) := by decide +kernel
theorem dL_law_516 : decode cL_law 516 = .ok (.if_icmp .eq 5, 3) := by decide +kernel
theorem dL_law_519 : decode cL_law 519 = .ok (.iconst 0, 1) := by decide +kernel
theorem dL_law_520 : decode cL_law 520 = .ok (.ireturn, 1) := by decide +kernel
theorem dL_law_521 : decode cL_law 521 = .ok (.iload 5, 2) := by decide +kernel
theorem dL_law_523 : decode cL_law 523 = .ok (.ifCond .ne 22, 3) := by decide +kernel
theorem dL_law_526 : decode cL_law 526 = .ok (.aload_n 3, 1) := by decide +kernel
theorem dL_law_527 : decode cL_law 527 = .ok (.iconst 0, 1) := by decide +kernel
theorem dL_law_528 : decode cL_law 528 = .ok (.laload, 1) := by decide +kernel
theorem dL_law_529 : decode cL_law 529 = .ok (.iload 6, 2) := by decide +kernel
theorem dL_law_531 : decode cL_law 531 = .ok (.ifCond .eq 7, 3) := by decide +kernel
theorem dL_law_534 : decode cL_law 534 = .ok (.lconst 1, 1) := by decide +kernel
theorem dL_law_535 : decode cL_law 535 = .ok (.goto 4, 3) := by decide +kernel
theorem dL_law_538 : decode cL_law 538 = .ok (.lconst 0, 1) := by decide +kernel
theorem dL_law_539 : decode cL_law 539 = .ok (.lcmp, 1) := by decide +kernel
theorem dL_law_540 : decode cL_law 540 = .ok (.ifCond .eq 5, 3) := by decide +kernel
theorem dL_law_543 : decode cL_law 543 = .ok (.iconst 0, 1) := by decide +kernel
theorem dL_law_544 : decode cL_law 544 = .ok (.ireturn, 1) := by decide +kernel
theorem dL_law_545 : decode cL_law 545 = .ok (.goto 538, 3) := by decide +kernel
theorem dL_law_548 : decode cL_law 548 = .ok (.aload_n 1, 1) := by decide +kernel
theorem dL_law_549 : decode cL_law 549 = .ok (.aload_n 0, 1) := by decide +kernel
theorem dL_law_550 : decode cL_law 550 = .ok (.iload 4, 2) := by decide +kernel
theorem dL_law_552 : decode cL_law 552 = .ok (.iconst 1, 1) := by decide +kernel
theorem dL_law_553 : decode cL_law 553 = .ok (.iadd, 1) := by decide +kernel
theorem dL_law_554 : decode cL_law 554 = .ok (.iaload, 1) := by decide +kernel
theorem dL_law_555 : decode cL_law 555 = .ok (.aload_n 0, 1) := by decide +kernel
theorem dL_law_556 : decode cL_law 556 = .ok (.iload 4, 2) := by decide +kernel
theorem dL_law_558 : decode cL_law 558 = .ok (.iconst 2, 1) := by decide +kernel
theorem dL_law_559 : decode cL_law 559 = .ok (.iadd, 1) := by decide +kernel
theorem dL_law_560 : decode cL_law 560 = .ok (.iaload, 1) := by decide +kernel
theorem dL_law_561 : decode cL_law 561 = .ok (.aload_n 3, 1) := by decide +kernel
theorem dL_law_562 : decode cL_law 562 = .ok (.invokestatic 84, 3) := by decide +kernel
theorem dL_law_565 : decode cL_law 565 = .ok (.istore 5, 2) := by decide +kernel
theorem dL_law_567 : decode cL_law 567 = .ok (.aload_n 2, 1) := by decide +kernel
theorem dL_law_568 : decode cL_law 568 = .ok (.aload_n 0, 1) := by decide +kernel
theorem dL_law_569 : decode cL_law 569 = .ok (.iload 4, 2) := by decide +kernel
theorem dL_law_571 : decode cL_law 571 = .ok (.iconst 1, 1) := by decide +kernel
theorem dL_law_572 : decode cL_law 572 = .ok (.iadd, 1) := by decide +kernel
theorem dL_law_573 : decode cL_law 573 = .ok (.iaload, 1) := by decide +kernel
theorem dL_law_574 : decode cL_law 574 = .ok (.aload_n 0, 1) := by decide +kernel
theorem dL_law_575 : decode cL_law 575 = .ok (.iload 4, 2) := by decide +kernel
theorem dL_law_577 : decode cL_law 577 = .ok (.iconst 2, 1) := by decide +kernel
theorem dL_law_578 : decode cL_law 578 = .ok (.iadd, 1) := by decide +kernel
theorem dL_law_579 : decode cL_law 579 = .ok (.iaload, 1) := by decide +kernel
theorem dL_law_580 : decode cL_law 580 = .ok (.invokevirtual 86, 3) := by decide +kernel
theorem dL_law_583 : decode cL_law 583 = .ok (.istore 6, 2) := by decide +kernel
theorem dL_law_585 : decode cL_law 585 = .ok (.aload_n 2, 1) := by decide +kernel
theorem dL_law_586 : decode cL_law 586 = .ok (.invokevirtual 66, 3) := by decide +kernel
theorem dL_law_589 : decode cL_law 589 = .ok (.iload 5, 2) := by decide +kernel
theorem dL_law_591 : decode cL_law 591 = .ok (.if_icmp .eq 5, 3) := by decide +kernel
theorem dL_law_594 : decode cL_law 594 = .ok (.iconst 0, 1) := by decide +kernel
theorem dL_law_595 : decode cL_law 595 = .ok (.ireturn, 1) := by decide +kernel
theorem dL_law_596 : decode cL_law 596 = .ok (.iload 5, 2) := by decide +kernel
theorem dL_law_598 : decode cL_law 598 = .ok (.ifCond .ne 15, 3) := by decide +kernel
theorem dL_law_601 : decode cL_law 601 = .ok (.aload_n 3, 1) := by decide +kernel
theorem dL_law_602 : decode cL_law 602 = .ok (.iconst 0, 1) := by decide +kernel
theorem dL_law_603 : decode cL_law 603 = .ok (.laload, 1) := by decide +kernel
end
section
theorem dL_law_604 : decode cL_law 604 = .ok (.iload 6, 2) := by decide +kernel
theorem dL_law_606 : decode cL_law 606 = .ok (.i2l, 1) := by decide +kernel
theorem dL_law_607 : decode cL_law 607 = .ok (.lcmp, 1) := by decide +kernel
theorem dL_law_608 : decode cL_law 608 = .ok (.ifCond .eq 5, 3) := by decide +kernel
theorem dL_law_611 : decode cL_law 611 = .ok (.iconst 0, 1) := by decide +kernel
theorem dL_law_612 : decode cL_law 612 = .ok (.ireturn, 1) := by decide +kernel
theorem dL_law_613 : decode cL_law 613 = .ok (.goto 470, 3) := by decide +kernel
theorem dL_law_616 : decode cL_law 616 = .ok (.aload_n 1, 1) := by decide +kernel
theorem dL_law_617 : decode cL_law 617 = .ok (.aload_n 0, 1) := by decide +kernel
theorem dL_law_618 : decode cL_law 618 = .ok (.iload 4, 2) := by decide +kernel
theorem dL_law_620 : decode cL_law 620 = .ok (.iconst 1, 1) := by decide +kernel
theorem dL_law_621 : decode cL_law 621 = .ok (.iadd, 1) := by decide +kernel
theorem dL_law_622 : decode cL_law 622 = .ok (.iaload, 1) := by decide +kernel
theorem dL_law_623 : decode cL_law 623 = .ok (.aload_n 0, 1) := by decide +kernel
theorem dL_law_624 : decode cL_law 624 = .ok (.iload 4, 2) := by decide +kernel
theorem dL_law_626 : decode cL_law 626 = .ok (.iconst 2, 1) := by decide +kernel
theorem dL_law_627 : decode cL_law 627 = .ok (.iadd, 1) := by decide +kernel
theorem dL_law_628 : decode cL_law 628 = .ok (.iaload, 1) := by decide +kernel
theorem dL_law_629 : decode cL_law 629 = .ok (.aload_n 3, 1) := by decide +kernel
theorem dL_law_630 : decode cL_law 630 = .ok (.invokestatic 87, 3) := by decide +kernel
theorem dL_law_633 : decode cL_law 633 = .ok (.istore 5, 2) := by decide +kernel
theorem dL_law_635 : decode cL_law 635 = .ok (.aload_n 2, 1) := by decide +kernel
theorem dL_law_636 : decode cL_law 636 = .ok (.aload_n 0, 1) := by decide +kernel
theorem dL_law_637 : decode cL_law 637 = .ok (.iload 4, 2) := by decide +kernel
theorem dL_law_639 : decode cL_law 639 = .ok (.iconst 1, 1) := by decide +kernel
theorem dL_law_640 : decode cL_law 640 = .ok (.iadd, 1) := by decide +kernel
theorem dL_law_641 : decode cL_law 641 = .ok (.iaload, 1) := by decide +kernel
theorem dL_law_642 : decode cL_law 642 = .ok (.aload_n 0, 1) := by decide +kernel
theorem dL_law_643 : decode cL_law 643 = .ok (.iload 4, 2) := by decide +kernel
theorem dL_law_645 : decode cL_law 645 = .ok (.iconst 2, 1) := by decide +kernel
theorem dL_law_646 : decode cL_law 646 = .ok (.iadd, 1) := by decide +kernel
theorem dL_law_647 : decode cL_law 647 = .ok (.iaload, 1) := by decide +kernel
theorem dL_law_648 : decode cL_law 648 = .ok (.invokevirtual 89, 3) := by decide +kernel
theorem dL_law_651 : decode cL_law 651 = .ok (.lstore 6, 2) := by decide +kernel
theorem dL_law_653 : decode cL_law 653 = .ok (.aload_n 2, 1) := by decide +kernel
theorem dL_law_654 : decode cL_law 654 = .ok (.invokevirtual 66, 3) := by decide +kernel
theorem dL_law_657 : decode cL_law 657 = .ok (.iload 5, 2) := by decide +kernel
theorem dL_law_659 : decode cL_law 659 = .ok (.if_icmp .eq 5, 3) := by decide +kernel
theorem dL_law_662 : decode cL_law 662 = .ok (.iconst 0, 1) := by decide +kernel
theorem dL_law_663 : decode cL_law 663 = .ok (.ireturn, 1) := by decide +kernel
theorem dL_law_664 : decode cL_law 664 = .ok (.iload 5, 2) := by decide +kernel
theorem dL_law_666 : decode cL_law 666 = .ok (.ifCond .ne 14, 3) := by decide +kernel
theorem dL_law_669 : decode cL_law 669 = .ok (.aload_n 3, 1) := by decide +kernel
theorem dL_law_670 : decode cL_law 670 = .ok (.iconst 0, 1) := by decide +kernel
theorem dL_law_671 : decode cL_law 671 = .ok (.laload, 1) := by decide +kernel
theorem dL_law_672 : decode cL_law 672 = .ok (.lload 6, 2) := by decide +kernel
theorem dL_law_674 : decode cL_law 674 = .ok (.lcmp, 1) := by decide +kernel
theorem dL_law_675 : decode cL_law 675 = .ok (.ifCond .eq 5, 3) := by decide +kernel
theorem dL_law_678 : decode cL_law 678 = .ok (.iconst 0, 1) := by decide +kernel
theorem dL_law_679 : decode cL_law 679 = .ok (.ireturn, 1) := by decide +kernel
theorem dL_law_680 : decode cL_law 680 = .ok (.goto 403, 3) := by decide +kernel
theorem dL_law_683 : decode cL_law 683 = .ok (.aload_n 1, 1) := by decide +kernel
theorem dL_law_684 : decode cL_law 684 = .ok (.aload_n 0, 1) := by decide +kernel
theorem dL_law_685 : decode cL_law 685 = .ok (.iload 4, 2) := by decide +kernel
theorem dL_law_687 : decode cL_law 687 = .ok (.iconst 1, 1) := by decide +kernel
theorem dL_law_688 : decode cL_law 688 = .ok (.iadd, 1) := by decide +kernel
theorem dL_law_689 : decode cL_law 689 = .ok (.iaload, 1) := by decide +kernel
theorem dL_law_690 : decode cL_law 690 = .ok (.aload_n 0, 1) := by decide +kernel
theorem dL_law_691 : decode cL_law 691 = .ok (.iload 4, 2) := by decide +kernel
theorem dL_law_693 : decode cL_law 693 = .ok (.iconst 2, 1) := by decide +kernel
theorem dL_law_694 : decode cL_law 694 = .ok (.iadd, 1) := by decide +kernel
theorem dL_law_695 : decode cL_law 695 = .ok (.iaload, 1) := by decide +kernel
theorem dL_law_696 : decode cL_law 696 = .ok (.aload_n 3, 1) := by decide +kernel
theorem dL_law_697 : decode cL_law 697 = .ok (.invokestatic 90, 3) := by decide +kernel
theorem dL_law_700 : decode cL_law 700 = .ok (.istore 5, 2) := by decide +kernel
theorem dL_law_702 : decode cL_law 702 = .ok (.aload_n 2, 1) := by decide +kernel
theorem dL_law_703 : decode cL_law 703 = .ok (.aload_n 0, 1) := by decide +kernel
theorem dL_law_704 : decode cL_law 704 = .ok (.iload 4, 2) := by decide +kernel
theorem dL_law_706 : decode cL_law 706 = .ok (.iconst 1, 1) := by decide +kernel
theorem dL_law_707 : decode cL_law 707 = .ok (.iadd, 1) := by decide +kernel
theorem dL_law_708 : decode cL_law 708 = .ok (.iaload, 1) := by decide +kernel
theorem dL_law_709 : decode cL_law 709 = .ok (.aload_n 0, 1) := by decide +kernel
theorem dL_law_710 : decode cL_law 710 = .ok (.iload 4, 2) := by decide +kernel
theorem dL_law_712 : decode cL_law 712 = .ok (.iconst 2, 1) := by decide +kernel
theorem dL_law_713 : decode cL_law 713 = .ok (.iadd, 1) := by decide +kernel
theorem dL_law_714 : decode cL_law 714 = .ok (.iaload, 1) := by decide +kernel
theorem dL_law_715 : decode cL_law 715 = .ok (.invokevirtual 92, 3) := by decide +kernel
theorem dL_law_718 : decode cL_law 718 = .ok (.lstore 6, 2) := by decide +kernel
theorem dL_law_720 : decode cL_law 720 = .ok (.aload_n 2, 1) := by decide +kernel
theorem dL_law_721 : decode cL_law 721 = .ok (.invokevirtual 66, 3) := by decide +kernel
theorem dL_law_724 : decode cL_law 724 = .ok (.iload 5, 2) := by decide +kernel
theorem dL_law_726 : decode cL_law 726 = .ok (.if_icmp .eq 5, 3) := by decide +kernel
theorem dL_law_729 : decode cL_law 729 = .ok (.iconst 0, 1) := by decide +kernel
theorem dL_law_730 : decode cL_law 730 = .ok (.ireturn, 1) := by decide +kernel
theorem dL_law_731 : decode cL_law 731 = .ok (.iload 5, 2) := by decide +kernel
theorem dL_law_733 : decode cL_law 733 = .ok (.ifCond .ne 14, 3) := by decide +kernel
theorem dL_law_736 : decode cL_law 736 = .ok (.aload_n 3, 1) := by decide +kernel
theorem dL_law_737 : decode cL_law 737 = .ok (.iconst 0, 1) := by decide +kernel
theorem dL_law_738 : decode cL_law 738 = .ok (.laload, 1) := by decide +kernel
theorem dL_law_739 : decode cL_law 739 = .ok (.lload 6, 2) := by decide +kernel
theorem dL_law_741 : decode cL_law 741 = .ok (.lcmp, 1) := by decide +kernel
theorem dL_law_742 : decode cL_law 742 = .ok (.ifCond .eq 5, 3) := by decide +kernel
theorem dL_law_745 : decode cL_law 745 = .ok (.iconst 0, 1) := by decide +kernel
theorem dL_law_746 : decode cL_law 746 = .ok (.ireturn, 1) := by decide +kernel
theorem dL_law_747 : decode cL_law 747 = .ok (.goto 336, 3) := by decide +kernel
theorem dL_law_750 : decode cL_law 750 = .ok (.aload_n 1, 1) := by decide +kernel
theorem dL_law_751 : decode cL_law 751 = .ok (.aload_n 0, 1) := by decide +kernel
theorem dL_law_752 : decode cL_law 752 = .ok (.iload 4, 2) := by decide +kernel
theorem dL_law_754 : decode cL_law 754 = .ok (.iconst 1, 1) := by decide +kernel
theorem dL_law_755 : decode cL_law 755 = .ok (.iadd, 1) := by decide +kernel
theorem dL_law_756 : decode cL_law 756 = .ok (.iaload, 1) := by decide +kernel
theorem dL_law_757 : decode cL_law 757 = .ok (.aload_n 0, 1) := by decide +kernel
theorem dL_law_758 : decode cL_law 758 = .ok (.iload 4, 2) := by decide +kernel
theorem dL_law_760 : decode cL_law 760 = .ok (.iconst 2, 1) := by decide +kernel
theorem dL_law_761 : decode cL_law 761 = .ok (.iadd, 1) := by decide +kernel
theorem dL_law_762 : decode cL_law 762 = .ok (.iaload, 1) := by decide +kernel
theorem dL_law_763 : decode cL_law 763 = .ok (.invokevirtual 93, 3) := by decide +kernel
theorem dL_law_766 : decode cL_law 766 = .ok (.aload_n 2, 1) := by decide +kernel
theorem dL_law_767 : decode cL_law 767 = .ok (.aload_n 0, 1) := by decide +kernel
theorem dL_law_768 : decode cL_law 768 = .ok (.iload 4, 2) := by decide +kernel
theorem dL_law_770 : decode cL_law 770 = .ok (.iconst 1, 1) := by decide +kernel
theorem dL_law_771 : decode cL_law 771 = .ok (.iadd, 1) := by decide +kernel
theorem dL_law_772 : decode cL_law 772 = .ok (.iaload, 1) := by decide +kernel
theorem dL_law_773 : decode cL_law 773 = .ok (.aload_n 0, 1) := by decide +kernel
theorem dL_law_774 : decode cL_law 774 = .ok (.iload 4, 2) := by decide +kernel
theorem dL_law_776 : decode cL_law 776 = .ok (.iconst 2, 1) := by decide +kernel
theorem dL_law_777 : decode cL_law 777 = .ok (.iadd, 1) := by decide +kernel
theorem dL_law_778 : decode cL_law 778 = .ok (.iaload, 1) := by decide +kernel
theorem dL_law_779 : decode cL_law 779 = .ok (.invokevirtual 96, 3) := by decide +kernel
theorem dL_law_782 : decode cL_law 782 = .ok (.if_icmp .eq 301, 3) := by decide +kernel
end
section
theorem dL_law_785 : decode cL_law 785 = .ok (.iconst 0, 1) := by decide +kernel
theorem dL_law_786 : decode cL_law 786 = .ok (.ireturn, 1) := by decide +kernel
theorem dL_law_787 : decode cL_law 787 = .ok (.aload_n 1, 1) := by decide +kernel
theorem dL_law_788 : decode cL_law 788 = .ok (.aload_n 0, 1) := by decide +kernel
theorem dL_law_789 : decode cL_law 789 = .ok (.iload 4, 2) := by decide +kernel
theorem dL_law_791 : decode cL_law 791 = .ok (.iconst 1, 1) := by decide +kernel
theorem dL_law_792 : decode cL_law 792 = .ok (.iadd, 1) := by decide +kernel
theorem dL_law_793 : decode cL_law 793 = .ok (.iaload, 1) := by decide +kernel
theorem dL_law_794 : decode cL_law 794 = .ok (.aload_n 3, 1) := by decide +kernel
theorem dL_law_795 : decode cL_law 795 = .ok (.invokestatic 97, 3) := by decide +kernel
theorem dL_law_798 : decode cL_law 798 = .ok (.istore 5, 2) := by decide +kernel
theorem dL_law_800 : decode cL_law 800 = .ok (.aload_n 2, 1) := by decide +kernel
theorem dL_law_801 : decode cL_law 801 = .ok (.aload_n 0, 1) := by decide +kernel
theorem dL_law_802 : decode cL_law 802 = .ok (.iload 4, 2) := by decide +kernel
theorem dL_law_804 : decode cL_law 804 = .ok (.iconst 1, 1) := by decide +kernel
theorem dL_law_805 : decode cL_law 805 = .ok (.iadd, 1) := by decide +kernel
theorem dL_law_806 : decode cL_law 806 = .ok (.iaload, 1) := by decide +kernel
theorem dL_law_807 : decode cL_law 807 = .ok (.invokevirtual 100, 3) := by decide +kernel
theorem dL_law_810 : decode cL_law 810 = .ok (.istore 6, 2) := by decide +kernel
theorem dL_law_812 : decode cL_law 812 = .ok (.aload_n 2, 1) := by decide +kernel
theorem dL_law_813 : decode cL_law 813 = .ok (.invokevirtual 66, 3) := by decide +kernel
theorem dL_law_816 : decode cL_law 816 = .ok (.iload 5, 2) := by decide +kernel
theorem dL_law_818 : decode cL_law 818 = .ok (.if_icmp .eq 5, 3) := by decide +kernel
theorem dL_law_821 : decode cL_law 821 = .ok (.iconst 0, 1) := by decide +kernel
theorem dL_law_822 : decode cL_law 822 = .ok (.ireturn, 1) := by decide +kernel
theorem dL_law_823 : decode cL_law 823 = .ok (.iload 5, 2) := by decide +kernel
theorem dL_law_825 : decode cL_law 825 = .ok (.ifCond .ne 15, 3) := by decide +kernel
theorem dL_law_828 : decode cL_law 828 = .ok (.aload_n 3, 1) := by decide +kernel
theorem dL_law_829 : decode cL_law 829 = .ok (.iconst 0, 1) := by decide +kernel
theorem dL_law_830 : decode cL_law 830 = .ok (.laload, 1) := by decide +kernel
theorem dL_law_831 : decode cL_law 831 = .ok (.iload 6, 2) := by decide +kernel
theorem dL_law_833 : decode cL_law 833 = .ok (.i2l, 1) := by decide +kernel
theorem dL_law_834 : decode cL_law 834 = .ok (.lcmp, 1) := by decide +kernel
theorem dL_law_835 : decode cL_law 835 = .ok (.ifCond .eq 5, 3) := by decide +kernel
theorem dL_law_838 : decode cL_law 838 = .ok (.iconst 0, 1) := by decide +kernel
theorem dL_law_839 : decode cL_law 839 = .ok (.ireturn, 1) := by decide +kernel
theorem dL_law_840 : decode cL_law 840 = .ok (.goto 243, 3) := by decide +kernel
theorem dL_law_843 : decode cL_law 843 = .ok (.aload_n 1, 1) := by decide +kernel
theorem dL_law_844 : decode cL_law 844 = .ok (.aload_n 0, 1) := by decide +kernel
theorem dL_law_845 : decode cL_law 845 = .ok (.iload 4, 2) := by decide +kernel
theorem dL_law_847 : decode cL_law 847 = .ok (.iconst 1, 1) := by decide +kernel
theorem dL_law_848 : decode cL_law 848 = .ok (.iadd, 1) := by decide +kernel
theorem dL_law_849 : decode cL_law 849 = .ok (.iaload, 1) := by decide +kernel
theorem dL_law_850 : decode cL_law 850 = .ok (.aload_n 0, 1) := by decide +kernel
theorem dL_law_851 : decode cL_law 851 = .ok (.iload 4, 2) := by decide +kernel
theorem dL_law_853 : decode cL_law 853 = .ok (.iconst 2, 1) := by decide +kernel
theorem dL_law_854 : decode cL_law 854 = .ok (.iadd, 1) := by decide +kernel
theorem dL_law_855 : decode cL_law 855 = .ok (.iaload, 1) := by decide +kernel
theorem dL_law_856 : decode cL_law 856 = .ok (.aload_n 3, 1) := by decide +kernel
theorem dL_law_857 : decode cL_law 857 = .ok (.invokestatic 101, 3) := by decide +kernel
theorem dL_law_860 : decode cL_law 860 = .ok (.istore 5, 2) := by decide +kernel
theorem dL_law_862 : decode cL_law 862 = .ok (.aload_n 2, 1) := by decide +kernel
theorem dL_law_863 : decode cL_law 863 = .ok (.aload_n 0, 1) := by decide +kernel
theorem dL_law_864 : decode cL_law 864 = .ok (.iload 4, 2) := by decide +kernel
theorem dL_law_866 : decode cL_law 866 = .ok (.iconst 1, 1) := by decide +kernel
theorem dL_law_867 : decode cL_law 867 = .ok (.iadd, 1) := by decide +kernel
theorem dL_law_868 : decode cL_law 868 = .ok (.iaload, 1) := by decide +kernel
theorem dL_law_869 : decode cL_law 869 = .ok (.aload_n 0, 1) := by decide +kernel
theorem dL_law_870 : decode cL_law 870 = .ok (.iload 4, 2) := by decide +kernel
theorem dL_law_872 : decode cL_law 872 = .ok (.iconst 2, 1) := by decide +kernel
theorem dL_law_873 : decode cL_law 873 = .ok (.iadd, 1) := by decide +kernel
theorem dL_law_874 : decode cL_law 874 = .ok (.iaload, 1) := by decide +kernel
theorem dL_law_875 : decode cL_law 875 = .ok (.invokevirtual 103, 3) := by decide +kernel
theorem dL_law_878 : decode cL_law 878 = .ok (.istore 6, 2) := by decide +kernel
theorem dL_law_880 : decode cL_law 880 = .ok (.aload_n 2, 1) := by decide +kernel
theorem dL_law_881 : decode cL_law 881 = .ok (.invokevirtual 66, 3) := by decide +kernel
theorem dL_law_884 : decode cL_law 884 = .ok (.iload 5, 2) := by decide +kernel
theorem dL_law_886 : decode cL_law 886 = .ok (.if_icmp .eq 5, 3) := by decide +kernel
theorem dL_law_889 : decode cL_law 889 = .ok (.iconst 0, 1) := by decide +kernel
theorem dL_law_890 : decode cL_law 890 = .ok (.ireturn, 1) := by decide +kernel
theorem dL_law_891 : decode cL_law 891 = .ok (.iload 5, 2) := by decide +kernel
theorem dL_law_893 : decode cL_law 893 = .ok (.ifCond .ne 15, 3) := by decide +kernel
theorem dL_law_896 : decode cL_law 896 = .ok (.aload_n 3, 1) := by decide +kernel
theorem dL_law_897 : decode cL_law 897 = .ok (.iconst 0, 1) := by decide +kernel
theorem dL_law_898 : decode cL_law 898 = .ok (.laload, 1) := by decide +kernel
theorem dL_law_899 : decode cL_law 899 = .ok (.iload 6, 2) := by decide +kernel
theorem dL_law_901 : decode cL_law 901 = .ok (.i2l, 1) := by decide +kernel
theorem dL_law_902 : decode cL_law 902 = .ok (.lcmp, 1) := by decide +kernel
theorem dL_law_903 : decode cL_law 903 = .ok (.ifCond .eq 5, 3) := by decide +kernel
theorem dL_law_906 : decode cL_law 906 = .ok (.iconst 0, 1) := by decide +kernel
theorem dL_law_907 : decode cL_law 907 = .ok (.ireturn, 1) := by decide +kernel
theorem dL_law_908 : decode cL_law 908 = .ok (.goto 175, 3) := by decide +kernel
theorem dL_law_911 : decode cL_law 911 = .ok (.aload_n 1, 1) := by decide +kernel
theorem dL_law_912 : decode cL_law 912 = .ok (.aload_n 0, 1) := by decide +kernel
theorem dL_law_913 : decode cL_law 913 = .ok (.iload 4, 2) := by decide +kernel
theorem dL_law_915 : decode cL_law 915 = .ok (.iconst 1, 1) := by decide +kernel
theorem dL_law_916 : decode cL_law 916 = .ok (.iadd, 1) := by decide +kernel
theorem dL_law_917 : decode cL_law 917 = .ok (.iaload, 1) := by decide +kernel
theorem dL_law_918 : decode cL_law 918 = .ok (.aload_n 0, 1) := by decide +kernel
theorem dL_law_919 : decode cL_law 919 = .ok (.iload 4, 2) := by decide +kernel
theorem dL_law_921 : decode cL_law 921 = .ok (.iconst 2, 1) := by decide +kernel
theorem dL_law_922 : decode cL_law 922 = .ok (.iadd, 1) := by decide +kernel
theorem dL_law_923 : decode cL_law 923 = .ok (.iaload, 1) := by decide +kernel
theorem dL_law_924 : decode cL_law 924 = .ok (.aload_n 3, 1) := by decide +kernel
theorem dL_law_925 : decode cL_law 925 = .ok (.invokestatic 104, 3) := by decide +kernel
theorem dL_law_928 : decode cL_law 928 = .ok (.istore 5, 2) := by decide +kernel
theorem dL_law_930 : decode cL_law 930 = .ok (.aload_n 2, 1) := by decide +kernel
theorem dL_law_931 : decode cL_law 931 = .ok (.aload_n 0, 1) := by decide +kernel
theorem dL_law_932 : decode cL_law 932 = .ok (.iload 4, 2) := by decide +kernel
theorem dL_law_934 : decode cL_law 934 = .ok (.iconst 1, 1) := by decide +kernel
theorem dL_law_935 : decode cL_law 935 = .ok (.iadd, 1) := by decide +kernel
theorem dL_law_936 : decode cL_law 936 = .ok (.iaload, 1) := by decide +kernel
theorem dL_law_937 : decode cL_law 937 = .ok (.aload_n 0, 1) := by decide +kernel
theorem dL_law_938 : decode cL_law 938 = .ok (.iload 4, 2) := by decide +kernel
theorem dL_law_940 : decode cL_law 940 = .ok (.iconst 2, 1) := by decide +kernel
theorem dL_law_941 : decode cL_law 941 = .ok (.iadd, 1) := by decide +kernel
theorem dL_law_942 : decode cL_law 942 = .ok (.iaload, 1) := by decide +kernel
theorem dL_law_943 : decode cL_law 943 = .ok (.invokevirtual 106, 3) := by decide +kernel
theorem dL_law_946 : decode cL_law 946 = .ok (.istore 6, 2) := by decide +kernel
theorem dL_law_948 : decode cL_law 948 = .ok (.aload_n 2, 1) := by decide +kernel
theorem dL_law_949 : decode cL_law 949 = .ok (.invokevirtual 66, 3) := by decide +kernel
theorem dL_law_952 : decode cL_law 952 = .ok (.iload 5, 2) := by decide +kernel
theorem dL_law_954 : decode cL_law 954 = .ok (.if_icmp .eq 5, 3) := by decide +kernel
theorem dL_law_957 : decode cL_law 957 = .ok (.iconst 0, 1) := by decide +kernel
theorem dL_law_958 : decode cL_law 958 = .ok (.ireturn, 1) := by decide +kernel
theorem dL_law_959 : decode cL_law 959 = .ok (.iload 5, 2) := by decide +kernel
theorem dL_law_961 : decode cL_law 961 = .ok (.ifCond .ne 15, 3) := by decide +kernel
theorem dL_law_964 : decode cL_law 964 = .ok (.aload_n 3, 1) := by decide +kernel
theorem dL_law_965 : decode cL_law 965 = .ok (.iconst 0, 1) := by decide +kernel
theorem dL_law_966 : decode cL_law 966 = .ok (.laload, 1) := by decide +kernel
end
section
theorem dL_law_967 : decode cL_law 967 = .ok (.iload 6, 2) := by decide +kernel
theorem dL_law_969 : decode cL_law 969 = .ok (.i2l, 1) := by decide +kernel
theorem dL_law_970 : decode cL_law 970 = .ok (.lcmp, 1) := by decide +kernel
theorem dL_law_971 : decode cL_law 971 = .ok (.ifCond .eq 5, 3) := by decide +kernel
theorem dL_law_974 : decode cL_law 974 = .ok (.iconst 0, 1) := by decide +kernel
theorem dL_law_975 : decode cL_law 975 = .ok (.ireturn, 1) := by decide +kernel
theorem dL_law_976 : decode cL_law 976 = .ok (.goto 107, 3) := by decide +kernel
theorem dL_law_979 : decode cL_law 979 = .ok (.aload_n 1, 1) := by decide +kernel
theorem dL_law_980 : decode cL_law 980 = .ok (.aload_n 0, 1) := by decide +kernel
theorem dL_law_981 : decode cL_law 981 = .ok (.iload 4, 2) := by decide +kernel
theorem dL_law_983 : decode cL_law 983 = .ok (.iconst 1, 1) := by decide +kernel
theorem dL_law_984 : decode cL_law 984 = .ok (.iadd, 1) := by decide +kernel
theorem dL_law_985 : decode cL_law 985 = .ok (.iaload, 1) := by decide +kernel
theorem dL_law_986 : decode cL_law 986 = .ok (.aload_n 0, 1) := by decide +kernel
theorem dL_law_987 : decode cL_law 987 = .ok (.iload 4, 2) := by decide +kernel
theorem dL_law_989 : decode cL_law 989 = .ok (.iconst 2, 1) := by decide +kernel
theorem dL_law_990 : decode cL_law 990 = .ok (.iadd, 1) := by decide +kernel
theorem dL_law_991 : decode cL_law 991 = .ok (.iaload, 1) := by decide +kernel
theorem dL_law_992 : decode cL_law 992 = .ok (.aload_n 3, 1) := by decide +kernel
theorem dL_law_993 : decode cL_law 993 = .ok (.invokestatic 107, 3) := by decide +kernel
theorem dL_law_996 : decode cL_law 996 = .ok (.istore 5, 2) := by decide +kernel
theorem dL_law_998 : decode cL_law 998 = .ok (.aload_n 2, 1) := by decide +kernel
theorem dL_law_999 : decode cL_law 999 = .ok (.aload_n 0, 1) := by decide +kernel
theorem dL_law_1000 : decode cL_law 1000 = .ok (.iload 4, 2) := by decide +kernel
theorem dL_law_1002 : decode cL_law 1002 = .ok (.iconst 1, 1) := by decide +kernel
theorem dL_law_1003 : decode cL_law 1003 = .ok (.iadd, 1) := by decide +kernel
theorem dL_law_1004 : decode cL_law 1004 = .ok (.iaload, 1) := by decide +kernel
theorem dL_law_1005 : decode cL_law 1005 = .ok (.aload_n 0, 1) := by decide +kernel
theorem dL_law_1006 : decode cL_law 1006 = .ok (.iload 4, 2) := by decide +kernel
theorem dL_law_1008 : decode cL_law 1008 = .ok (.iconst 2, 1) := by decide +kernel
theorem dL_law_1009 : decode cL_law 1009 = .ok (.iadd, 1) := by decide +kernel
theorem dL_law_1010 : decode cL_law 1010 = .ok (.iaload, 1) := by decide +kernel
theorem dL_law_1011 : decode cL_law 1011 = .ok (.invokevirtual 109, 3) := by decide +kernel
theorem dL_law_1014 : decode cL_law 1014 = .ok (.lstore 6, 2) := by decide +kernel
theorem dL_law_1016 : decode cL_law 1016 = .ok (.aload_n 2, 1) := by decide +kernel
theorem dL_law_1017 : decode cL_law 1017 = .ok (.invokevirtual 66, 3) := by decide +kernel
theorem dL_law_1020 : decode cL_law 1020 = .ok (.iload 5, 2) := by decide +kernel
theorem dL_law_1022 : decode cL_law 1022 = .ok (.if_icmp .eq 5, 3) := by decide +kernel
theorem dL_law_1025 : decode cL_law 1025 = .ok (.iconst 0, 1) := by decide +kernel
theorem dL_law_1026 : decode cL_law 1026 = .ok (.ireturn, 1) := by decide +kernel
theorem dL_law_1027 : decode cL_law 1027 = .ok (.iload 5, 2) := by decide +kernel
theorem dL_law_1029 : decode cL_law 1029 = .ok (.ifCond .ne 14, 3) := by decide +kernel
theorem dL_law_1032 : decode cL_law 1032 = .ok (.aload_n 3, 1) := by decide +kernel
theorem dL_law_1033 : decode cL_law 1033 = .ok (.iconst 0, 1) := by decide +kernel
theorem dL_law_1034 : decode cL_law 1034 = .ok (.laload, 1) := by decide +kernel
theorem dL_law_1035 : decode cL_law 1035 = .ok (.lload 6, 2) := by decide +kernel
theorem dL_law_1037 : decode cL_law 1037 = .ok (.lcmp, 1) := by decide +kernel
theorem dL_law_1038 : decode cL_law 1038 = .ok (.ifCond .eq 5, 3) := by decide +kernel
theorem dL_law_1041 : decode cL_law 1041 = .ok (.iconst 0, 1) := by decide +kernel
theorem dL_law_1042 : decode cL_law 1042 = .ok (.ireturn, 1) := by decide +kernel
theorem dL_law_1043 : decode cL_law 1043 = .ok (.goto 40, 3) := by decide +kernel
theorem dL_law_1046 : decode cL_law 1046 = .ok (.aload_n 1, 1) := by decide +kernel
theorem dL_law_1047 : decode cL_law 1047 = .ok (.aload_n 0, 1) := by decide +kernel
theorem dL_law_1048 : decode cL_law 1048 = .ok (.iload 4, 2) := by decide +kernel
theorem dL_law_1050 : decode cL_law 1050 = .ok (.iconst 1, 1) := by decide +kernel
theorem dL_law_1051 : decode cL_law 1051 = .ok (.iadd, 1) := by decide +kernel
theorem dL_law_1052 : decode cL_law 1052 = .ok (.iaload, 1) := by decide +kernel
theorem dL_law_1053 : decode cL_law 1053 = .ok (.aload_n 0, 1) := by decide +kernel
theorem dL_law_1054 : decode cL_law 1054 = .ok (.iload 4, 2) := by decide +kernel
theorem dL_law_1056 : decode cL_law 1056 = .ok (.iconst 2, 1) := by decide +kernel
theorem dL_law_1057 : decode cL_law 1057 = .ok (.iadd, 1) := by decide +kernel
theorem dL_law_1058 : decode cL_law 1058 = .ok (.iaload, 1) := by decide +kernel
theorem dL_law_1059 : decode cL_law 1059 = .ok (.invokevirtual 110, 3) := by decide +kernel
theorem dL_law_1062 : decode cL_law 1062 = .ok (.aload_n 2, 1) := by decide +kernel
theorem dL_law_1063 : decode cL_law 1063 = .ok (.aload_n 0, 1) := by decide +kernel
theorem dL_law_1064 : decode cL_law 1064 = .ok (.iload 4, 2) := by decide +kernel
theorem dL_law_1066 : decode cL_law 1066 = .ok (.iconst 1, 1) := by decide +kernel
theorem dL_law_1067 : decode cL_law 1067 = .ok (.iadd, 1) := by decide +kernel
theorem dL_law_1068 : decode cL_law 1068 = .ok (.iaload, 1) := by decide +kernel
theorem dL_law_1069 : decode cL_law 1069 = .ok (.aload_n 0, 1) := by decide +kernel
theorem dL_law_1070 : decode cL_law 1070 = .ok (.iload 4, 2) := by decide +kernel
theorem dL_law_1072 : decode cL_law 1072 = .ok (.iconst 2, 1) := by decide +kernel
theorem dL_law_1073 : decode cL_law 1073 = .ok (.iadd, 1) := by decide +kernel
theorem dL_law_1074 : decode cL_law 1074 = .ok (.iaload, 1) := by decide +kernel
theorem dL_law_1075 : decode cL_law 1075 = .ok (.invokevirtual 113, 3) := by decide +kernel
theorem dL_law_1078 : decode cL_law 1078 = .ok (.if_icmp .eq 5, 3) := by decide +kernel
theorem dL_law_1081 : decode cL_law 1081 = .ok (.iconst 0, 1) := by decide +kernel
theorem dL_law_1082 : decode cL_law 1082 = .ok (.ireturn, 1) := by decide +kernel
theorem dL_law_1083 : decode cL_law 1083 = .ok (.iinc 4 5, 3) := by decide +kernel
theorem dL_law_1086 : decode cL_law 1086 = .ok (.goto (-1063), 3) := by decide +kernel
theorem dL_law_1089 : decode cL_law 1089 = .ok (.iconst 1, 1) := by decide +kernel
theorem dL_law_1090 : decode cL_law 1090 = .ok (.ireturn, 1) := by decide +kernel
abbrev vwCl : List vw_C := [(RX0, TX0, 4), (RX1, TX1, 0), (RX2, TX2, 11), (RX3, TX3, 1), (RX4, TX4, 18)]
end
section
/-! ===== our own base: the context, what stays as it was (enum constants, statics, texts), contracts of one form, their entry, end and call ===== -/
section SB
/-- the context: classes and slots; array classes (0 int, 1 long, 2 boolean, 3 Pedals, 4 Wire); the sorts' addresses; the texts' addresses; the array of the sorts -/
abbrev GT : Type := va_G × (Nat → ClassId) × (Nat → Nat) × (Nat → Nat) × Nat
abbrev gT (G : GT) : List (ClassId × FieldType) := [(G.2.1 0, .int), (G.2.1 1, .long), (G.2.1 2, .boolean), (G.2.1 3, .object RX0), (G.2.1 4, .object RX2)]
def so_bits : Nat → Int32 := fun i => match i with | 0 => 32 | 1 => 64 | 2 => 32 | _ => 64
def so_frac : Nat → Int32 := fun i => match i with | 0 => 0 | 1 => 0 | 2 => 23 | _ => 52
def so_bias : Nat → Int32 := fun i => match i with | 0 => 0 | 1 => 0 | 2 => 127 | _ => 1023
def so_mask : Nat → Int64 := fun i => match i with | 0 => 2147483647 | 1 => 9223372036854775807 | 2 => 2147483647 | _ => 9223372036854775807
def sb_txs : List (Nat × String) := [(46, "no such kind on this wire"), (63, "the wire has all its pedals"), (94, "rounds must be 1 to 50"), (100, "which must be 0 to 3"), (112, "there are no peaks"), (120, "there is no trace"), (163, "no such wire"), (168, "no such pedal"), (170, "no such preset"), (183, "not a number")]
/-- what lies outside A and stays: the four sorts with their numbers, their array, two statics of the JDK, the texts -/
def Ev (G : GT) (A : Nat → Prop) (U : State) (H : Heap) : Prop :=
  (∀ i : Nat, i < 4 → va_O RX1 (G.2.2.1 i) A U H) ∧ va_Ef 4 RX1 "bits" "I" (fun i => .int (so_bits i)) G.2.2.1 A U H ∧ va_Ef 4 RX1 "fraction" "I" (fun i => .int (so_frac i)) G.2.2.1 A U H ∧ va_Ef 4 RX1 "bias" "I" (fun i => .int (so_bias i)) G.2.2.1 A U H ∧ va_Ef 4 RX1 "sizeMask" "J" (fun i => .long (so_mask i)) G.2.2.1 A U H ∧
  va_Z RX3 "SORTS" "[LPedalBoard$Sort;" (.ref G.2.2.2.2) A U H ∧ va_T (.object RX1) G.2.2.2.2 4 (fun i => .ref (G.2.2.1 i)) A U H ∧
  vx_Zq Bundle.tN "UNASSIGNED_STACK" Bundle.steD A U H ∧ vx_Zq Bundle.tN "SUPPRESSED_SENTINEL" Bundle.listD A U H ∧ ∀ q ∈ sb_txs, vk_R RX3 q.1 q.2 (G.2.2.2.1 q.1) U
theorem Ev.warm {G : GT} {A : Nat → Prop} {s U : State} {H : Heap} (hW : s.WarmedH U.vm) (h : Ev G A s H) : Ev G A U H := by
  obtain ⟨h1, h2, h3, h4, h5, h6, h7, h8, h9, h10⟩ := h
  exact ⟨fun i hi => va_O.moved hW.alike (h1 i hi), va_Ef.moved hW.alike h2, va_Ef.moved hW.alike h3, va_Ef.moved hW.alike h4, va_Ef.moved hW.alike h5, va_Z.moved hW.alike h6, va_T.moved hW.alike h7, vx_Zq.moved hW.alike h8, vx_Zq.moved hW.alike h9, fun q hq => vk_R.warm hW (h10 q hq)⟩
theorem Ev.same {G : GT} {A : Nat → Prop} {s U : State} {H : Heap} (hv : U.vm = s.vm) (h : Ev G A s H) : Ev G A U H := by
  have ha : s.vm.Alike U.vm := by rw [hv]; exact Vm.Alike.refl _
  obtain ⟨h1, h2, h3, h4, h5, h6, h7, h8, h9, h10⟩ := h
  exact ⟨fun i hi => va_O.moved ha (h1 i hi), va_Ef.moved ha h2, va_Ef.moved ha h3, va_Ef.moved ha h4, va_Ef.moved ha h5, va_Z.moved ha h6, va_T.moved ha h7, vx_Zq.moved ha h8, vx_Zq.moved ha h9, fun q hq => vk_R.same hv (h10 q hq)⟩
theorem Ev.kept {G : GT} {A : Nat → Prop} {U : State} {H H1 : Heap} (h : Ev G A U H) (hq : ∀ a : Nat, a < H.size → ¬ A a → H1[a]? = H[a]?) : Ev G A U H1 := by
  obtain ⟨h1, h2, h3, h4, h5, h6, h7, h8, h9, h10⟩ := h
  exact ⟨fun i hi => (h1 i hi).kept hq, h2.kept hq, h3.kept hq, h4.kept hq, h5.kept hq, h6.kept hq, h7.kept hq, h8.kept hq, h9.kept hq, h10⟩
theorem Ev.narrow {G : GT} {A B : Nat → Prop} {U : State} {H : Heap} (h : Ev G A U H) (hAB : ∀ q, B q → A q) : Ev G B U H := by
  obtain ⟨h1, h2, h3, h4, h5, h6, h7, h8, h9, h10⟩ := h
  exact ⟨fun i hi => (h1 i hi).narrow hAB, h2.narrow hAB, h3.narrow hAB, h4.narrow hAB, h5.narrow hAB, h6.narrow hAB, h7.narrow hAB, h8.narrow hAB, h9.narrow hAB, h10⟩
/-- a method's start: the cells w0, apart; the tables; what stays -/
def Pre0 (G : GT) (w0 : va_W) (sz : Nat) (U : State) : Prop := U.heap.size = sz ∧ va_P G.1 vwCl w0 U.heap ∧ va_K G.1 vwCl (gT G) U ∧ va_D (fun _ => True) w0 ∧ Ev G (va_A w0 sz) U U.heap
theorem Pre0.blind (G : GT) (w0 : va_W) (sz : Nat) (As : List Value) : FrameBlind (va_Pc As (Pre0 G w0 sz)) := by
  intro a U g mk h
  obtain ⟨h0, h1, h2, h3, h4, h5⟩ := h
  exact ⟨h0, h1, h2, va_K.moved (u := U) (U := U.calling g mk a) (Vm.Alike.refl U.vm) h3, h4, Ev.same (s := U) (U := U.calling g mk a) rfl h5⟩
/-- ends: a long, an int, nothing, a cell; the world w1 -/
abbrev Ql0 (G : GT) (w0 : va_W) (sz : Nat) (r : Int64) (w1 : va_W) := va_Ql (fun (r' : Int64) (_ : Unit) => r' = r) (fun (_ : Unit) (t : State) => va_P G.1 vwCl w1 t.heap ∧ va_D (va_A w0 sz) w1) (va_A w0 sz)
abbrev Qi0 (G : GT) (w0 : va_W) (sz : Nat) (r : Int32) (w1 : va_W) := va_Qi (fun (r' : Int32) (_ : Unit) => r' = r) (fun (_ : Unit) (t : State) => va_P G.1 vwCl w1 t.heap ∧ va_D (va_A w0 sz) w1) (va_A w0 sz)
abbrev Qv0 (G : GT) (w0 : va_W) (sz : Nat) (w1 : va_W) := va_Qv (fun (_ : Unit) => True) (fun (_ : Unit) (t : State) => va_P G.1 vwCl w1 t.heap ∧ va_D (va_A w0 sz) w1) (va_A w0 sz)
abbrev Qr0 (G : GT) (w0 : va_W) (sz : Nat) (r : Nat) (w1 : va_W) := va_Qr (fun (_ : Unit) => True) (fun (_ : Unit) (a : Nat) (t : State) => a = r ∧ va_P G.1 vwCl w1 t.heap ∧ va_D (va_A w0 sz) w1) (va_A w0 sz)
/-- CONTRACTS: from w0 the method returns r, the world is w1 then -/
def CL (l : Launch) (y : MethodName) (wsY : List Cond) (rm : Room) (G : GT) (As : List Value) (w0 : va_W) (r : Int64) (w1 : va_W) : Prop := ∀ sz, Met l y wsY rm (va_Pc As (Pre0 G w0 sz)) (Ql0 G w0 sz r w1) 0 0 (va_A w0 sz)
def CI (l : Launch) (y : MethodName) (wsY : List Cond) (rm : Room) (G : GT) (As : List Value) (w0 : va_W) (r : Int32) (w1 : va_W) : Prop := ∀ sz, Met l y wsY rm (va_Pc As (Pre0 G w0 sz)) (Qi0 G w0 sz r w1) 0 0 (va_A w0 sz)
def CV (l : Launch) (y : MethodName) (wsY : List Cond) (rm : Room) (G : GT) (As : List Value) (w0 : va_W) (w1 : va_W) : Prop := ∀ sz, Met l y wsY rm (va_Pc As (Pre0 G w0 sz)) (Qv0 G w0 sz w1) 0 0 (va_A w0 sz)
def CR (l : Launch) (y : MethodName) (wsY : List Cond) (rm : Room) (G : GT) (As : List Value) (w0 : va_W) (r : Nat) (w1 : va_W) : Prop := ∀ sz, Met l y wsY rm (va_Pc As (Pre0 G w0 sz)) (Qr0 G w0 sz r w1) 0 0 (va_A w0 sz)
/-- .. it throws an E, and nothing that was there has changed -/
def CX (l : Launch) (y : MethodName) (wsY : List Cond) (rm : Room) (G : GT) (As : List Value) (w0 : va_W) (E : String) : Prop := ∀ sz, vx_Met l y wsY rm (va_Pc As (Pre0 G w0 sz)) (fun _ _ _ _ => False) (vx_X (fun (_ : Unit) => True) (fun (E' : String) (_ : Unit) (_ : State) => E' = E) (fun q => sz ≤ q)) 1 6 (fun q => sz ≤ q)
/-- what a body owes at its end -/
def QL (G : GT) (below : List Frame) (args : Array Value) (s : State) (A : Nat → Prop) (r : Int64) (w1 : va_W) : State → Prop := MQ below (va_Ql (fun (r' : Int64) (_ : Unit) => r' = r) (fun (_ : Unit) (t : State) => va_P G.1 vwCl w1 t.heap ∧ va_D A w1) A) args s 0 0 A
def QI (G : GT) (below : List Frame) (args : Array Value) (s : State) (A : Nat → Prop) (r : Int32) (w1 : va_W) : State → Prop := MQ below (va_Qi (fun (r' : Int32) (_ : Unit) => r' = r) (fun (_ : Unit) (t : State) => va_P G.1 vwCl w1 t.heap ∧ va_D A w1) A) args s 0 0 A
def QV (G : GT) (below : List Frame) (args : Array Value) (s : State) (A : Nat → Prop) (w1 : va_W) : State → Prop := MQ below (va_Qv (fun (_ : Unit) => True) (fun (_ : Unit) (t : State) => va_P G.1 vwCl w1 t.heap ∧ va_D A w1) A) args s 0 0 A
def QR (G : GT) (below : List Frame) (args : Array Value) (s : State) (A : Nat → Prop) (r : Nat) (w1 : va_W) : State → Prop := MQ below (va_Qr (fun (_ : Unit) => True) (fun (_ : Unit) (a : Nat) (t : State) => a = r ∧ va_P G.1 vwCl w1 t.heap ∧ va_D A w1) A) args s 0 0 A
def QX (below : List Frame) (args : Array Value) (s : State) (E : String) : State → Prop := vx_MQ below (fun _ _ _ _ => False) (vx_X (fun (_ : Unit) => True) (fun (E' : String) (_ : Unit) (_ : State) => E' = E) (fun q => s.heap.size ≤ q)) args s 1 6 (fun q => s.heap.size ≤ q)
/-- what a body has at its start -/
abbrev Body0 (l : Launch) (G : GT) (own : String) (cc : ByteArray) (maxL : Nat) (ret : Option FieldType) (wsY : List Cond) (rm : Room) (As : List Value) (w0 : va_W) (Qx : (below : List Frame) → (s : State) → (A : Nat → Prop) → State → Prop) : Prop :=
  ∀ (p : Program) (e : Env) (s : State) (m : MethodId) (below : List Frame) (meth : Method) (c : Code) (A : Nat → Prop) (ls : Array Slot), p.tables.exec = Jvm.exec → c.code = cc → meth.sig.returnType = ret → (∀ w ∈ wsY, w.before As.toArray s = true) → s.vm.findClass own = some m.cls → c.maxLocals = maxL → meth.locks = false → (∀ q : Nat, s.heap.size ≤ q → A q) → va_K G.1 vwCl (gT G) s → Ev G A s s.heap → va_P G.1 vwCl w0 s.heap → va_D A w0 → va_S A s.heap s.heap [] → lv_has ls maxL (lv_args 0 As) →
    W p l e rm s m As.toArray below meth c s.heap [] 0 0 (Qx below s A) (F0 m 0 ls [])
section
variable {l : Launch} {G : GT} {y : MethodName} {wsY ws' : List Cond} {rm : Room} {As : List Value} {w0 w1 : va_W} {cc : ByteArray} {maxL : Nat} {ret : Option FieldType} {own : String}
theorem en_l {r : Int64} (hy : plainName y.cls = true) (hw : wsY = Cond.code y cc maxL ret :: ws') (ho : y.cls = own) (hn : (lg_sl As).length ≤ maxL)
    (body : Body0 l G own cc maxL ret wsY rm As w0 (fun below s A => QL G below As.toArray s A r w1)) : CL l y wsY rm G As w0 r w1 := by
  intro sz
  refine Met.ofW (cc := cc) (maxL := maxL) (ret := ret) hy hw ?_
  intro p e s m args below meth c s₁ B hml hv
  obtain ⟨rfl, rfl, hP, hK, hD0, hE⟩ := hv
  have hl := lv_entry As (n := maxL) hn
  rw [lg_entry_eq]
  exact body p e s m below meth c (va_A w0 s.heap.size) _ B.exec B.bytes B.returns (atoms_spec (ws := wsY) B.pre) (by rw [← ho]; exact findClass_of_methodNamed B.named) hml B.notSynchronized (fun q h => Or.inr h) hK hE hP (hD0.self (sz := s.heap.size)) va_S.rf hl
theorem en_i {r : Int32} (hy : plainName y.cls = true) (hw : wsY = Cond.code y cc maxL ret :: ws') (ho : y.cls = own) (hn : (lg_sl As).length ≤ maxL)
    (body : Body0 l G own cc maxL ret wsY rm As w0 (fun below s A => QI G below As.toArray s A r w1)) : CI l y wsY rm G As w0 r w1 := by
  intro sz
  refine Met.ofW (cc := cc) (maxL := maxL) (ret := ret) hy hw ?_
  intro p e s m args below meth c s₁ B hml hv
  obtain ⟨rfl, rfl, hP, hK, hD0, hE⟩ := hv
  have hl := lv_entry As (n := maxL) hn
  rw [lg_entry_eq]
  exact body p e s m below meth c (va_A w0 s.heap.size) _ B.exec B.bytes B.returns (atoms_spec (ws := wsY) B.pre) (by rw [← ho]; exact findClass_of_methodNamed B.named) hml B.notSynchronized (fun q h => Or.inr h) hK hE hP (hD0.self (sz := s.heap.size)) va_S.rf hl
theorem en_v (hy : plainName y.cls = true) (hw : wsY = Cond.code y cc maxL ret :: ws') (ho : y.cls = own) (hn : (lg_sl As).length ≤ maxL)
    (body : Body0 l G own cc maxL ret wsY rm As w0 (fun below s A => QV G below As.toArray s A w1)) : CV l y wsY rm G As w0 w1 := by
  intro sz
  refine Met.ofW (cc := cc) (maxL := maxL) (ret := ret) hy hw ?_
  intro p e s m args below meth c s₁ B hml hv
  obtain ⟨rfl, rfl, hP, hK, hD0, hE⟩ := hv
  have hl := lv_entry As (n := maxL) hn
  rw [lg_entry_eq]
  exact body p e s m below meth c (va_A w0 s.heap.size) _ B.exec B.bytes B.returns (atoms_spec (ws := wsY) B.pre) (by rw [← ho]; exact findClass_of_methodNamed B.named) hml B.notSynchronized (fun q h => Or.inr h) hK hE hP (hD0.self (sz := s.heap.size)) va_S.rf hl
theorem en_r {r : Nat} (hy : plainName y.cls = true) (hw : wsY = Cond.code y cc maxL ret :: ws') (ho : y.cls = own) (hn : (lg_sl As).length ≤ maxL)
    (body : Body0 l G own cc maxL ret wsY rm As w0 (fun below s A => QR G below As.toArray s A r w1)) : CR l y wsY rm G As w0 r w1 := by
  intro sz
  refine Met.ofW (cc := cc) (maxL := maxL) (ret := ret) hy hw ?_
  intro p e s m args below meth c s₁ B hml hv
  obtain ⟨rfl, rfl, hP, hK, hD0, hE⟩ := hv
  have hl := lv_entry As (n := maxL) hn
  rw [lg_entry_eq]
  exact body p e s m below meth c (va_A w0 s.heap.size) _ B.exec B.bytes B.returns (atoms_spec (ws := wsY) B.pre) (by rw [← ho]; exact findClass_of_methodNamed B.named) hml B.notSynchronized (fun q h => Or.inr h) hK hE hP (hD0.self (sz := s.heap.size)) va_S.rf hl
/-- a body that throws: no table of its own -/
theorem en_x {E : String} (hy : plainName y.cls = true) (hw : wsY = Cond.code y cc maxL ret :: ws') (ho : y.cls = own) (hn : (lg_sl As).length ≤ maxL)
    (body : ∀ (p : Program) (e : Env) (s : State) (m : MethodId) (below : List Frame) (meth : Method) (c : Code) (A : Nat → Prop) (ls : Array Slot), (∀ x ∈ c.exceptionTable.toList, False) → p.tables.exec = Jvm.exec → c.code = cc → meth.sig.returnType = ret → (∀ w ∈ wsY, w.before As.toArray s = true) → s.vm.findClass own = some m.cls → c.maxLocals = maxL → meth.locks = false → (∀ q : Nat, s.heap.size ≤ q → A q) → va_K G.1 vwCl (gT G) s → Ev G A s s.heap → va_P G.1 vwCl w0 s.heap → va_D A w0 → va_S A s.heap s.heap [] → lv_has ls maxL (lv_args 0 As) →
      W p l e rm s m As.toArray below meth c s.heap [] 0 0 (QX below As.toArray s E) (F0 m 0 ls [])) : CX l y wsY rm G As w0 E := by
  intro sz
  refine vx_ofW (cc := cc) (maxL := maxL) (ret := ret) hy hw ?_
  intro p e s m args below meth c s₁ B hml ht hv
  obtain ⟨rfl, rfl, hP, hK, hD0, hE⟩ := hv
  have hl := lv_entry As (n := maxL) hn
  rw [lg_entry_eq]
  exact body p e s m below meth c (va_A w0 s.heap.size) _ ht B.exec B.bytes B.returns (atoms_spec (ws := wsY) B.pre) (by rw [← ho]; exact findClass_of_methodNamed B.named) hml B.notSynchronized (fun q h => Or.inr h) hK hE hP (hD0.self (sz := s.heap.size)) va_S.rf hl
end
section
variable {p : Program} {l : Launch} {e : Env} {R : Room} {s : State} {m : MethodId} {args : Array Value} {below : List Frame} {meth : Method} {c : Code} {H : Heap} {locs : List Loc} {G : GT} {A : Nat → Prop} {w1 : va_W} {cc : ByteArray} {pc : Nat} {ls : Array Slot}
theorem rt_l {v r : Int64} (hx : p.tables.exec = Jvm.exec) (hb : c.code = cc) (hr : meth.sig.returnType = some .long) (hlocks : meth.locks = false) (hP : va_P G.1 vwCl w1 H) (hD : va_D A w1) (hS : va_S A s.heap H locs) (hdg : decode cc pc = .ok (.lreturn, 1)) (hv : v = r) :
    W p l e R s m args below meth c H locs 0 0 (QL G below args s A r w1) (F0 m pc ls [.long v]) :=
  W.lret hx hb hr (fun t ht hW => ⟨⟨v, (), rfl, hv, by rw [ht]; exact hP, hD⟩, hS.F ht⟩) hS.2.2 hdg
theorem rt_i {v r : Int32} (hx : p.tables.exec = Jvm.exec) (hb : c.code = cc) (hr : meth.sig.returnType = some .int) (hlocks : meth.locks = false) (hP : va_P G.1 vwCl w1 H) (hD : va_D A w1) (hS : va_S A s.heap H locs) (hdg : decode cc pc = .ok (.ireturn, 1)) (hv : v = r) :
    W p l e R s m args below meth c H locs 0 0 (QI G below args s A r w1) (F0 m pc ls [.int v]) :=
  W.iret hx hb hr (fun t ht hW => ⟨⟨v, (), rfl, hv, by rw [ht]; exact hP, hD⟩, hS.F ht⟩) hS.2.2 hdg
theorem rt_z {v r : Int32} (hx : p.tables.exec = Jvm.exec) (hb : c.code = cc) (hr : meth.sig.returnType = some .boolean) (hlocks : meth.locks = false) (hP : va_P G.1 vwCl w1 H) (hD : va_D A w1) (hS : va_S A s.heap H locs) (hdg : decode cc pc = .ok (.ireturn, 1)) (hv : v = r) (hn : narrow .boolean (.int v) = .int v) :
    W p l e R s m args below meth c H locs 0 0 (QI G below args s A r w1) (F0 m pc ls [.int v]) :=
  W.zret hx hb hr hn (fun t ht hW => ⟨⟨v, (), rfl, hv, by rw [ht]; exact hP, hD⟩, hS.F ht⟩) hS.2.2 hdg
theorem rt_v (hx : p.tables.exec = Jvm.exec) (hb : c.code = cc) (hr : meth.sig.returnType = none) (hlocks : meth.locks = false) (hP : va_P G.1 vwCl w1 H) (hD : va_D A w1) (hS : va_S A s.heap H locs) (hdg : decode cc pc = .ok (.return_, 1)) :
    W p l e R s m args below meth c H locs 0 0 (QV G below args s A w1) (F0 m pc ls []) :=
  W.vret hx hb hr (fun t ht hW => ⟨⟨(), rfl, trivial, by rw [ht]; exact hP, hD⟩, hS.F ht⟩) hS.2.2 hdg
theorem rt_r {v r : Nat} {C : String} (hx : p.tables.exec = Jvm.exec) (hb : c.code = cc) (hr : meth.sig.returnType = some (.object C)) (hlocks : meth.locks = false) (hP : va_P G.1 vwCl w1 H) (hD : va_D A w1) (hS : va_S A s.heap H locs) (hdg : decode cc pc = .ok (.areturn, 1)) (hv : v = r) :
    W p l e R s m args below meth c H locs 0 0 (QR G below args s A r w1) (F0 m pc ls [.ref v]) :=
  W.aret hx hb hr (Or.inl ⟨_, rfl⟩) (Or.inr ⟨_, rfl⟩) (fun t ht hW => ⟨⟨(), v, rfl, trivial, hv, by rw [ht]; exact hP, hD⟩, hS.F ht⟩) hS.2.2 hdg
end
/-- the cells of w1 at the places isC of ws -/
def sb_puts : va_W → List Nat → va_W → va_W
  | ws, [], _ => ws
  | ws, _ :: _, [] => ws
  | ws, i :: is, x :: xs => sb_puts (ws.set i x) is xs
theorem sb_puts_nil (ws w : va_W) : sb_puts ws [] w = ws := by cases w <;> rfl
theorem sb_puts_fst : ∀ (isC : List Nat) (w0 w1 ws : va_W), isC.map (fun i => (ws[i]?).map (·.1)) = w1.map (fun q => some q.1) → (sb_puts ws isC w1).map (·.1) = ws.map (·.1)
  | [], _, _, _, _ => by rw [sb_puts_nil]
  | _ :: _, _, [], _, _ => rfl
  | i :: is, w0, x :: xs, ws, h => by
    simp only [List.map_cons, List.cons.injEq] at h
    obtain ⟨h1, h2⟩ := h
    have hset : (ws.set i x).map (·.1) = ws.map (·.1) := by
      apply List.ext_getElem?
      intro k
      simp only [List.getElem?_map, List.getElem?_set]
      split
      · rename_i hik
        subst hik
        split
        · exact h1.symm
        · rename_i hlt
          rw [List.getElem?_eq_none (by omega)] at h1
          cases h1
      · rfl
    have e : ∀ j : Nat, ((ws.set i x)[j]?).map (·.1) = (ws[j]?).map (·.1) := fun j => by
      rw [← List.getElem?_map, ← List.getElem?_map, hset]
    show (sb_puts (ws.set i x) is xs).map (·.1) = ws.map (·.1)
    rw [sb_puts_fst is w0 xs (ws.set i x) (by simp only [e]; exact h2), hset]
theorem sb_puts_get : ∀ (isC : List Nat) (w1 ws : va_W) (k : Nat) (q : Nat × va_E), (sb_puts ws isC w1)[k]? = some q → q ∈ w1 ∨ (ws[k]? = some q ∧ k ∉ isC.take w1.length)
  | [], _, ws, k, q, h => by
    rw [sb_puts_nil] at h
    exact Or.inr ⟨h, by simp⟩
  | i :: is, [], ws, k, q, h => by
    have h : ws[k]? = some q := h
    exact Or.inr ⟨h, by simp⟩
  | i :: is, x :: xs, ws, k, q, h => by
    rcases sb_puts_get is xs (ws.set i x) k q h with h1 | ⟨h1, h2⟩
    · exact Or.inl (List.mem_cons_of_mem _ h1)
    · rw [List.getElem?_set] at h1
      split at h1
      · split at h1
        · cases h1
          exact Or.inl List.mem_cons_self
        · cases h1
      · rename_i hne
        refine Or.inr ⟨h1, ?_⟩
        simp only [List.length_cons, List.take_succ_cons, List.mem_cons, not_or]
        exact ⟨fun h => hne h.symm, h2⟩
/-- a world's addresses decide that it is apart -/
theorem sb_D {A : Nat → Prop} {ws ws' : va_W} (hD : va_D A ws) (h : ws'.map (·.1) = ws.map (·.1)) : va_D A ws' := by
  have e : ∀ (k : Nat) (q : Nat × va_E), ws'[k]? = some q → ∃ q', ws[k]? = some q' ∧ q'.1 = q.1 := fun k q hq => by
    have h1 : (ws'.map (·.1))[k]? = some q.1 := by rw [List.getElem?_map, hq]; rfl
    rw [h, List.getElem?_map] at h1
    cases h2 : ws[k]? with
    | none => rw [h2] at h1; cases h1
    | some q' => rw [h2] at h1; exact ⟨q', rfl, Option.some.inj h1⟩
  constructor
  · intro i j p q hp hq hpq
    obtain ⟨p', hp', e1⟩ := e i p hp
    obtain ⟨q', hq', e2⟩ := e j q hq
    exact hD.1 i j p' q' hp' hq' (by rw [e1, e2]; exact hpq)
  · intro k q hq
    obtain ⟨q', hq', e1⟩ := e k q hq
    rw [← e1]
    exact hD.2 k q' hq'
/-- THE FRAME: the callee had the cells w0 at the places isC, and gave w1 for them -/
theorem sb_join {A : Nat → Prop} {D : va_G} {cl : List vw_C} {ws ws' w0 w1 : va_W} {H H1 : Heap} (hP : va_P D cl ws H) (hD : va_D A ws) (isC : List Nat) (hC : isC.map (fun i => ws[i]?) = w0.map some) (hadr : w1.map (·.1) = w0.map (·.1)) (hput : sb_puts ws isC w1 = ws')
    (hk : ∀ q : Nat, q < H.size → ¬ va_A w0 H.size q → H1[q]? = H[q]?) (hP1 : va_P D cl w1 H1) : va_P D cl ws' H1 ∧ va_D A ws' := by
  have hlen : w1.length = w0.length := by have := congrArg List.length hadr; simpa using this
  have hlenC : isC.length = w0.length := by have := congrArg List.length hC; simpa using this
  have hfst : isC.map (fun i => (ws[i]?).map (·.1)) = w1.map (fun q => some q.1) := by
    have h1 : (isC.map (fun i => ws[i]?)).map (Option.map (·.1)) = (w0.map some).map (Option.map (·.1)) := by rw [hC]
    simp only [List.map_map] at h1
    have h2 : w1.map (fun q => some q.1) = (w1.map (·.1)).map some := by simp [List.map_map]
    have h3 : (w0.map (·.1)).map some = w0.map (fun q => some q.1) := by simp [List.map_map]
    rw [h2, hadr, h3]
    exact h1
  have hD' : va_D A ws' := by rw [← hput]; exact sb_D hD (sb_puts_fst isC w0 w1 ws hfst)
  refine ⟨fun k q hq => ?_, hD'⟩
  rw [← hput] at hq
  rcases sb_puts_get isC w1 ws k q hq with h | ⟨h, hn⟩
  · obtain ⟨j, hj⟩ := List.getElem?_of_mem h
    exact hP1 j q hj
  · refine (hP k q h).kept (hk q.1 (hP k q h).lt ?_)
    rintro (⟨j, e, hj⟩ | hge)
    · have hjl : j < w0.length := by
        rcases Nat.lt_or_ge j w0.length with h9 | h9
        · exact h9
        · rw [List.getElem?_eq_none h9] at hj; cases hj
      have h1 : (isC.map (fun i => ws[i]?))[j]? = some (some (q.1, e)) := by rw [hC, List.getElem?_map, hj]; rfl
      rw [List.getElem?_map] at h1
      cases h2 : isC[j]? with
      | none => rw [h2] at h1; cases h1
      | some i =>
        rw [h2] at h1
        have h3 : ws[i]? = some (q.1, e) := Option.some.inj h1
        have h4 := hD.1 k i q (q.1, e) h h3 rfl
        subst h4
        apply hn
        rw [hlen, ← hlenC, List.take_length]
        exact List.mem_of_getElem? h2
    · exact absurd (hP k q h).lt (Nat.not_lt.mpr hge)
section
variable {p : Program} {l : Launch} {e : Env} {R : Room} {s : State} {m : MethodId} {args : Array Value} {below : List Frame} {meth : Method} {c : Code} {H : Heap} {locs : List Loc} {cells slots : Nat} {Q : State → Prop} {G : GT} {A : Nat → Prop} {cc : ByteArray} {pc nL n index maxL : Nat} {ls : Array Slot} {st0 rest As : List Value} {ws ws' w0 w1 : va_W} {y : MethodName} {wsY Ts : List Cond} {rm : Room} {bytes : ByteArray} {ret : Option FieldType} {own C : String} {b : Nat}
/-- the callee's start out of the caller's world -/
theorem sb_pre (hE : Ev G A s s.heap) (hK : va_K G.1 vwCl (gT G) s) (hP : va_P G.1 vwCl ws H) (hD : va_D A ws) (hS : va_S A s.heap H locs) (hA : ∀ q : Nat, s.heap.size ≤ q → A q) (isC : List Nat) (hnd : va_nd isC = true) (hC : isC.map (fun i => ws[i]?) = w0.map some) :
    (∀ U : State, U.heap = H → s.WarmedH U.vm → Pre0 G w0 H.size U) ∧ ∀ q, va_A w0 H.size q → A q := by
  have hF := va_free (wc := w0) hD hS hA isC hC
  have hP0 : va_P G.1 vwCl w0 H := hP.sub isC (by
    have : (isC.map (fun i => ws[i]?)).filterMap id = (w0.map some).filterMap id := by rw [hC]
    simpa [List.filterMap_map, Function.comp_def] using this)
  have hD0 : va_D A w0 := hD.sub isC hnd hC
  exact ⟨fun U hU hW => ⟨by rw [hU], by rw [hU]; exact hP0, va_K.moved hW.alike hK, hD0.weaken (fun _ _ _ _ => trivial), by rw [hU]; exact Ev.warm hW ((hE.kept hS.2.1).narrow hF)⟩, hF⟩
abbrev CKl (p : Program) (l : Launch) (e : Env) (R : Room) (s : State) (m : MethodId) (args : Array Value) (below : List Frame) (meth : Method) (c : Code) (cells slots : Nat) (Q : State → Prop) (G : GT) (A : Nat → Prop) (ws' : va_W) (g : JFrame) : Prop := ∀ (H : Heap) (locs : List Loc), va_P G.1 vwCl ws' H → va_D A ws' → va_S A s.heap H locs → W p l e R s m args below meth c H locs cells slots Q g
theorem cs_l {r : Int64} (S : CallFix p m c cc nL s args Ts own) (hM : CL l y wsY rm G As w0 r w1) (cw : CallB R s args own index y bytes maxL ret wsY rm 0 0 n ∧ (Cond.static y).before args s = true) (hE : Ev G A s s.heap) (hK : va_K G.1 vwCl (gT G) s) (hP : va_P G.1 vwCl ws H) (hD : va_D A ws) (hS : va_S A s.heap H locs) (hA : ∀ q : Nat, s.heap.size ≤ q → A q) (hl : ls.size = nL)
    (isC : List Nat) (hnd : va_nd isC = true) (hC : isC.map (fun i => ws[i]?) = w0.map some) (hadr : w1.map (·.1) = w0.map (·.1)) (hput : sb_puts ws isC w1 = ws') (hn : As.length = n) (hstack : st0 = As.reverse ++ rest) (hW : (rest.map fun v => v.category).sum ≤ 8) (hdg : decode cc pc = .ok (.invokestatic index, 3)) (hf : cells ≤ R.cells ∧ slots ≤ R.slots)
    (kk : CKl p l e R s m args below meth c cells slots Q G A ws' (F0 m (pc + 3) ls (.long r :: rest))) : W p l e R s m args below meth c H locs cells slots Q (F0 m pc ls st0) := by
  obtain ⟨hp, hF⟩ := sb_pre (w0 := w0) hE hK hP hD hS hA isC hnd hC
  refine va_calll (va_runS (As := As) (rest := rest) S (hM H.size) cw ⟨Pre0.blind G w0 H.size As, fun U hU hW => ⟨rfl, hp U hU hW⟩⟩ rfl hn hl hstack (lv_room hW) hdg ⟨hf.1, hf.2⟩) hS (fun q _ h => hF q h) hF (fun r' u t H1 locs1 ht hvm hw hB hz hk hS1 => ?_)
  obtain ⟨hP2, hD2⟩ := sb_join hP hD isC hC hadr hput hk (by rw [← ht]; exact hB.1)
  rw [hw]
  exact kk H1 locs1 hP2 hD2 hS1
theorem cs_i {r : Int32} (S : CallFix p m c cc nL s args Ts own) (hM : CI l y wsY rm G As w0 r w1) (cw : CallB R s args own index y bytes maxL ret wsY rm 0 0 n ∧ (Cond.static y).before args s = true) (hE : Ev G A s s.heap) (hK : va_K G.1 vwCl (gT G) s) (hP : va_P G.1 vwCl ws H) (hD : va_D A ws) (hS : va_S A s.heap H locs) (hA : ∀ q : Nat, s.heap.size ≤ q → A q) (hl : ls.size = nL)
    (isC : List Nat) (hnd : va_nd isC = true) (hC : isC.map (fun i => ws[i]?) = w0.map some) (hadr : w1.map (·.1) = w0.map (·.1)) (hput : sb_puts ws isC w1 = ws') (hn : As.length = n) (hstack : st0 = As.reverse ++ rest) (hW : (rest.map fun v => v.category).sum ≤ 8) (hdg : decode cc pc = .ok (.invokestatic index, 3)) (hf : cells ≤ R.cells ∧ slots ≤ R.slots)
    (kk : CKl p l e R s m args below meth c cells slots Q G A ws' (F0 m (pc + 3) ls (.int r :: rest))) : W p l e R s m args below meth c H locs cells slots Q (F0 m pc ls st0) := by
  obtain ⟨hp, hF⟩ := sb_pre (w0 := w0) hE hK hP hD hS hA isC hnd hC
  refine va_calli (va_runS (As := As) (rest := rest) S (hM H.size) cw ⟨Pre0.blind G w0 H.size As, fun U hU hW => ⟨rfl, hp U hU hW⟩⟩ rfl hn hl hstack (lv_room hW) hdg ⟨hf.1, hf.2⟩) hS (fun q _ h => hF q h) hF (fun r' u t H1 locs1 ht hvm hw hB hz hk hS1 => ?_)
  obtain ⟨hP2, hD2⟩ := sb_join hP hD isC hC hadr hput hk (by rw [← ht]; exact hB.1)
  rw [hw]
  exact kk H1 locs1 hP2 hD2 hS1
theorem cs_v (S : CallFix p m c cc nL s args Ts own) (hM : CV l y wsY rm G As w0 w1) (cw : CallB R s args own index y bytes maxL ret wsY rm 0 0 n ∧ (Cond.static y).before args s = true) (hE : Ev G A s s.heap) (hK : va_K G.1 vwCl (gT G) s) (hP : va_P G.1 vwCl ws H) (hD : va_D A ws) (hS : va_S A s.heap H locs) (hA : ∀ q : Nat, s.heap.size ≤ q → A q) (hl : ls.size = nL)
    (isC : List Nat) (hnd : va_nd isC = true) (hC : isC.map (fun i => ws[i]?) = w0.map some) (hadr : w1.map (·.1) = w0.map (·.1)) (hput : sb_puts ws isC w1 = ws') (hn : As.length = n) (hstack : st0 = As.reverse ++ rest) (hW : (rest.map fun v => v.category).sum ≤ 8) (hdg : decode cc pc = .ok (.invokestatic index, 3)) (hf : cells ≤ R.cells ∧ slots ≤ R.slots)
    (kk : CKl p l e R s m args below meth c cells slots Q G A ws' (F0 m (pc + 3) ls rest)) : W p l e R s m args below meth c H locs cells slots Q (F0 m pc ls st0) := by
  obtain ⟨hp, hF⟩ := sb_pre (w0 := w0) hE hK hP hD hS hA isC hnd hC
  refine va_callv (va_runS (As := As) (rest := rest) S (hM H.size) cw ⟨Pre0.blind G w0 H.size As, fun U hU hW => ⟨rfl, hp U hU hW⟩⟩ rfl hn hl hstack (lv_room hW) hdg ⟨hf.1, hf.2⟩) hS (fun q _ h => hF q h) hF (fun u t H1 locs1 ht hvm hw hB hz hk hS1 => ?_)
  obtain ⟨hP2, hD2⟩ := sb_join hP hD isC hC hadr hput hk (by rw [← ht]; exact hB.1)
  exact kk H1 locs1 hP2 hD2 hS1
theorem cs_r {r : Nat} (S : CallFix p m c cc nL s args Ts own) (hM : CR l y wsY rm G As w0 r w1) (cw : CallB R s args own index y bytes maxL ret wsY rm 0 0 n ∧ (Cond.static y).before args s = true) (hE : Ev G A s s.heap) (hK : va_K G.1 vwCl (gT G) s) (hP : va_P G.1 vwCl ws H) (hD : va_D A ws) (hS : va_S A s.heap H locs) (hA : ∀ q : Nat, s.heap.size ≤ q → A q) (hl : ls.size = nL)
    (isC : List Nat) (hnd : va_nd isC = true) (hC : isC.map (fun i => ws[i]?) = w0.map some) (hadr : w1.map (·.1) = w0.map (·.1)) (hput : sb_puts ws isC w1 = ws') (hn : As.length = n) (hstack : st0 = As.reverse ++ rest) (hW : (rest.map fun v => v.category).sum ≤ 8) (hdg : decode cc pc = .ok (.invokestatic index, 3)) (hf : cells ≤ R.cells ∧ slots ≤ R.slots)
    (kk : CKl p l e R s m args below meth c cells slots Q G A ws' (F0 m (pc + 3) ls (.ref r :: rest))) : W p l e R s m args below meth c H locs cells slots Q (F0 m pc ls st0) := by
  obtain ⟨hp, hF⟩ := sb_pre (w0 := w0) hE hK hP hD hS hA isC hnd hC
  refine va_callr (va_runS (As := As) (rest := rest) S (hM H.size) cw ⟨Pre0.blind G w0 H.size As, fun U hU hW => ⟨rfl, hp U hU hW⟩⟩ rfl hn hl hstack (lv_room hW) hdg ⟨hf.1, hf.2⟩) hS (fun q _ h => hF q h) hF (fun u ra t H1 locs1 ht hvm hw hB hz hk hS1 => ?_)
  obtain ⟨hP2, hD2⟩ := sb_join hP hD isC hC hadr hput hk (by rw [← ht]; exact hB.2.1)
  rw [hB.1]
  exact kk H1 locs1 hP2 hD2 hS1
theorem cv_l {r : Int64} (S : CallFix p m c cc nL s args Ts own) (hM : CL l y wsY rm G (.ref b :: As) w0 r w1) (cw : CallW R s args own C index y bytes maxL ret wsY rm 0 0 n) (hrec : ∃ cellB : Cell, H[b]? = some cellB ∧ cellB.vm.isStatics = false ∧ s.vm.findClass C = some cellB.cls) (hE : Ev G A s s.heap) (hK : va_K G.1 vwCl (gT G) s) (hP : va_P G.1 vwCl ws H) (hD : va_D A ws) (hS : va_S A s.heap H locs) (hA : ∀ q : Nat, s.heap.size ≤ q → A q) (hl : ls.size = nL)
    (isC : List Nat) (hnd : va_nd isC = true) (hC : isC.map (fun i => ws[i]?) = w0.map some) (hadr : w1.map (·.1) = w0.map (·.1)) (hput : sb_puts ws isC w1 = ws') (hn : As.length = n) (hstack : st0 = As.reverse ++ .ref b :: rest) (hW : (rest.map fun v => v.category).sum ≤ 8) (hdg : decode cc pc = .ok (.invokevirtual index, 3)) (hf : cells ≤ R.cells ∧ slots ≤ R.slots)
    (kk : CKl p l e R s m args below meth c cells slots Q G A ws' (F0 m (pc + 3) ls (.long r :: rest))) : W p l e R s m args below meth c H locs cells slots Q (F0 m pc ls st0) := by
  obtain ⟨hp, hF⟩ := sb_pre (w0 := w0) hE hK hP hD hS hA isC hnd hC
  refine va_calll (va_runV (As := As) (rest := rest) S (hM H.size) cw ⟨Pre0.blind G w0 H.size _, hrec, fun U hU hW => ⟨rfl, hp U hU hW⟩⟩ rfl hn hl hstack (lv_room hW) hdg ⟨hf.1, hf.2⟩) hS (fun q _ h => hF q h) hF (fun r' u t H1 locs1 ht hvm hw hB hz hk hS1 => ?_)
  obtain ⟨hP2, hD2⟩ := sb_join hP hD isC hC hadr hput hk (by rw [← ht]; exact hB.1)
  rw [hw]
  exact kk H1 locs1 hP2 hD2 hS1
theorem cv_i {r : Int32} (S : CallFix p m c cc nL s args Ts own) (hM : CI l y wsY rm G (.ref b :: As) w0 r w1) (cw : CallW R s args own C index y bytes maxL ret wsY rm 0 0 n) (hrec : ∃ cellB : Cell, H[b]? = some cellB ∧ cellB.vm.isStatics = false ∧ s.vm.findClass C = some cellB.cls) (hE : Ev G A s s.heap) (hK : va_K G.1 vwCl (gT G) s) (hP : va_P G.1 vwCl ws H) (hD : va_D A ws) (hS : va_S A s.heap H locs) (hA : ∀ q : Nat, s.heap.size ≤ q → A q) (hl : ls.size = nL)
    (isC : List Nat) (hnd : va_nd isC = true) (hC : isC.map (fun i => ws[i]?) = w0.map some) (hadr : w1.map (·.1) = w0.map (·.1)) (hput : sb_puts ws isC w1 = ws') (hn : As.length = n) (hstack : st0 = As.reverse ++ .ref b :: rest) (hW : (rest.map fun v => v.category).sum ≤ 8) (hdg : decode cc pc = .ok (.invokevirtual index, 3)) (hf : cells ≤ R.cells ∧ slots ≤ R.slots)
    (kk : CKl p l e R s m args below meth c cells slots Q G A ws' (F0 m (pc + 3) ls (.int r :: rest))) : W p l e R s m args below meth c H locs cells slots Q (F0 m pc ls st0) := by
  obtain ⟨hp, hF⟩ := sb_pre (w0 := w0) hE hK hP hD hS hA isC hnd hC
  refine va_calli (va_runV (As := As) (rest := rest) S (hM H.size) cw ⟨Pre0.blind G w0 H.size _, hrec, fun U hU hW => ⟨rfl, hp U hU hW⟩⟩ rfl hn hl hstack (lv_room hW) hdg ⟨hf.1, hf.2⟩) hS (fun q _ h => hF q h) hF (fun r' u t H1 locs1 ht hvm hw hB hz hk hS1 => ?_)
  obtain ⟨hP2, hD2⟩ := sb_join hP hD isC hC hadr hput hk (by rw [← ht]; exact hB.1)
  rw [hw]
  exact kk H1 locs1 hP2 hD2 hS1
theorem cv_v (S : CallFix p m c cc nL s args Ts own) (hM : CV l y wsY rm G (.ref b :: As) w0 w1) (cw : CallW R s args own C index y bytes maxL ret wsY rm 0 0 n) (hrec : ∃ cellB : Cell, H[b]? = some cellB ∧ cellB.vm.isStatics = false ∧ s.vm.findClass C = some cellB.cls) (hE : Ev G A s s.heap) (hK : va_K G.1 vwCl (gT G) s) (hP : va_P G.1 vwCl ws H) (hD : va_D A ws) (hS : va_S A s.heap H locs) (hA : ∀ q : Nat, s.heap.size ≤ q → A q) (hl : ls.size = nL)
    (isC : List Nat) (hnd : va_nd isC = true) (hC : isC.map (fun i => ws[i]?) = w0.map some) (hadr : w1.map (·.1) = w0.map (·.1)) (hput : sb_puts ws isC w1 = ws') (hn : As.length = n) (hstack : st0 = As.reverse ++ .ref b :: rest) (hW : (rest.map fun v => v.category).sum ≤ 8) (hdg : decode cc pc = .ok (.invokevirtual index, 3)) (hf : cells ≤ R.cells ∧ slots ≤ R.slots)
    (kk : CKl p l e R s m args below meth c cells slots Q G A ws' (F0 m (pc + 3) ls rest)) : W p l e R s m args below meth c H locs cells slots Q (F0 m pc ls st0) := by
  obtain ⟨hp, hF⟩ := sb_pre (w0 := w0) hE hK hP hD hS hA isC hnd hC
  refine va_callv (va_runV (As := As) (rest := rest) S (hM H.size) cw ⟨Pre0.blind G w0 H.size _, hrec, fun U hU hW => ⟨rfl, hp U hU hW⟩⟩ rfl hn hl hstack (lv_room hW) hdg ⟨hf.1, hf.2⟩) hS (fun q _ h => hF q h) hF (fun u t H1 locs1 ht hvm hw hB hz hk hS1 => ?_)
  obtain ⟨hP2, hD2⟩ := sb_join hP hD isC hC hadr hput hk (by rw [← ht]; exact hB.1)
  exact kk H1 locs1 hP2 hD2 hS1
theorem cv_r {r : Nat} (S : CallFix p m c cc nL s args Ts own) (hM : CR l y wsY rm G (.ref b :: As) w0 r w1) (cw : CallW R s args own C index y bytes maxL ret wsY rm 0 0 n) (hrec : ∃ cellB : Cell, H[b]? = some cellB ∧ cellB.vm.isStatics = false ∧ s.vm.findClass C = some cellB.cls) (hE : Ev G A s s.heap) (hK : va_K G.1 vwCl (gT G) s) (hP : va_P G.1 vwCl ws H) (hD : va_D A ws) (hS : va_S A s.heap H locs) (hA : ∀ q : Nat, s.heap.size ≤ q → A q) (hl : ls.size = nL)
    (isC : List Nat) (hnd : va_nd isC = true) (hC : isC.map (fun i => ws[i]?) = w0.map some) (hadr : w1.map (·.1) = w0.map (·.1)) (hput : sb_puts ws isC w1 = ws') (hn : As.length = n) (hstack : st0 = As.reverse ++ .ref b :: rest) (hW : (rest.map fun v => v.category).sum ≤ 8) (hdg : decode cc pc = .ok (.invokevirtual index, 3)) (hf : cells ≤ R.cells ∧ slots ≤ R.slots)
    (kk : CKl p l e R s m args below meth c cells slots Q G A ws' (F0 m (pc + 3) ls (.ref r :: rest))) : W p l e R s m args below meth c H locs cells slots Q (F0 m pc ls st0) := by
  obtain ⟨hp, hF⟩ := sb_pre (w0 := w0) hE hK hP hD hS hA isC hnd hC
  refine va_callr (va_runV (As := As) (rest := rest) S (hM H.size) cw ⟨Pre0.blind G w0 H.size _, hrec, fun U hU hW => ⟨rfl, hp U hU hW⟩⟩ rfl hn hl hstack (lv_room hW) hdg ⟨hf.1, hf.2⟩) hS (fun q _ h => hF q h) hF (fun u ra t H1 locs1 ht hvm hw hB hz hk hS1 => ?_)
  obtain ⟨hP2, hD2⟩ := sb_join hP hD isC hC hadr hput hk (by rw [← ht]; exact hB.2.1)
  rw [hB.1]
  exact kk H1 locs1 hP2 hD2 hS1
end
end SB
end
section
/-! ===== our own rows: shifts by name, branches with one cond each (< or =), compares of longs, joins, reads of a sort's numbers, arrays by a Nat place ===== -/
section SR
def shL (x : Int64) (y : Int32) : Int64 := x <<< (y.toInt64 &&& 63)
def shR (x : Int64) (y : Int32) : Int64 := x >>> (y.toInt64 &&& 63)
def shU (x : Int64) (y : Int32) : Int64 := (x.toUInt64 >>> (y.toInt64.toUInt64 &&& Int64.toUInt64 63)).toInt64
variable {p : Program} {l : Launch} {e : Env} {R : Room} {s : State} {m : MethodId} {args : Array Value} {below : List Frame} {meth : Method} {c : Code} {H : Heap} {locs : List Loc} {cells slots : Nat} {Q : State → Prop} {cc : ByteArray} {pc : Nat} {ls : Array Slot} {rest : List Value}
theorem r_lshl (hx : p.tables.exec = Jvm.exec) (hb : c.code = cc) {x : Int64} {y : Int32} (hdg : decode cc pc = .ok (.lshl, 1)) (k : W p l e R s m args below meth c H locs cells slots Q (F0 m (pc + 1) ls (.long (shL x y) :: rest))) : W p l e R s m args below meth c H locs cells slots Q (F0 m pc ls (.int y :: .long x :: rest)) := lv_lshl hx hb hdg rfl k
theorem r_lshr (hx : p.tables.exec = Jvm.exec) (hb : c.code = cc) {x : Int64} {y : Int32} (hdg : decode cc pc = .ok (.lshr, 1)) (k : W p l e R s m args below meth c H locs cells slots Q (F0 m (pc + 1) ls (.long (shR x y) :: rest))) : W p l e R s m args below meth c H locs cells slots Q (F0 m pc ls (.int y :: .long x :: rest)) := lv_lshr hx hb hdg rfl k
theorem r_lushr (hx : p.tables.exec = Jvm.exec) (hb : c.code = cc) {x : Int64} {y : Int32} (hdg : decode cc pc = .ok (.lushr, 1)) (k : W p l e R s m args below meth c H locs cells slots Q (F0 m (pc + 1) ls (.long (shU x y) :: rest))) : W p l e R s m args below meth c H locs cells slots Q (F0 m pc ls (.int y :: .long x :: rest)) := lv_lushr hx hb hdg rfl k
theorem r_i2l (hx : p.tables.exec = Jvm.exec) (hb : c.code = cc) {x : Int32} (hdg : decode cc pc = .ok (.i2l, 1)) (k : W p l e R s m args below meth c H locs cells slots Q (F0 m (pc + 1) ls (.long x.toInt64 :: rest))) : W p l e R s m args below meth c H locs cells slots Q (F0 m pc ls (.int x :: rest)) := lv_i2l hx hb hdg rfl k
theorem r_l2i (hx : p.tables.exec = Jvm.exec) (hb : c.code = cc) {x : Int64} (hdg : decode cc pc = .ok (.l2i, 1)) (k : W p l e R s m args below meth c H locs cells slots Q (F0 m (pc + 1) ls (.int x.toInt32 :: rest))) : W p l e R s m args below meth c H locs cells slots Q (F0 m pc ls (.long x :: rest)) := lv_l2i hx hb hdg rfl k
theorem i_nlt {x y : Int32} : ¬ x < y ↔ y ≤ x := by rw [Int32.lt_iff_toInt_lt, Int32.le_iff_toInt_le]; omega
theorem i_nle {x y : Int32} : ¬ y ≤ x ↔ x < y := by rw [Int32.lt_iff_toInt_lt, Int32.le_iff_toInt_le]; omega
theorem bi_eq (hx : p.tables.exec = Jvm.exec) (hb : c.code = cc) {x y : Int32} {off : Int} {tgt : Nat} (hdg : decode cc pc = .ok (.if_icmp .eq off, 3)) (ht : (pc : Int) + off = (tgt : Int)) (kt : x = y → W p l e R s m args below meth c H locs cells slots Q (F0 m tgt ls rest)) (kf : ¬ x = y → W p l e R s m args below meth c H locs cells slots Q (F0 m (pc + 3) ls rest)) : W p l e R s m args below meth c H locs cells slots Q (F0 m pc ls (.int y :: .int x :: rest)) := lv_icmp_eq hx hb hdg ht kt kf
theorem bz_eq (hx : p.tables.exec = Jvm.exec) (hb : c.code = cc) {x : Int32} {off : Int} {tgt : Nat} (hdg : decode cc pc = .ok (.ifCond .eq off, 3)) (ht : (pc : Int) + off = (tgt : Int)) (kt : x = 0 → W p l e R s m args below meth c H locs cells slots Q (F0 m tgt ls rest)) (kf : ¬ x = 0 → W p l e R s m args below meth c H locs cells slots Q (F0 m (pc + 3) ls rest)) : W p l e R s m args below meth c H locs cells slots Q (F0 m pc ls (.int x :: rest)) := lv_if_eq hx hb hdg ht kt kf
theorem bi_ne (hx : p.tables.exec = Jvm.exec) (hb : c.code = cc) {x y : Int32} {off : Int} {tgt : Nat} (hdg : decode cc pc = .ok (.if_icmp .ne off, 3)) (ht : (pc : Int) + off = (tgt : Int)) (kt : x = y → W p l e R s m args below meth c H locs cells slots Q (F0 m (pc + 3) ls rest)) (kf : ¬ x = y → W p l e R s m args below meth c H locs cells slots Q (F0 m tgt ls rest)) : W p l e R s m args below meth c H locs cells slots Q (F0 m pc ls (.int y :: .int x :: rest)) := lv_icmp_ne hx hb hdg ht kf kt
theorem bz_ne (hx : p.tables.exec = Jvm.exec) (hb : c.code = cc) {x : Int32} {off : Int} {tgt : Nat} (hdg : decode cc pc = .ok (.ifCond .ne off, 3)) (ht : (pc : Int) + off = (tgt : Int)) (kt : x = 0 → W p l e R s m args below meth c H locs cells slots Q (F0 m (pc + 3) ls rest)) (kf : ¬ x = 0 → W p l e R s m args below meth c H locs cells slots Q (F0 m tgt ls rest)) : W p l e R s m args below meth c H locs cells slots Q (F0 m pc ls (.int x :: rest)) := lv_if_ne hx hb hdg ht kf kt
theorem bi_lt (hx : p.tables.exec = Jvm.exec) (hb : c.code = cc) {x y : Int32} {off : Int} {tgt : Nat} (hdg : decode cc pc = .ok (.if_icmp .lt off, 3)) (ht : (pc : Int) + off = (tgt : Int)) (kt : x < y → W p l e R s m args below meth c H locs cells slots Q (F0 m tgt ls rest)) (kf : ¬ x < y → W p l e R s m args below meth c H locs cells slots Q (F0 m (pc + 3) ls rest)) : W p l e R s m args below meth c H locs cells slots Q (F0 m pc ls (.int y :: .int x :: rest)) := lv_icmp_lt hx hb hdg ht kt kf
theorem bz_lt (hx : p.tables.exec = Jvm.exec) (hb : c.code = cc) {x : Int32} {off : Int} {tgt : Nat} (hdg : decode cc pc = .ok (.ifCond .lt off, 3)) (ht : (pc : Int) + off = (tgt : Int)) (kt : x < 0 → W p l e R s m args below meth c H locs cells slots Q (F0 m tgt ls rest)) (kf : ¬ x < 0 → W p l e R s m args below meth c H locs cells slots Q (F0 m (pc + 3) ls rest)) : W p l e R s m args below meth c H locs cells slots Q (F0 m pc ls (.int x :: rest)) := lv_if_lt hx hb hdg ht kt kf
theorem bi_ge (hx : p.tables.exec = Jvm.exec) (hb : c.code = cc) {x y : Int32} {off : Int} {tgt : Nat} (hdg : decode cc pc = .ok (.if_icmp .ge off, 3)) (ht : (pc : Int) + off = (tgt : Int)) (kt : x < y → W p l e R s m args below meth c H locs cells slots Q (F0 m (pc + 3) ls rest)) (kf : ¬ x < y → W p l e R s m args below meth c H locs cells slots Q (F0 m tgt ls rest)) : W p l e R s m args below meth c H locs cells slots Q (F0 m pc ls (.int y :: .int x :: rest)) := lv_icmp_ge hx hb hdg ht (fun h => kf (i_nlt.mpr h)) (fun h => kt (i_nle.mp h))
theorem bz_ge (hx : p.tables.exec = Jvm.exec) (hb : c.code = cc) {x : Int32} {off : Int} {tgt : Nat} (hdg : decode cc pc = .ok (.ifCond .ge off, 3)) (ht : (pc : Int) + off = (tgt : Int)) (kt : x < 0 → W p l e R s m args below meth c H locs cells slots Q (F0 m (pc + 3) ls rest)) (kf : ¬ x < 0 → W p l e R s m args below meth c H locs cells slots Q (F0 m tgt ls rest)) : W p l e R s m args below meth c H locs cells slots Q (F0 m pc ls (.int x :: rest)) := lv_if_ge hx hb hdg ht (fun h => kf (i_nlt.mpr h)) (fun h => kt (i_nle.mp h))
theorem bi_gt (hx : p.tables.exec = Jvm.exec) (hb : c.code = cc) {x y : Int32} {off : Int} {tgt : Nat} (hdg : decode cc pc = .ok (.if_icmp .gt off, 3)) (ht : (pc : Int) + off = (tgt : Int)) (kt : y < x → W p l e R s m args below meth c H locs cells slots Q (F0 m tgt ls rest)) (kf : ¬ y < x → W p l e R s m args below meth c H locs cells slots Q (F0 m (pc + 3) ls rest)) : W p l e R s m args below meth c H locs cells slots Q (F0 m pc ls (.int y :: .int x :: rest)) := lv_icmp_gt hx hb hdg ht kt kf
theorem bz_gt (hx : p.tables.exec = Jvm.exec) (hb : c.code = cc) {x : Int32} {off : Int} {tgt : Nat} (hdg : decode cc pc = .ok (.ifCond .gt off, 3)) (ht : (pc : Int) + off = (tgt : Int)) (kt : 0 < x → W p l e R s m args below meth c H locs cells slots Q (F0 m tgt ls rest)) (kf : ¬ 0 < x → W p l e R s m args below meth c H locs cells slots Q (F0 m (pc + 3) ls rest)) : W p l e R s m args below meth c H locs cells slots Q (F0 m pc ls (.int x :: rest)) := lv_if_gt hx hb hdg ht kt kf
theorem bi_le (hx : p.tables.exec = Jvm.exec) (hb : c.code = cc) {x y : Int32} {off : Int} {tgt : Nat} (hdg : decode cc pc = .ok (.if_icmp .le off, 3)) (ht : (pc : Int) + off = (tgt : Int)) (kt : y < x → W p l e R s m args below meth c H locs cells slots Q (F0 m (pc + 3) ls rest)) (kf : ¬ y < x → W p l e R s m args below meth c H locs cells slots Q (F0 m tgt ls rest)) : W p l e R s m args below meth c H locs cells slots Q (F0 m pc ls (.int y :: .int x :: rest)) := lv_icmp_le hx hb hdg ht (fun h => kf (i_nlt.mpr h)) (fun h => kt (i_nle.mp h))
theorem bz_le (hx : p.tables.exec = Jvm.exec) (hb : c.code = cc) {x : Int32} {off : Int} {tgt : Nat} (hdg : decode cc pc = .ok (.ifCond .le off, 3)) (ht : (pc : Int) + off = (tgt : Int)) (kt : 0 < x → W p l e R s m args below meth c H locs cells slots Q (F0 m (pc + 3) ls rest)) (kf : ¬ 0 < x → W p l e R s m args below meth c H locs cells slots Q (F0 m tgt ls rest)) : W p l e R s m args below meth c H locs cells slots Q (F0 m pc ls (.int x :: rest)) := lv_if_le hx hb hdg ht (fun h => kf (i_nlt.mpr h)) (fun h => kt (i_nle.mp h))
theorem lc_lt (x y : Int64) : lg_cmp x y < 0 ↔ x < y := by
  unfold lg_cmp
  by_cases h1 : x > y
  · rw [if_pos h1]; exact ⟨fun h => absurd h (by decide), fun h => absurd h (lg_lt_not h1)⟩
  · rw [if_neg h1]
    by_cases h2 : x = y
    · rw [if_pos h2]; subst h2; exact ⟨fun h => absurd h (by decide), fun h => absurd h h1⟩
    · rw [if_neg h2]
      refine ⟨fun _ => ?_, fun _ => by decide⟩
      rw [gt_iff_lt, Int64.lt_iff_toInt_lt] at h1; rw [Int64.lt_iff_toInt_lt]; rw [← Int64.toInt_inj] at h2; omega
theorem lc_gt (x y : Int64) : 0 < lg_cmp x y ↔ y < x := by
  unfold lg_cmp
  by_cases h1 : x > y
  · rw [if_pos h1]; exact ⟨fun _ => h1, fun _ => by decide⟩
  · rw [if_neg h1]
    by_cases h2 : x = y
    · rw [if_pos h2]; exact ⟨fun h => absurd h (by decide), fun h => absurd h h1⟩
    · rw [if_neg h2]; exact ⟨fun h => absurd h (by decide), fun h => absurd h h1⟩
theorem lc_eq (x y : Int64) : lg_cmp x y = 0 ↔ x = y := by
  unfold lg_cmp
  by_cases h1 : x > y
  · rw [if_pos h1]; exact ⟨fun h => absurd h (by decide), fun h => by subst h; exact absurd h1 (lg_lt_not h1)⟩
  · rw [if_neg h1]
    by_cases h2 : x = y
    · rw [if_pos h2]; exact ⟨fun _ => h2, fun _ => rfl⟩
    · rw [if_neg h2]; exact ⟨fun h => absurd h (by decide), fun h => absurd h h2⟩
theorem bl_eq (hx : p.tables.exec = Jvm.exec) (hb : c.code = cc) {x y : Int64} {off : Int} {tgt : Nat} (hd1 : decode cc pc = .ok (.lcmp, 1)) (hdg : decode cc (pc + 1) = .ok (.ifCond .eq off, 3)) (ht : ((pc + 1 : Nat) : Int) + off = (tgt : Int)) (kt : x = y → W p l e R s m args below meth c H locs cells slots Q (F0 m tgt ls rest)) (kf : ¬ x = y → W p l e R s m args below meth c H locs cells slots Q (F0 m (pc + 4) ls rest)) : W p l e R s m args below meth c H locs cells slots Q (F0 m pc ls (.long y :: .long x :: rest)) := W.lcmp hx hb hd1 (bz_eq hx hb hdg ht (fun h => kt ((lc_eq x y).mp h)) (fun h => kf (fun g => h ((lc_eq x y).mpr g))))
theorem bl_ne (hx : p.tables.exec = Jvm.exec) (hb : c.code = cc) {x y : Int64} {off : Int} {tgt : Nat} (hd1 : decode cc pc = .ok (.lcmp, 1)) (hdg : decode cc (pc + 1) = .ok (.ifCond .ne off, 3)) (ht : ((pc + 1 : Nat) : Int) + off = (tgt : Int)) (kt : x = y → W p l e R s m args below meth c H locs cells slots Q (F0 m (pc + 4) ls rest)) (kf : ¬ x = y → W p l e R s m args below meth c H locs cells slots Q (F0 m tgt ls rest)) : W p l e R s m args below meth c H locs cells slots Q (F0 m pc ls (.long y :: .long x :: rest)) := W.lcmp hx hb hd1 (bz_ne hx hb hdg ht (fun h => kt ((lc_eq x y).mp h)) (fun h => kf (fun g => h ((lc_eq x y).mpr g))))
theorem bl_lt (hx : p.tables.exec = Jvm.exec) (hb : c.code = cc) {x y : Int64} {off : Int} {tgt : Nat} (hd1 : decode cc pc = .ok (.lcmp, 1)) (hdg : decode cc (pc + 1) = .ok (.ifCond .lt off, 3)) (ht : ((pc + 1 : Nat) : Int) + off = (tgt : Int)) (kt : x < y → W p l e R s m args below meth c H locs cells slots Q (F0 m tgt ls rest)) (kf : ¬ x < y → W p l e R s m args below meth c H locs cells slots Q (F0 m (pc + 4) ls rest)) : W p l e R s m args below meth c H locs cells slots Q (F0 m pc ls (.long y :: .long x :: rest)) := W.lcmp hx hb hd1 (bz_lt hx hb hdg ht (fun h => kt ((lc_lt x y).mp h)) (fun h => kf (fun g => h ((lc_lt x y).mpr g))))
theorem bl_ge (hx : p.tables.exec = Jvm.exec) (hb : c.code = cc) {x y : Int64} {off : Int} {tgt : Nat} (hd1 : decode cc pc = .ok (.lcmp, 1)) (hdg : decode cc (pc + 1) = .ok (.ifCond .ge off, 3)) (ht : ((pc + 1 : Nat) : Int) + off = (tgt : Int)) (kt : x < y → W p l e R s m args below meth c H locs cells slots Q (F0 m (pc + 4) ls rest)) (kf : ¬ x < y → W p l e R s m args below meth c H locs cells slots Q (F0 m tgt ls rest)) : W p l e R s m args below meth c H locs cells slots Q (F0 m pc ls (.long y :: .long x :: rest)) := W.lcmp hx hb hd1 (bz_ge hx hb hdg ht (fun h => kt ((lc_lt x y).mp h)) (fun h => kf (fun g => h ((lc_lt x y).mpr g))))
theorem bl_gt (hx : p.tables.exec = Jvm.exec) (hb : c.code = cc) {x y : Int64} {off : Int} {tgt : Nat} (hd1 : decode cc pc = .ok (.lcmp, 1)) (hdg : decode cc (pc + 1) = .ok (.ifCond .gt off, 3)) (ht : ((pc + 1 : Nat) : Int) + off = (tgt : Int)) (kt : y < x → W p l e R s m args below meth c H locs cells slots Q (F0 m tgt ls rest)) (kf : ¬ y < x → W p l e R s m args below meth c H locs cells slots Q (F0 m (pc + 4) ls rest)) : W p l e R s m args below meth c H locs cells slots Q (F0 m pc ls (.long y :: .long x :: rest)) := W.lcmp hx hb hd1 (bz_gt hx hb hdg ht (fun h => kt ((lc_gt x y).mp h)) (fun h => kf (fun g => h ((lc_gt x y).mpr g))))
theorem bl_le (hx : p.tables.exec = Jvm.exec) (hb : c.code = cc) {x y : Int64} {off : Int} {tgt : Nat} (hd1 : decode cc pc = .ok (.lcmp, 1)) (hdg : decode cc (pc + 1) = .ok (.ifCond .le off, 3)) (ht : ((pc + 1 : Nat) : Int) + off = (tgt : Int)) (kt : y < x → W p l e R s m args below meth c H locs cells slots Q (F0 m (pc + 4) ls rest)) (kf : ¬ y < x → W p l e R s m args below meth c H locs cells slots Q (F0 m tgt ls rest)) : W p l e R s m args below meth c H locs cells slots Q (F0 m pc ls (.long y :: .long x :: rest)) := W.lcmp hx hb hd1 (bz_le hx hb hdg ht (fun h => kt ((lc_gt x y).mp h)) (fun h => kf (fun g => h ((lc_gt x y).mpr g))))
theorem jn_1 {T : Type} {g : JFrame} (G : GT) (A : Nat → Prop) (E : T) (ws' : va_W) (nL : Nat) (lv : T → List (Nat × Value)) (st : T → List Value) (tgt : Nat) (k : ∀ (y : T), y = E → ∀ (H : Heap) (locs : List Loc) (ls : Array Slot), va_P G.1 vwCl ws' H → va_D A ws' → va_S A s.heap H locs → lv_has ls nL (lv y) → W p l e R s m args below meth c H locs cells slots Q (F0 m tgt ls (st y))) (b : (∀ (y : T), y = E → ∀ (H : Heap) (locs : List Loc) (ls : Array Slot), va_P G.1 vwCl ws' H → va_D A ws' → va_S A s.heap H locs → lv_has ls nL (lv y) → W p l e R s m args below meth c H locs cells slots Q (F0 m tgt ls (st y))) → W p l e R s m args below meth c H locs cells slots Q g) : W p l e R s m args below meth c H locs cells slots Q g := b k
theorem lp_1 {T : Type} (G : GT) (A : Nat → Prop) (N : Nat) (inv : Nat → T → Prop) (ws' : Nat → T → va_W) (nL : Nat) (lv : Nat → T → List (Nat × Value)) (tgt : Nat) (body : ∀ (k : Nat) (y : T), k ≤ N → inv k y → (k < N → ∀ y' : T, inv (k + 1) y' → ∀ (H : Heap) (locs : List Loc) (ls : Array Slot), va_P G.1 vwCl (ws' (k + 1) y') H → va_D A (ws' (k + 1) y') → va_S A s.heap H locs → lv_has ls nL (lv (k + 1) y') → W p l e R s m args below meth c H locs cells slots Q (F0 m tgt ls [])) → ∀ (H : Heap) (locs : List Loc) (ls : Array Slot), va_P G.1 vwCl (ws' k y) H → va_D A (ws' k y) → va_S A s.heap H locs → lv_has ls nL (lv k y) → W p l e R s m args below meth c H locs cells slots Q (F0 m tgt ls [])) (k0 : Nat) (y0 : T) (hk0 : k0 ≤ N) (hi0 : inv k0 y0) : ∀ (H : Heap) (locs : List Loc) (ls : Array Slot), va_P G.1 vwCl (ws' k0 y0) H → va_D A (ws' k0 y0) → va_S A s.heap H locs → lv_has ls nL (lv k0 y0) → W p l e R s m args below meth c H locs cells slots Q (F0 m tgt ls []) := by
  have key : ∀ (n k : Nat) (y : T), k + n = N → inv k y → ∀ (H : Heap) (locs : List Loc) (ls : Array Slot), va_P G.1 vwCl (ws' k y) H → va_D A (ws' k y) → va_S A s.heap H locs → lv_has ls nL (lv k y) → W p l e R s m args below meth c H locs cells slots Q (F0 m tgt ls []) := by
    intro n
    induction n with
    | zero => intro k y hk hi; exact body k y (by omega) hi (fun h => absurd h (by omega))
    | succ n ih => intro k y hk hi; exact body k y (by omega) hi (fun _ y' hi' => ih (k + 1) y' (by omega) hi')
  exact key (N - k0) k0 y0 (by omega) hi0
end SR
section SS
variable {p : Program} {l : Launch} {e : Env} {R : Room} {s : State} {m : MethodId} {args : Array Value} {below : List Frame} {meth : Method} {c : Code} {H : Heap} {locs : List Loc} {cells slots : Nat} {Q : State → Prop} {cc : ByteArray} {pc : Nat} {ls : Array Slot} {rest : List Value} {G : GT} {A : Nat → Prop} {i index : Nat} {own : String}
theorem sg_bits (hx : p.tables.exec = Jvm.exec) (hb : c.code = cc) (hE : Ev G A s s.heap) (hi : i < 4) (hS : va_S A s.heap H locs) (hown : s.vm.findClass own = some m.cls) (hlink : (Cond.fieldLink own index "PedalBoard$Sort" "bits" "I").before args s = true) (hdg : decode cc pc = .ok (.getfield index, 3)) (kk : W p l e R s m args below meth c H locs cells slots Q (F0 m (pc + 3) ls (.int (so_bits i) :: rest))) : W p l e R s m args below meth c H locs cells slots Q (F0 m pc ls (.ref (G.2.2.1 i) :: rest)) := va_getX hx hb hE.2.1 hi hS hown hlink (fun _ h9 => h9) hdg kk
theorem sg_fraction (hx : p.tables.exec = Jvm.exec) (hb : c.code = cc) (hE : Ev G A s s.heap) (hi : i < 4) (hS : va_S A s.heap H locs) (hown : s.vm.findClass own = some m.cls) (hlink : (Cond.fieldLink own index "PedalBoard$Sort" "fraction" "I").before args s = true) (hdg : decode cc pc = .ok (.getfield index, 3)) (kk : W p l e R s m args below meth c H locs cells slots Q (F0 m (pc + 3) ls (.int (so_frac i) :: rest))) : W p l e R s m args below meth c H locs cells slots Q (F0 m pc ls (.ref (G.2.2.1 i) :: rest)) := va_getX hx hb hE.2.2.1 hi hS hown hlink (fun _ h9 => h9) hdg kk
theorem sg_bias (hx : p.tables.exec = Jvm.exec) (hb : c.code = cc) (hE : Ev G A s s.heap) (hi : i < 4) (hS : va_S A s.heap H locs) (hown : s.vm.findClass own = some m.cls) (hlink : (Cond.fieldLink own index "PedalBoard$Sort" "bias" "I").before args s = true) (hdg : decode cc pc = .ok (.getfield index, 3)) (kk : W p l e R s m args below meth c H locs cells slots Q (F0 m (pc + 3) ls (.int (so_bias i) :: rest))) : W p l e R s m args below meth c H locs cells slots Q (F0 m pc ls (.ref (G.2.2.1 i) :: rest)) := va_getX hx hb hE.2.2.2.1 hi hS hown hlink (fun _ h9 => h9) hdg kk
theorem sg_sizeMask (hx : p.tables.exec = Jvm.exec) (hb : c.code = cc) (hE : Ev G A s s.heap) (hi : i < 4) (hS : va_S A s.heap H locs) (hown : s.vm.findClass own = some m.cls) (hlink : (Cond.fieldLink own index "PedalBoard$Sort" "sizeMask" "J").before args s = true) (hdg : decode cc pc = .ok (.getfield index, 3)) (kk : W p l e R s m args below meth c H locs cells slots Q (F0 m (pc + 3) ls (.long (so_mask i) :: rest))) : W p l e R s m args below meth c H locs cells slots Q (F0 m pc ls (.ref (G.2.2.1 i) :: rest)) := va_getX hx hb hE.2.2.2.2.1 hi hS hown hlink (fun _ h9 => h9) hdg kk
theorem so_rec (hE : Ev G A s s.heap) (hi : i < 4) (hS : va_S A s.heap H locs) : ∃ cell : Cell, H[G.2.2.1 i]? = some cell ∧ cell.vm.isStatics = false ∧ s.vm.findClass RX1 = some cell.cls := by
  obtain ⟨cell, h1, h2, h3, -⟩ := (hE.1 i hi).kept hS.2.1
  exact ⟨cell, h1, h2, h3⟩
end SS
section SA
variable {p : Program} {l : Launch} {e : Env} {R : Room} {s : State} {m : MethodId} {args : Array Value} {below : List Frame} {meth : Method} {c : Code} {H : Heap} {locs : List Loc} {cells slots : Nat} {Q : State → Prop} {cc : ByteArray} {pc : Nat} {ls : Array Slot} {rest : List Value} {G : GT} {A : Nat → Prop} {ws : va_W} {a N n : Nat} {i : Int32}
theorem ar_ild (hx : p.tables.exec = Jvm.exec) (hb : c.code = cc) (hK : va_K G.1 vwCl (gT G) s) (hP : va_P G.1 vwCl ws H) (q0 : Nat) {f : Nat → Int32} (ha : ws[q0]? = some (a, .inl (G.2.1 0, N, .inl f))) (n : Nat) (hi : i = nI n) (hn : n < N) (hN : N < 2 ^ 31) (hdg : decode cc pc = .ok (.iaload, 1)) (kk : W p l e R s m args below meth c H locs cells slots Q (F0 m (pc + 1) ls (.int (f n) :: rest))) : W p l e R s m args below meth c H locs cells slots Q (F0 m pc ls (.int i :: .ref a :: rest)) := by
  have hc : (nI n).toNatClampNeg = n := nI_clamp (Nat.lt_trans hn hN)
  subst hi
  refine va_iald hx hb hK hP q0 0 ha rfl (vp_in_nI hn hN) hdg ?_
  rw [hc]
  exact kk
theorem ar_zld (hx : p.tables.exec = Jvm.exec) (hb : c.code = cc) (hK : va_K G.1 vwCl (gT G) s) (hP : va_P G.1 vwCl ws H) (q0 : Nat) {f : Nat → Int32} (ha : ws[q0]? = some (a, .inl (G.2.1 2, N, .inl f))) (n : Nat) (hi : i = nI n) (hn : n < N) (hN : N < 2 ^ 31) (hdg : decode cc pc = .ok (.baload, 1)) (kk : W p l e R s m args below meth c H locs cells slots Q (F0 m (pc + 1) ls (.int (f n) :: rest))) : W p l e R s m args below meth c H locs cells slots Q (F0 m pc ls (.int i :: .ref a :: rest)) := by
  have hc : (nI n).toNatClampNeg = n := nI_clamp (Nat.lt_trans hn hN)
  subst hi
  refine va_zald hx hb hK hP q0 2 ha rfl (vp_in_nI hn hN) hdg ?_
  rw [hc]
  exact kk
theorem ar_lld (hx : p.tables.exec = Jvm.exec) (hb : c.code = cc) (hK : va_K G.1 vwCl (gT G) s) (hP : va_P G.1 vwCl ws H) (q0 : Nat) {f : Nat → Int64} (ha : ws[q0]? = some (a, .inl (G.2.1 1, N, .inr (.inl f)))) (n : Nat) (hi : i = nI n) (hn : n < N) (hN : N < 2 ^ 31) (hdg : decode cc pc = .ok (.laload, 1)) (kk : W p l e R s m args below meth c H locs cells slots Q (F0 m (pc + 1) ls (.long (f n) :: rest))) : W p l e R s m args below meth c H locs cells slots Q (F0 m pc ls (.int i :: .ref a :: rest)) := by
  have hc : (nI n).toNatClampNeg = n := nI_clamp (Nat.lt_trans hn hN)
  subst hi
  refine va_lald hx hb hK hP q0 1 ha rfl (vp_in_nI hn hN) hdg ?_
  rw [hc]
  exact kk
theorem ar_ist (hx : p.tables.exec = Jvm.exec) (hb : c.code = cc) (hK : va_K G.1 vwCl (gT G) s) (hP : va_P G.1 vwCl ws H) (hD : va_D A ws) (hS : va_S A s.heap H locs) (q0 : Nat) {f : Nat → Int32} {x : Int32} (ha : ws[q0]? = some (a, .inl (G.2.1 0, N, .inl f))) (n : Nat) (hi : i = nI n) (hn : n < N) (hN : N < 2 ^ 31) (hdg : decode cc pc = .ok (.iastore, 1)) (kk : ∀ (H1 : Heap) (locs1 : List Loc), va_P G.1 vwCl (ws.set q0 (a, .inl (G.2.1 0, N, .inl (upd f n x)))) H1 → va_D A (ws.set q0 (a, .inl (G.2.1 0, N, .inl (upd f n x)))) → va_S A s.heap H1 locs1 → W p l e R s m args below meth c H1 locs1 cells slots Q (F0 m (pc + 1) ls rest)) : W p l e R s m args below meth c H locs cells slots Q (F0 m pc ls (.int x :: .int i :: .ref a :: rest)) := by
  have hc : (nI n).toNatClampNeg = n := nI_clamp (Nat.lt_trans hn hN)
  subst hi
  refine va_iast hx hb hK hP hD hS q0 0 ha rfl (vp_in_nI hn hN) hdg (fun H1 locs1 hP1 hD1 hS1 => ?_)
  rw [hc] at hP1 hD1
  exact kk H1 locs1 hP1 hD1 hS1
theorem ar_zst (hx : p.tables.exec = Jvm.exec) (hb : c.code = cc) (hK : va_K G.1 vwCl (gT G) s) (hP : va_P G.1 vwCl ws H) (hD : va_D A ws) (hS : va_S A s.heap H locs) (q0 : Nat) {f : Nat → Int32} {x : Int32} (ha : ws[q0]? = some (a, .inl (G.2.1 2, N, .inl f))) (n : Nat) (hi : i = nI n) (hn : n < N) (hN : N < 2 ^ 31) (hx2 : x = 0 ∨ x = 1) (hdg : decode cc pc = .ok (.bastore, 1)) (kk : ∀ (H1 : Heap) (locs1 : List Loc), va_P G.1 vwCl (ws.set q0 (a, .inl (G.2.1 2, N, .inl (upd f n x)))) H1 → va_D A (ws.set q0 (a, .inl (G.2.1 2, N, .inl (upd f n x)))) → va_S A s.heap H1 locs1 → W p l e R s m args below meth c H1 locs1 cells slots Q (F0 m (pc + 1) ls rest)) : W p l e R s m args below meth c H locs cells slots Q (F0 m pc ls (.int x :: .int i :: .ref a :: rest)) := by
  have hc : (nI n).toNatClampNeg = n := nI_clamp (Nat.lt_trans hn hN)
  have hnar : vp_nar .boolean x = x := by rcases hx2 with h | h <;> subst h <;> decide
  subst hi
  refine va_zast hx hb hK hP hD hS q0 2 ha rfl (vp_in_nI hn hN) hdg (fun H1 locs1 hP1 hD1 hS1 => ?_)
  rw [hc] at hP1 hD1
  rw [hnar] at hP1 hD1
  exact kk H1 locs1 hP1 hD1 hS1
theorem ar_lst (hx : p.tables.exec = Jvm.exec) (hb : c.code = cc) (hK : va_K G.1 vwCl (gT G) s) (hP : va_P G.1 vwCl ws H) (hD : va_D A ws) (hS : va_S A s.heap H locs) (q0 : Nat) {f : Nat → Int64} {x : Int64} (ha : ws[q0]? = some (a, .inl (G.2.1 1, N, .inr (.inl f)))) (n : Nat) (hi : i = nI n) (hn : n < N) (hN : N < 2 ^ 31) (hdg : decode cc pc = .ok (.lastore, 1)) (kk : ∀ (H1 : Heap) (locs1 : List Loc), va_P G.1 vwCl (ws.set q0 (a, .inl (G.2.1 1, N, .inr (.inl (vp_updL f n x))))) H1 → va_D A (ws.set q0 (a, .inl (G.2.1 1, N, .inr (.inl (vp_updL f n x))))) → va_S A s.heap H1 locs1 → W p l e R s m args below meth c H1 locs1 cells slots Q (F0 m (pc + 1) ls rest)) : W p l e R s m args below meth c H locs cells slots Q (F0 m pc ls (.long x :: .int i :: .ref a :: rest)) := by
  have hc : (nI n).toNatClampNeg = n := nI_clamp (Nat.lt_trans hn hN)
  subst hi
  refine va_last hx hb hK hP hD hS q0 1 ha rfl (vp_in_nI hn hN) hdg (fun H1 locs1 hP1 hD1 hS1 => ?_)
  rw [hc] at hP1 hD1
  exact kk H1 locs1 hP1 hD1 hS1
end SA
section SZ
theorem z_nar {x : Int32} (h : x = 0 ∨ x = 1) : narrow .boolean (.int x) = .int x := by rcases h with h | h <;> subst h <;> decide
theorem z_fit {x : Int32} (h : x = 0 ∨ x = 1) : fits .boolean (.int x) = true := by rcases h with h | h <;> subst h <;> decide
theorem ep2_inj {α β : Type} {a a' : α} {b b' : β} (h : (a, b) = (a', b')) : a = a' ∧ b = b' := Prod.mk.inj h
theorem ep3_inj {α β γ : Type} {a a' : α} {b b' : β} {c c' : γ} (h : (a, b, c) = (a', b', c')) : a = a' ∧ b = b' ∧ c = c' := ⟨(Prod.mk.inj h).1, (Prod.mk.inj (Prod.mk.inj h).2).1, (Prod.mk.inj (Prod.mk.inj h).2).2⟩
theorem sw_out4 {x : Int32} (h0 : ¬ x = 0) (h1 : ¬ x = 1) (h2 : ¬ x = 2) (h3 : ¬ x = 3) : x.toInt < 0 ∨ 3 < x.toInt := by
  have g0 : x.toInt ≠ 0 := fun h => h0 (Int32.toInt_inj.mp h)
  have g1 : x.toInt ≠ 1 := fun h => h1 (Int32.toInt_inj.mp h)
  have g2 : x.toInt ≠ 2 := fun h => h2 (Int32.toInt_inj.mp h)
  have g3 : x.toInt ≠ 3 := fun h => h3 (Int32.toInt_inj.mp h)
  omega
theorem sw_out8 {x : Int32} (h0 : ¬ x = 0) (h1 : ¬ x = 1) (h2 : ¬ x = 2) (h3 : ¬ x = 3) (h4 : ¬ x = 4) (h5 : ¬ x = 5) (h6 : ¬ x = 6) (h7 : ¬ x = 7) : x.toInt < 0 ∨ 7 < x.toInt := by
  have g0 : x.toInt ≠ 0 := fun h => h0 (Int32.toInt_inj.mp h)
  have g1 : x.toInt ≠ 1 := fun h => h1 (Int32.toInt_inj.mp h)
  have g2 : x.toInt ≠ 2 := fun h => h2 (Int32.toInt_inj.mp h)
  have g3 : x.toInt ≠ 3 := fun h => h3 (Int32.toInt_inj.mp h)
  have g4 : x.toInt ≠ 4 := fun h => h4 (Int32.toInt_inj.mp h)
  have g5 : x.toInt ≠ 5 := fun h => h5 (Int32.toInt_inj.mp h)
  have g6 : x.toInt ≠ 6 := fun h => h6 (Int32.toInt_inj.mp h)
  have g7 : x.toInt ≠ 7 := fun h => h7 (Int32.toInt_inj.mp h)
  omega
theorem sw_out9 {x : Int32} (h0 : ¬ x = 0) (h1 : ¬ x = 1) (h2 : ¬ x = 2) (h3 : ¬ x = 3) (h4 : ¬ x = 4) (h5 : ¬ x = 5) (h6 : ¬ x = 6) (h7 : ¬ x = 7) (h8 : ¬ x = 8) : x.toInt < 0 ∨ 8 < x.toInt := by
  have g0 : x.toInt ≠ 0 := fun h => h0 (Int32.toInt_inj.mp h)
  have g1 : x.toInt ≠ 1 := fun h => h1 (Int32.toInt_inj.mp h)
  have g2 : x.toInt ≠ 2 := fun h => h2 (Int32.toInt_inj.mp h)
  have g3 : x.toInt ≠ 3 := fun h => h3 (Int32.toInt_inj.mp h)
  have g4 : x.toInt ≠ 4 := fun h => h4 (Int32.toInt_inj.mp h)
  have g5 : x.toInt ≠ 5 := fun h => h5 (Int32.toInt_inj.mp h)
  have g6 : x.toInt ≠ 6 := fun h => h6 (Int32.toInt_inj.mp h)
  have g7 : x.toInt ≠ 7 := fun h => h7 (Int32.toInt_inj.mp h)
  have g8 : x.toInt ≠ 8 := fun h => h8 (Int32.toInt_inj.mp h)
  omega
theorem sw_out14 {x : Int32} (h0 : ¬ x = 0) (h1 : ¬ x = 1) (h2 : ¬ x = 2) (h3 : ¬ x = 3) (h4 : ¬ x = 4) (h5 : ¬ x = 5) (h6 : ¬ x = 6) (h7 : ¬ x = 7) (h8 : ¬ x = 8) (h9 : ¬ x = 9) (h10 : ¬ x = 10) (h11 : ¬ x = 11) (h12 : ¬ x = 12) (h13 : ¬ x = 13) : x.toInt < 0 ∨ 13 < x.toInt := by
  have g0 : x.toInt ≠ 0 := fun h => h0 (Int32.toInt_inj.mp h)
  have g1 : x.toInt ≠ 1 := fun h => h1 (Int32.toInt_inj.mp h)
  have g2 : x.toInt ≠ 2 := fun h => h2 (Int32.toInt_inj.mp h)
  have g3 : x.toInt ≠ 3 := fun h => h3 (Int32.toInt_inj.mp h)
  have g4 : x.toInt ≠ 4 := fun h => h4 (Int32.toInt_inj.mp h)
  have g5 : x.toInt ≠ 5 := fun h => h5 (Int32.toInt_inj.mp h)
  have g6 : x.toInt ≠ 6 := fun h => h6 (Int32.toInt_inj.mp h)
  have g7 : x.toInt ≠ 7 := fun h => h7 (Int32.toInt_inj.mp h)
  have g8 : x.toInt ≠ 8 := fun h => h8 (Int32.toInt_inj.mp h)
  have g9 : x.toInt ≠ 9 := fun h => h9 (Int32.toInt_inj.mp h)
  have g10 : x.toInt ≠ 10 := fun h => h10 (Int32.toInt_inj.mp h)
  have g11 : x.toInt ≠ 11 := fun h => h11 (Int32.toInt_inj.mp h)
  have g12 : x.toInt ≠ 12 := fun h => h12 (Int32.toInt_inj.mp h)
  have g13 : x.toInt ≠ 13 := fun h => h13 (Int32.toInt_inj.mp h)
  omega
variable {p : Program} {l : Launch} {e : Env} {R : Room} {s : State} {m : MethodId} {args : Array Value} {below : List Frame} {meth : Method} {c : Code} {H : Heap} {locs : List Loc} {cells slots : Nat} {Q : State → Prop} {cc : ByteArray} {pc : Nat} {ls : Array Slot} {rest : List Value}
theorem sw_in (hx : p.tables.exec = Jvm.exec) (hb : c.code = cc) {dflt lo hi : Int} {offs : Array Int} {len : Nat} {x v : Int32} {off : Int} {tgt : Nat} (hdg : decode cc pc = .ok (.tableswitch dflt lo hi offs, len)) (hv : x = v) (h1 : ¬ v.toInt < lo) (h2 : ¬ hi < v.toInt) (ho : offs[(v.toInt - lo).toNat]? = some off) (ht : (pc : Int) + off = (tgt : Int)) (k : W p l e R s m args below meth c H locs cells slots Q (F0 m tgt ls rest)) : W p l e R s m args below meth c H locs cells slots Q (F0 m pc ls (.int x :: rest)) := by
  subst hv
  exact lv_tableIn hx hb hdg h1 h2 ho ht k
end SZ
end
section
def fX4_isWire (w : Int32) : Int32 := (if w < 0 then (0:Int32) else (if w < (4:Int32) then (1:Int32) else (0:Int32)))
set_option maxHeartbeats 4000000 in
set_option maxRecDepth 100000 in
theorem kX4_isWire (l : Launch) (G : GT) (w : Int32) : CI l yX4_isWire wsX4_isWire { frames := 0, cells := 0, slots := 0, locals := 0 } G [.int w] [] (fX4_isWire w) [] := by
  refine en_i (cc := cX4_isWire) (maxL := 1) (ret := (some .boolean)) (own := RX4) (by decide) rfl rfl (Nat.le_of_ble_eq_true rfl) ?_
  intro p e s m below meth c A ls hx hb hr hts hown hml hlocks hA hK hE hP hD hS hl
  have hl : lv_has ls 1 [(0, .int w)] := hl
  refine lv_iload_n hx hb dX4_isWire_0 rfl (lv_at hl 0 rfl) ?_
  refine bz_lt (tgt := 13) hx hb dX4_isWire_1 (by decide) (fun c_1 => ?_) (fun c_1 => ?_)
  · refine lv_iconst (v := (0:Int32)) hx hb dX4_isWire_13 (by decide) ?_
    exact rt_z hx hb hr hlocks hP hD hS dX4_isWire_14 (by rw [fX4_isWire, if_pos c_1]) (z_nar (Or.inl rfl))
  · refine lv_iload_n hx hb dX4_isWire_4 rfl (lv_at hl 0 rfl) ?_
    refine lv_iconst (v := (4:Int32)) hx hb dX4_isWire_5 (by decide) ?_
    refine bi_ge (tgt := 13) hx hb dX4_isWire_6 (by decide) (fun c_2 => ?_) (fun c_2 => ?_)
    · refine lv_iconst (v := (1:Int32)) hx hb dX4_isWire_9 (by decide) ?_
      refine lv_goto (tgt := 14) hx hb dX4_isWire_10 (by decide) ?_
      exact rt_z hx hb hr hlocks hP hD hS dX4_isWire_14 (by rw [fX4_isWire, if_neg c_1, if_pos c_2]) (z_nar (Or.inr rfl))
    · refine lv_iconst (v := (0:Int32)) hx hb dX4_isWire_13 (by decide) ?_
      exact rt_z hx hb hr hlocks hP hD hS dX4_isWire_14 (by rw [fX4_isWire, if_neg c_1, if_neg c_2]) (z_nar (Or.inl rfl))
theorem z_X4_isWire (w : Int32) : fX4_isWire w = 0 ∨ fX4_isWire w = 1 := by
  unfold fX4_isWire; repeat (first | exact Or.inl rfl | exact Or.inr rfl | split)
def fX4_fractionBits (w : Int32) : Int32 := (if w = (2:Int32) then (23:Int32) else (52:Int32))
set_option maxHeartbeats 4000000 in
set_option maxRecDepth 100000 in
theorem kX4_fractionBits (l : Launch) (G : GT) (w : Int32) : CI l yX4_fractionBits wsX4_fractionBits { frames := 0, cells := 0, slots := 0, locals := 0 } G [.int w] [] (fX4_fractionBits w) [] := by
  refine en_i (cc := cX4_fractionBits) (maxL := 1) (ret := (some .int)) (own := RX4) (by decide) rfl rfl (Nat.le_of_ble_eq_true rfl) ?_
  intro p e s m below meth c A ls hx hb hr hts hown hml hlocks hA hK hE hP hD hS hl
  have hl : lv_has ls 1 [(0, .int w)] := hl
  refine lv_iload_n hx hb dX4_fractionBits_0 rfl (lv_at hl 0 rfl) ?_
  refine lv_iconst (v := (2:Int32)) hx hb dX4_fractionBits_1 (by decide) ?_
  refine bi_ne (tgt := 10) hx hb dX4_fractionBits_2 (by decide) (fun c_1 => ?_) (fun c_1 => ?_)
  · refine lv_bipush (v := (23:Int32)) hx hb dX4_fractionBits_5 (by decide) ?_
    refine lv_goto (tgt := 12) hx hb dX4_fractionBits_7 (by decide) ?_
    exact rt_i hx hb hr hlocks hP hD hS dX4_fractionBits_12 (by rw [fX4_fractionBits, if_pos c_1])
  · refine lv_bipush (v := (52:Int32)) hx hb dX4_fractionBits_10 (by decide) ?_
    exact rt_i hx hb hr hlocks hP hD hS dX4_fractionBits_12 (by rw [fX4_fractionBits, if_neg c_1])
def fX4_signBit (w : Int32) : Int64 := (if w = (2:Int32) then (2147483648:Int64) else (-9223372036854775808:Int64))
set_option maxHeartbeats 4000000 in
set_option maxRecDepth 100000 in
theorem kX4_signBit (l : Launch) (G : GT) (w : Int32) : CL l yX4_signBit wsX4_signBit { frames := 0, cells := 0, slots := 0, locals := 0 } G [.int w] [] (fX4_signBit w) [] := by
  refine en_l (cc := cX4_signBit) (maxL := 1) (ret := (some .long)) (own := RX4) (by decide) rfl rfl (Nat.le_of_ble_eq_true rfl) ?_
  intro p e s m below meth c A ls hx hb hr hts hown hml hlocks hA hK hE hP hD hS hl
  have hl : lv_has ls 1 [(0, .int w)] := hl
  refine lv_iload_n hx hb dX4_signBit_0 rfl (lv_at hl 0 rfl) ?_
  refine lv_iconst (v := (2:Int32)) hx hb dX4_signBit_1 (by decide) ?_
  refine bi_ne (tgt := 11) hx hb dX4_signBit_2 (by decide) (fun c_1 => ?_) (fun c_1 => ?_)
  · refine lv_ldc2 (v := (2147483648:Int64)) hx hb hown (hts (.constantLong RX4 67 (2147483648)) (by decide +kernel)) dX4_signBit_5 ?_
    refine lv_goto (tgt := 14) hx hb dX4_signBit_8 (by decide) ?_
    exact rt_l hx hb hr hlocks hP hD hS dX4_signBit_14 (by rw [fX4_signBit, if_pos c_1])
  · refine lv_ldc2 (v := (-9223372036854775808:Int64)) hx hb hown (hts (.constantLong RX4 69 (-9223372036854775808)) (by decide +kernel)) dX4_signBit_11 ?_
    exact rt_l hx hb hr hlocks hP hD hS dX4_signBit_14 (by rw [fX4_signBit, if_neg c_1])
def fX4_endless (w : Int32) : Int64 := (if w = (2:Int32) then (2139095040:Int64) else (9218868437227405312:Int64))
set_option maxHeartbeats 4000000 in
set_option maxRecDepth 100000 in
theorem kX4_endless (l : Launch) (G : GT) (w : Int32) : CL l yX4_endless wsX4_endless { frames := 0, cells := 0, slots := 0, locals := 0 } G [.int w] [] (fX4_endless w) [] := by
  refine en_l (cc := cX4_endless) (maxL := 1) (ret := (some .long)) (own := RX4) (by decide) rfl rfl (Nat.le_of_ble_eq_true rfl) ?_
  intro p e s m below meth c A ls hx hb hr hts hown hml hlocks hA hK hE hP hD hS hl
  have hl : lv_has ls 1 [(0, .int w)] := hl
  refine lv_iload_n hx hb dX4_endless_0 rfl (lv_at hl 0 rfl) ?_
  refine lv_iconst (v := (2:Int32)) hx hb dX4_endless_1 (by decide) ?_
  refine bi_ne (tgt := 11) hx hb dX4_endless_2 (by decide) (fun c_1 => ?_) (fun c_1 => ?_)
  · refine lv_ldc2 (v := (2139095040:Int64)) hx hb hown (hts (.constantLong RX4 71 (2139095040)) (by decide +kernel)) dX4_endless_5 ?_
    refine lv_goto (tgt := 14) hx hb dX4_endless_8 (by decide) ?_
    exact rt_l hx hb hr hlocks hP hD hS dX4_endless_14 (by rw [fX4_endless, if_pos c_1])
  · refine lv_ldc2 (v := (9218868437227405312:Int64)) hx hb hown (hts (.constantLong RX4 73 (9218868437227405312)) (by decide +kernel)) dX4_endless_11 ?_
    exact rt_l hx hb hr hlocks hP hD hS dX4_endless_14 (by rw [fX4_endless, if_neg c_1])
def fX4_bare (w : Int32) (v : Int64) : Int64 := (if w = (2:Int32) then (v &&& (4294967295:Int64)) else v)
set_option maxHeartbeats 4000000 in
set_option maxRecDepth 100000 in
theorem kX4_bare (l : Launch) (G : GT) (w : Int32) (v : Int64) : CL l yX4_bare wsX4_bare { frames := 0, cells := 0, slots := 0, locals := 0 } G [.int w, .long v] [] (fX4_bare w v) [] := by
  refine en_l (cc := cX4_bare) (maxL := 3) (ret := (some .long)) (own := RX4) (by decide) rfl rfl (Nat.le_of_ble_eq_true rfl) ?_
  intro p e s m below meth c A ls hx hb hr hts hown hml hlocks hA hK hE hP hD hS hl
  have hl : lv_has ls 3 [(0, .int w), (1, .long v)] := hl
  refine lv_iload_n hx hb dX4_bare_0 rfl (lv_at hl 0 rfl) ?_
  refine lv_iconst (v := (2:Int32)) hx hb dX4_bare_1 (by decide) ?_
  refine bi_ne (tgt := 13) hx hb dX4_bare_2 (by decide) (fun c_1 => ?_) (fun c_1 => ?_)
  · refine lv_lload_n hx hb dX4_bare_5 rfl (lv_at hl 1 rfl) ?_
    refine lv_ldc2 (v := (4294967295:Int64)) hx hb hown (hts (.constantLong RX4 75 (4294967295)) (by decide +kernel)) dX4_bare_6 ?_
    refine lv_land hx hb dX4_bare_9 ?_
    refine lv_goto (tgt := 14) hx hb dX4_bare_10 (by decide) ?_
    exact rt_l hx hb hr hlocks hP hD hS dX4_bare_14 (by rw [fX4_bare, if_pos c_1])
  · refine lv_lload_n hx hb dX4_bare_13 rfl (lv_at hl 1 rfl) ?_
    exact rt_l hx hb hr hlocks hP hD hS dX4_bare_14 (by rw [fX4_bare, if_neg c_1])
def fX4_asCode (w : Int32) (v : Int64) : Int64 := (if w = (2:Int32) then v.toInt32.toInt64 else v)
set_option maxHeartbeats 4000000 in
set_option maxRecDepth 100000 in
theorem kX4_asCode (l : Launch) (G : GT) (w : Int32) (v : Int64) : CL l yX4_asCode wsX4_asCode { frames := 0, cells := 0, slots := 0, locals := 0 } G [.int w, .long v] [] (fX4_asCode w v) [] := by
  refine en_l (cc := cX4_asCode) (maxL := 3) (ret := (some .long)) (own := RX4) (by decide) rfl rfl (Nat.le_of_ble_eq_true rfl) ?_
  intro p e s m below meth c A ls hx hb hr hts hown hml hlocks hA hK hE hP hD hS hl
  have hl : lv_has ls 3 [(0, .int w), (1, .long v)] := hl
  refine lv_iload_n hx hb dX4_asCode_0 rfl (lv_at hl 0 rfl) ?_
  refine lv_iconst (v := (2:Int32)) hx hb dX4_asCode_1 (by decide) ?_
  refine bi_ne (tgt := 11) hx hb dX4_asCode_2 (by decide) (fun c_1 => ?_) (fun c_1 => ?_)
  · refine lv_lload_n hx hb dX4_asCode_5 rfl (lv_at hl 1 rfl) ?_
    refine r_l2i hx hb dX4_asCode_6 ?_
    refine r_i2l hx hb dX4_asCode_7 ?_
    refine lv_goto (tgt := 12) hx hb dX4_asCode_8 (by decide) ?_
    exact rt_l hx hb hr hlocks hP hD hS dX4_asCode_12 (by rw [fX4_asCode, if_pos c_1])
  · refine lv_lload_n hx hb dX4_asCode_11 rfl (lv_at hl 1 rfl) ?_
    exact rt_l hx hb hr hlocks hP hD hS dX4_asCode_12 (by rw [fX4_asCode, if_neg c_1])
def fX4_size (w : Int32) (v : Int64) : Int64 := ((fX4_bare w v) &&& ((fX4_signBit w) ^^^ (-1:Int64)))
set_option maxHeartbeats 4000000 in
set_option maxRecDepth 100000 in
theorem kX4_size (l : Launch) (G : GT) (w : Int32) (v : Int64) : CL l yX4_size wsX4_size { frames := 1, cells := 0, slots := 0, locals := 22 } G [.int w, .long v] [] (fX4_size w v) [] := by
  refine en_l (cc := cX4_size) (maxL := 3) (ret := (some .long)) (own := RX4) (by decide) rfl rfl (Nat.le_of_ble_eq_true rfl) ?_
  intro p e s m below meth c A ls hx hb hr hts hown hml hlocks hA hK hE hP hD hS hl
  have hl : lv_has ls 3 [(0, .int w), (1, .long v)] := hl
  refine lv_iload_n hx hb dX4_size_0 rfl (lv_at hl 0 rfl) ?_
  refine lv_lload_n hx hb dX4_size_1 rfl (lv_at hl 1 rfl) ?_
  refine cs_l (As := [.int w, .long v]) (rest := []) ⟨hx, hb, hml, hown, hts⟩ (kX4_bare l G w v) (va_cwS 2 hts gX4_size_X4_bare rfl rfl rfl (by decide +kernel) ⟨Nat.le_of_ble_eq_true rfl, Nat.le_of_ble_eq_true rfl⟩) hE hK hP hD hS hA hl.1 [] rfl rfl rfl rfl rfl rfl (Nat.le_of_ble_eq_true rfl) dX4_size_2 ⟨Nat.zero_le _, Nat.zero_le _⟩ (fun H locs hP hD hS => ?_)
  have hP : va_P G.1 vwCl [] H := hP
  have hD : va_D A [] := hD
  refine lv_iload_n hx hb dX4_size_5 rfl (lv_at hl 0 rfl) ?_
  refine cs_l (As := [.int w]) (rest := [.long (fX4_bare w v)]) ⟨hx, hb, hml, hown, hts⟩ (kX4_signBit l G w) (va_cwS 1 hts gX4_size_X4_signBit rfl rfl rfl (by decide +kernel) ⟨Nat.le_of_ble_eq_true rfl, Nat.le_of_ble_eq_true rfl⟩) hE hK hP hD hS hA hl.1 [] rfl rfl rfl rfl rfl rfl (Nat.le_of_ble_eq_true rfl) dX4_size_6 ⟨Nat.zero_le _, Nat.zero_le _⟩ (fun H locs hP hD hS => ?_)
  have hP : va_P G.1 vwCl [] H := hP
  have hD : va_D A [] := hD
  refine lv_ldc2 (v := (-1:Int64)) hx hb hown (hts (.constantLong RX4 85 (-1)) (by decide +kernel)) dX4_size_9 ?_
  refine lv_lxor hx hb dX4_size_12 ?_
  refine lv_land hx hb dX4_size_13 ?_
  exact rt_l hx hb hr hlocks hP hD hS dX4_size_14 (by rw [fX4_size])
def fX4_below (w : Int32) (v : Int64) : Int32 := (if (v &&& (fX4_signBit w)) = (0:Int64) then (0:Int32) else (1:Int32))
set_option maxHeartbeats 4000000 in
set_option maxRecDepth 100000 in
theorem kX4_below (l : Launch) (G : GT) (w : Int32) (v : Int64) : CI l yX4_below wsX4_below { frames := 1, cells := 0, slots := 0, locals := 20 } G [.int w, .long v] [] (fX4_below w v) [] := by
  refine en_i (cc := cX4_below) (maxL := 3) (ret := (some .boolean)) (own := RX4) (by decide) rfl rfl (Nat.le_of_ble_eq_true rfl) ?_
  intro p e s m below meth c A ls hx hb hr hts hown hml hlocks hA hK hE hP hD hS hl
  have hl : lv_has ls 3 [(0, .int w), (1, .long v)] := hl
  refine lv_lload_n hx hb dX4_below_0 rfl (lv_at hl 1 rfl) ?_
  refine lv_iload_n hx hb dX4_below_1 rfl (lv_at hl 0 rfl) ?_
  refine cs_l (As := [.int w]) (rest := [.long v]) ⟨hx, hb, hml, hown, hts⟩ (kX4_signBit l G w) (va_cwS 1 hts gX4_below_X4_signBit rfl rfl rfl (by decide +kernel) ⟨Nat.le_of_ble_eq_true rfl, Nat.le_of_ble_eq_true rfl⟩) hE hK hP hD hS hA hl.1 [] rfl rfl rfl rfl rfl rfl (Nat.le_of_ble_eq_true rfl) dX4_below_2 ⟨Nat.zero_le _, Nat.zero_le _⟩ (fun H locs hP hD hS => ?_)
  have hP : va_P G.1 vwCl [] H := hP
  have hD : va_D A [] := hD
  refine lv_land hx hb dX4_below_5 ?_
  refine lv_lconst (v := (0:Int64)) hx hb dX4_below_6 (by decide) ?_
  refine bl_eq (tgt := 15) hx hb dX4_below_7 dX4_below_8 (by decide) (fun c_1 => ?_) (fun c_1 => ?_)
  · refine lv_iconst (v := (0:Int32)) hx hb dX4_below_15 (by decide) ?_
    exact rt_z hx hb hr hlocks hP hD hS dX4_below_16 (by rw [fX4_below, if_pos c_1]) (z_nar (Or.inl rfl))
  · refine lv_iconst (v := (1:Int32)) hx hb dX4_below_11 (by decide) ?_
    refine lv_goto (tgt := 16) hx hb dX4_below_12 (by decide) ?_
    exact rt_z hx hb hr hlocks hP hD hS dX4_below_16 (by rw [fX4_below, if_neg c_1]) (z_nar (Or.inr rfl))
theorem z_X4_below (w : Int32) (v : Int64) : fX4_below w v = 0 ∨ fX4_below w v = 1 := by
  unfold fX4_below; repeat (first | exact Or.inl rfl | exact Or.inr rfl | split)
def fX4_coded (w : Int32) (hh : Int32) (lo : Int32) : Int64 := (if w = 0 then lo.toInt64 else (if w = (2:Int32) then lo.toInt64 else ((shL hh.toInt64 (32:Int32)) ||| (lo.toInt64 &&& (4294967295:Int64)))))
set_option maxHeartbeats 4000000 in
set_option maxRecDepth 100000 in
theorem kX4_coded (l : Launch) (G : GT) (w : Int32) (hh : Int32) (lo : Int32) : CL l yX4_coded wsX4_coded { frames := 0, cells := 0, slots := 0, locals := 0 } G [.int w, .int hh, .int lo] [] (fX4_coded w hh lo) [] := by
  refine en_l (cc := cX4_coded) (maxL := 3) (ret := (some .long)) (own := RX4) (by decide) rfl rfl (Nat.le_of_ble_eq_true rfl) ?_
  intro p e s m below meth c A ls hx hb hr hts hown hml hlocks hA hK hE hP hD hS hl
  have hl : lv_has ls 3 [(0, .int w), (1, .int hh), (2, .int lo)] := hl
  refine lv_iload_n hx hb dX4_coded_0 rfl (lv_at hl 0 rfl) ?_
  refine bz_eq (tgt := 9) hx hb dX4_coded_1 (by decide) (fun c_1 => ?_) (fun c_1 => ?_)
  · refine lv_iload_n hx hb dX4_coded_9 rfl (lv_at hl 2 rfl) ?_
    refine r_i2l hx hb dX4_coded_10 ?_
    exact rt_l hx hb hr hlocks hP hD hS dX4_coded_11 (by rw [fX4_coded, if_pos c_1])
  · refine lv_iload_n hx hb dX4_coded_4 rfl (lv_at hl 0 rfl) ?_
    refine lv_iconst (v := (2:Int32)) hx hb dX4_coded_5 (by decide) ?_
    refine bi_ne (tgt := 12) hx hb dX4_coded_6 (by decide) (fun c_2 => ?_) (fun c_2 => ?_)
    · refine lv_iload_n hx hb dX4_coded_9 rfl (lv_at hl 2 rfl) ?_
      refine r_i2l hx hb dX4_coded_10 ?_
      exact rt_l hx hb hr hlocks hP hD hS dX4_coded_11 (by rw [fX4_coded, if_neg c_1, if_pos c_2])
    · refine lv_iload_n hx hb dX4_coded_12 rfl (lv_at hl 1 rfl) ?_
      refine r_i2l hx hb dX4_coded_13 ?_
      refine lv_bipush (v := (32:Int32)) hx hb dX4_coded_14 (by decide) ?_
      refine r_lshl hx hb dX4_coded_16 ?_
      refine lv_iload_n hx hb dX4_coded_17 rfl (lv_at hl 2 rfl) ?_
      refine r_i2l hx hb dX4_coded_18 ?_
      refine lv_ldc2 (v := (4294967295:Int64)) hx hb hown (hts (.constantLong RX4 75 (4294967295)) (by decide +kernel)) dX4_coded_19 ?_
      refine lv_land hx hb dX4_coded_22 ?_
      refine lv_lor hx hb dX4_coded_23 ?_
      exact rt_l hx hb hr hlocks hP hD hS dX4_coded_24 (by rw [fX4_coded, if_neg c_1, if_neg c_2])
def fX4_isIll (w : Int32) (v : Int64) : Int32 := (if (1:Int32) < w then (if (fX4_endless w) < (fX4_size w v) then (1:Int32) else (0:Int32)) else (0:Int32))
set_option maxHeartbeats 4000000 in
set_option maxRecDepth 100000 in
theorem kX4_isIll (l : Launch) (G : GT) (w : Int32) (v : Int64) : CI l yX4_isIll wsX4_isIll { frames := 2, cells := 0, slots := 0, locals := 44 } G [.int w, .long v] [] (fX4_isIll w v) [] := by
  refine en_i (cc := cX4_isIll) (maxL := 3) (ret := (some .boolean)) (own := RX4) (by decide) rfl rfl (Nat.le_of_ble_eq_true rfl) ?_
  intro p e s m below meth c A ls hx hb hr hts hown hml hlocks hA hK hE hP hD hS hl
  have hl : lv_has ls 3 [(0, .int w), (1, .long v)] := hl
  refine lv_iload_n hx hb dX4_isIll_0 rfl (lv_at hl 0 rfl) ?_
  refine lv_iconst (v := (1:Int32)) hx hb dX4_isIll_1 (by decide) ?_
  refine bi_le (tgt := 22) hx hb dX4_isIll_2 (by decide) (fun c_1 => ?_) (fun c_1 => ?_)
  · refine lv_iload_n hx hb dX4_isIll_5 rfl (lv_at hl 0 rfl) ?_
    refine lv_lload_n hx hb dX4_isIll_6 rfl (lv_at hl 1 rfl) ?_
    refine cs_l (As := [.int w, .long v]) (rest := []) ⟨hx, hb, hml, hown, hts⟩ (kX4_size l G w v) (va_cwS 2 hts gX4_isIll_X4_size rfl rfl rfl (by decide +kernel) ⟨Nat.le_of_ble_eq_true rfl, Nat.le_of_ble_eq_true rfl⟩) hE hK hP hD hS hA hl.1 [] rfl rfl rfl rfl rfl rfl (Nat.le_of_ble_eq_true rfl) dX4_isIll_7 ⟨Nat.zero_le _, Nat.zero_le _⟩ (fun H locs hP hD hS => ?_)
    have hP : va_P G.1 vwCl [] H := hP
    have hD : va_D A [] := hD
    refine lv_iload_n hx hb dX4_isIll_10 rfl (lv_at hl 0 rfl) ?_
    refine cs_l (As := [.int w]) (rest := [.long (fX4_size w v)]) ⟨hx, hb, hml, hown, hts⟩ (kX4_endless l G w) (va_cwS 1 hts gX4_isIll_X4_endless rfl rfl rfl (by decide +kernel) ⟨Nat.le_of_ble_eq_true rfl, Nat.le_of_ble_eq_true rfl⟩) hE hK hP hD hS hA hl.1 [] rfl rfl rfl rfl rfl rfl (Nat.le_of_ble_eq_true rfl) dX4_isIll_11 ⟨Nat.zero_le _, Nat.zero_le _⟩ (fun H locs hP hD hS => ?_)
    have hP : va_P G.1 vwCl [] H := hP
    have hD : va_D A [] := hD
    refine bl_le (tgt := 22) hx hb dX4_isIll_14 dX4_isIll_15 (by decide) (fun c_2 => ?_) (fun c_2 => ?_)
    · refine lv_iconst (v := (1:Int32)) hx hb dX4_isIll_18 (by decide) ?_
      refine lv_goto (tgt := 23) hx hb dX4_isIll_19 (by decide) ?_
      exact rt_z hx hb hr hlocks hP hD hS dX4_isIll_23 (by rw [fX4_isIll, if_pos c_1, if_pos c_2]) (z_nar (Or.inr rfl))
    · refine lv_iconst (v := (0:Int32)) hx hb dX4_isIll_22 (by decide) ?_
      exact rt_z hx hb hr hlocks hP hD hS dX4_isIll_23 (by rw [fX4_isIll, if_pos c_1, if_neg c_2]) (z_nar (Or.inl rfl))
  · refine lv_iconst (v := (0:Int32)) hx hb dX4_isIll_22 (by decide) ?_
    exact rt_z hx hb hr hlocks hP hD hS dX4_isIll_23 (by rw [fX4_isIll, if_neg c_1]) (z_nar (Or.inl rfl))
theorem z_X4_isIll (w : Int32) (v : Int64) : fX4_isIll w v = 0 ∨ fX4_isIll w v = 1 := by
  unfold fX4_isIll; repeat (first | exact Or.inl rfl | exact Or.inr rfl | split)
def fX4_order_96 (w : Int32) (a : Int64) (y_6 : Int32) : Int32 := (if (fX4_below w a) = 0 then (if y_6 = (1:Int32) then (-1:Int32) else (1:Int32)) else (if y_6 = (0:Int32) then (-1:Int32) else (1:Int32)))
def fX4_order (w : Int32) (a : Int64) (b : Int64) : Int32 := (if w < (2:Int32) then (if a < b then (-1:Int32) else (if a = b then (0:Int32) else (1:Int32))) else (if (fX4_below w a) = (fX4_below w b) then (if (fX4_size w a) = (fX4_size w b) then (0:Int32) else (fX4_order_96 w a (if (fX4_size w a) < (fX4_size w b) then (1:Int32) else (0:Int32)))) else (if (fX4_below w a) = 0 then (1:Int32) else (-1:Int32))))
set_option maxHeartbeats 4000000 in
set_option maxRecDepth 100000 in
theorem kX4_order (l : Launch) (G : GT) (w : Int32) (a : Int64) (b : Int64) : CI l yX4_order wsX4_order { frames := 2, cells := 0, slots := 0, locals := 44 } G [.int w, .long a, .long b] [] (fX4_order w a b) [] := by
  refine en_i (cc := cX4_order) (maxL := 11) (ret := (some .int)) (own := RX4) (by decide) rfl rfl (Nat.le_of_ble_eq_true rfl) ?_
  intro p e s m below meth c A ls hx hb hr hts hown hml hlocks hA hK hE hP hD hS hl
  have hl : lv_has ls 11 [(0, .int w), (1, .long a), (3, .long b)] := hl
  refine lv_iload_n hx hb dX4_order_0 rfl (lv_at hl 0 rfl) ?_
  refine lv_iconst (v := (2:Int32)) hx hb dX4_order_1 (by decide) ?_
  refine bi_ge (tgt := 27) hx hb dX4_order_2 (by decide) (fun c_1 => ?_) (fun c_1 => ?_)
  · refine lv_lload_n hx hb dX4_order_5 rfl (lv_at hl 1 rfl) ?_
    refine lv_lload_n hx hb dX4_order_6 rfl (lv_at hl 2 rfl) ?_
    refine bl_ge (tgt := 15) hx hb dX4_order_7 dX4_order_8 (by decide) (fun c_2 => ?_) (fun c_2 => ?_)
    · refine lv_iconst (v := (-1:Int32)) hx hb dX4_order_11 (by decide) ?_
      refine lv_goto (tgt := 26) hx hb dX4_order_12 (by decide) ?_
      exact rt_i hx hb hr hlocks hP hD hS dX4_order_26 (by rw [fX4_order, if_pos c_1, if_pos c_2])
    · refine lv_lload_n hx hb dX4_order_15 rfl (lv_at hl 1 rfl) ?_
      refine lv_lload_n hx hb dX4_order_16 rfl (lv_at hl 2 rfl) ?_
      refine bl_ne (tgt := 25) hx hb dX4_order_17 dX4_order_18 (by decide) (fun c_3 => ?_) (fun c_3 => ?_)
      · refine lv_iconst (v := (0:Int32)) hx hb dX4_order_21 (by decide) ?_
        refine lv_goto (tgt := 26) hx hb dX4_order_22 (by decide) ?_
        exact rt_i hx hb hr hlocks hP hD hS dX4_order_26 (by rw [fX4_order, if_pos c_1, if_neg c_2, if_pos c_3])
      · refine lv_iconst (v := (1:Int32)) hx hb dX4_order_25 (by decide) ?_
        exact rt_i hx hb hr hlocks hP hD hS dX4_order_26 (by rw [fX4_order, if_pos c_1, if_neg c_2, if_neg c_3])
  · refine lv_iload_n hx hb dX4_order_27 rfl (lv_at hl 0 rfl) ?_
    refine lv_lload_n hx hb dX4_order_28 rfl (lv_at hl 1 rfl) ?_
    refine cs_i (As := [.int w, .long a]) (rest := []) ⟨hx, hb, hml, hown, hts⟩ (kX4_below l G w a) (va_cwS 2 hts gX4_order_X4_below rfl rfl rfl (by decide +kernel) ⟨Nat.le_of_ble_eq_true rfl, Nat.le_of_ble_eq_true rfl⟩) hE hK hP hD hS hA hl.1 [] rfl rfl rfl rfl rfl rfl (Nat.le_of_ble_eq_true rfl) dX4_order_29 ⟨Nat.zero_le _, Nat.zero_le _⟩ (fun H locs hP hD hS => ?_)
    have hP : va_P G.1 vwCl [] H := hP
    have hD : va_D A [] := hD
    refine lv_istore (lv' := [(5, .int (fX4_below w a)), (0, .int w), (1, .long a), (3, .long b)]) hx hb dX4_order_32 hl (by decide) rfl (fun ls hl => ?_)
    refine lv_iload_n hx hb dX4_order_34 rfl (lv_at hl 1 rfl) ?_
    refine lv_lload_n hx hb dX4_order_35 rfl (lv_at hl 3 rfl) ?_
    refine cs_i (As := [.int w, .long b]) (rest := []) ⟨hx, hb, hml, hown, hts⟩ (kX4_below l G w b) (va_cwS 2 hts gX4_order_X4_below rfl rfl rfl (by decide +kernel) ⟨Nat.le_of_ble_eq_true rfl, Nat.le_of_ble_eq_true rfl⟩) hE hK hP hD hS hA hl.1 [] rfl rfl rfl rfl rfl rfl (Nat.le_of_ble_eq_true rfl) dX4_order_36 ⟨Nat.zero_le _, Nat.zero_le _⟩ (fun H locs hP hD hS => ?_)
    have hP : va_P G.1 vwCl [] H := hP
    have hD : va_D A [] := hD
    refine lv_istore (lv' := [(6, .int (fX4_below w b)), (5, .int (fX4_below w a)), (0, .int w), (1, .long a), (3, .long b)]) hx hb dX4_order_39 hl (by decide) rfl (fun ls hl => ?_)
    refine lv_iload hx hb dX4_order_41 (lv_at hl 1 rfl) ?_
    refine lv_iload hx hb dX4_order_43 (lv_at hl 0 rfl) ?_
    refine bi_eq (tgt := 59) hx hb dX4_order_45 (by decide) (fun c_4 => ?_) (fun c_4 => ?_)
    · refine lv_iload_n hx hb dX4_order_59 rfl (lv_at hl 2 rfl) ?_
      refine lv_lload_n hx hb dX4_order_60 rfl (lv_at hl 3 rfl) ?_
      refine cs_l (As := [.int w, .long a]) (rest := []) ⟨hx, hb, hml, hown, hts⟩ (kX4_size l G w a) (va_cwS 2 hts gX4_order_X4_size rfl rfl rfl (by decide +kernel) ⟨Nat.le_of_ble_eq_true rfl, Nat.le_of_ble_eq_true rfl⟩) hE hK hP hD hS hA hl.1 [] rfl rfl rfl rfl rfl rfl (Nat.le_of_ble_eq_true rfl) dX4_order_61 ⟨Nat.zero_le _, Nat.zero_le _⟩ (fun H locs hP hD hS => ?_)
      have hP : va_P G.1 vwCl [] H := hP
      have hD : va_D A [] := hD
      refine lv_lstore (lv' := [(7, .long (fX4_size w a)), (6, .int (fX4_below w b)), (5, .int (fX4_below w a)), (0, .int w), (1, .long a), (3, .long b)]) hx hb dX4_order_64 hl (by decide) rfl (fun ls hl => ?_)
      refine lv_iload_n hx hb dX4_order_66 rfl (lv_at hl 3 rfl) ?_
      refine lv_lload_n hx hb dX4_order_67 rfl (lv_at hl 5 rfl) ?_
      refine cs_l (As := [.int w, .long b]) (rest := []) ⟨hx, hb, hml, hown, hts⟩ (kX4_size l G w b) (va_cwS 2 hts gX4_order_X4_size rfl rfl rfl (by decide +kernel) ⟨Nat.le_of_ble_eq_true rfl, Nat.le_of_ble_eq_true rfl⟩) hE hK hP hD hS hA hl.1 [] rfl rfl rfl rfl rfl rfl (Nat.le_of_ble_eq_true rfl) dX4_order_68 ⟨Nat.zero_le _, Nat.zero_le _⟩ (fun H locs hP hD hS => ?_)
      have hP : va_P G.1 vwCl [] H := hP
      have hD : va_D A [] := hD
      refine lv_lstore (lv' := [(9, .long (fX4_size w b)), (7, .long (fX4_size w a)), (6, .int (fX4_below w b)), (5, .int (fX4_below w a)), (0, .int w), (1, .long a), (3, .long b)]) hx hb dX4_order_71 hl (by decide) rfl (fun ls hl => ?_)
      refine lv_lload hx hb dX4_order_73 (lv_at hl 1 rfl) ?_
      refine lv_lload hx hb dX4_order_75 (lv_at hl 0 rfl) ?_
      refine bl_ne (tgt := 83) hx hb dX4_order_77 dX4_order_78 (by decide) (fun c_5 => ?_) (fun c_5 => ?_)
      · refine lv_iconst (v := (0:Int32)) hx hb dX4_order_81 (by decide) ?_
        exact rt_i hx hb hr hlocks hP hD hS dX4_order_82 (by rw [fX4_order, if_neg c_1, if_pos c_4, if_pos c_5])
      · refine lv_lload hx hb dX4_order_83 (lv_at hl 1 rfl) ?_
        refine lv_lload hx hb dX4_order_85 (lv_at hl 0 rfl) ?_
        refine jn_1 (T := Int32) G A (if (fX4_size w a) < (fX4_size w b) then (1:Int32) else (0:Int32)) [] 11 (fun y => [(5, .int (fX4_below w a))]) (fun y => [.int y]) 96 ?_ ?_
        · intro y_6 ey_6 H locs ls hP hD hS hl
          have hr_8 : fX4_order w a b = fX4_order_96 w a y_6 := by rw [ey_6, fX4_order, if_neg c_1, if_pos c_4, if_neg c_5]
          refine lv_iload hx hb dX4_order_96 (lv_at hl 0 rfl) ?_
          refine bz_ne (tgt := 105) hx hb dX4_order_98 (by decide) (fun c_9 => ?_) (fun c_9 => ?_)
          · refine lv_iconst (v := (1:Int32)) hx hb dX4_order_101 (by decide) ?_
            refine lv_goto (tgt := 106) hx hb dX4_order_102 (by decide) ?_
            refine bi_ne (tgt := 113) hx hb dX4_order_106 (by decide) (fun c_10 => ?_) (fun c_10 => ?_)
            · refine lv_iconst (v := (-1:Int32)) hx hb dX4_order_109 (by decide) ?_
              refine lv_goto (tgt := 114) hx hb dX4_order_110 (by decide) ?_
              exact rt_i hx hb hr hlocks hP hD hS dX4_order_114 (by rw [hr_8, fX4_order_96, if_pos c_9, if_pos c_10])
            · refine lv_iconst (v := (1:Int32)) hx hb dX4_order_113 (by decide) ?_
              exact rt_i hx hb hr hlocks hP hD hS dX4_order_114 (by rw [hr_8, fX4_order_96, if_pos c_9, if_neg c_10])
          · refine lv_iconst (v := (0:Int32)) hx hb dX4_order_105 (by decide) ?_
            refine bi_ne (tgt := 113) hx hb dX4_order_106 (by decide) (fun c_11 => ?_) (fun c_11 => ?_)
            · refine lv_iconst (v := (-1:Int32)) hx hb dX4_order_109 (by decide) ?_
              refine lv_goto (tgt := 114) hx hb dX4_order_110 (by decide) ?_
              exact rt_i hx hb hr hlocks hP hD hS dX4_order_114 (by rw [hr_8, fX4_order_96, if_neg c_9, if_pos c_11])
            · refine lv_iconst (v := (1:Int32)) hx hb dX4_order_113 (by decide) ?_
              exact rt_i hx hb hr hlocks hP hD hS dX4_order_114 (by rw [hr_8, fX4_order_96, if_neg c_9, if_neg c_11])
        · intro kj_6
          refine bl_ge (tgt := 95) hx hb dX4_order_87 dX4_order_88 (by decide) (fun c_7 => ?_) (fun c_7 => ?_)
          · refine lv_iconst (v := (1:Int32)) hx hb dX4_order_91 (by decide) ?_
            refine lv_goto (tgt := 96) hx hb dX4_order_92 (by decide) ?_
            exact kj_6 (1:Int32) (by rw [if_pos c_7]) H locs ls hP hD hS (lv_sub hl [3] rfl)
          · refine lv_iconst (v := (0:Int32)) hx hb dX4_order_95 (by decide) ?_
            exact kj_6 (0:Int32) (by rw [if_neg c_7]) H locs ls hP hD hS (lv_sub hl [3] rfl)
    · refine lv_iload hx hb dX4_order_48 (lv_at hl 1 rfl) ?_
      refine bz_eq (tgt := 57) hx hb dX4_order_50 (by decide) (fun c_12 => ?_) (fun c_12 => ?_)
      · refine lv_iconst (v := (1:Int32)) hx hb dX4_order_57 (by decide) ?_
        exact rt_i hx hb hr hlocks hP hD hS dX4_order_58 (by rw [fX4_order, if_neg c_1, if_neg c_4, if_pos c_12])
      · refine lv_iconst (v := (-1:Int32)) hx hb dX4_order_53 (by decide) ?_
        refine lv_goto (tgt := 58) hx hb dX4_order_54 (by decide) ?_
        exact rt_i hx hb hr hlocks hP hD hS dX4_order_58 (by rw [fX4_order, if_neg c_1, if_neg c_4, if_neg c_12])
def fX4_negative (w : Int32) (v : Int64) : Int64 := (if w = 0 then (-v.toInt32).toInt64 else (if w = (1:Int32) then (-v) else (fX4_asCode w ((fX4_bare w v) ^^^ (fX4_signBit w)))))
set_option maxHeartbeats 4000000 in
set_option maxRecDepth 100000 in
theorem kX4_negative (l : Launch) (G : GT) (w : Int32) (v : Int64) : CL l yX4_negative wsX4_negative { frames := 1, cells := 0, slots := 0, locals := 22 } G [.int w, .long v] [] (fX4_negative w v) [] := by
  refine en_l (cc := cX4_negative) (maxL := 3) (ret := (some .long)) (own := RX4) (by decide) rfl rfl (Nat.le_of_ble_eq_true rfl) ?_
  intro p e s m below meth c A ls hx hb hr hts hown hml hlocks hA hK hE hP hD hS hl
  have hl : lv_has ls 3 [(0, .int w), (1, .long v)] := hl
  refine lv_iload_n hx hb dX4_negative_0 rfl (lv_at hl 0 rfl) ?_
  refine bz_ne (tgt := 9) hx hb dX4_negative_1 (by decide) (fun c_1 => ?_) (fun c_1 => ?_)
  · refine lv_lload_n hx hb dX4_negative_4 rfl (lv_at hl 1 rfl) ?_
    refine r_l2i hx hb dX4_negative_5 ?_
    refine lv_ineg hx hb dX4_negative_6 ?_
    refine r_i2l hx hb dX4_negative_7 ?_
    exact rt_l hx hb hr hlocks hP hD hS dX4_negative_8 (by rw [fX4_negative, if_pos c_1])
  · refine lv_iload_n hx hb dX4_negative_9 rfl (lv_at hl 0 rfl) ?_
    refine lv_iconst (v := (1:Int32)) hx hb dX4_negative_10 (by decide) ?_
    refine bi_ne (tgt := 19) hx hb dX4_negative_11 (by decide) (fun c_2 => ?_) (fun c_2 => ?_)
    · refine lv_lload_n hx hb dX4_negative_14 rfl (lv_at hl 1 rfl) ?_
      refine lv_lneg hx hb dX4_negative_15 ?_
      refine lv_goto (tgt := 33) hx hb dX4_negative_16 (by decide) ?_
      exact rt_l hx hb hr hlocks hP hD hS dX4_negative_33 (by rw [fX4_negative, if_neg c_1, if_pos c_2])
    · refine lv_iload_n hx hb dX4_negative_19 rfl (lv_at hl 0 rfl) ?_
      refine lv_iload_n hx hb dX4_negative_20 rfl (lv_at hl 0 rfl) ?_
      refine lv_lload_n hx hb dX4_negative_21 rfl (lv_at hl 1 rfl) ?_
      refine cs_l (As := [.int w, .long v]) (rest := [.int w]) ⟨hx, hb, hml, hown, hts⟩ (kX4_bare l G w v) (va_cwS 2 hts gX4_negative_X4_bare rfl rfl rfl (by decide +kernel) ⟨Nat.le_of_ble_eq_true rfl, Nat.le_of_ble_eq_true rfl⟩) hE hK hP hD hS hA hl.1 [] rfl rfl rfl rfl rfl rfl (Nat.le_of_ble_eq_true rfl) dX4_negative_22 ⟨Nat.zero_le _, Nat.zero_le _⟩ (fun H locs hP hD hS => ?_)
      have hP : va_P G.1 vwCl [] H := hP
      have hD : va_D A [] := hD
      refine lv_iload_n hx hb dX4_negative_25 rfl (lv_at hl 0 rfl) ?_
      refine cs_l (As := [.int w]) (rest := [.long (fX4_bare w v), .int w]) ⟨hx, hb, hml, hown, hts⟩ (kX4_signBit l G w) (va_cwS 1 hts gX4_negative_X4_signBit rfl rfl rfl (by decide +kernel) ⟨Nat.le_of_ble_eq_true rfl, Nat.le_of_ble_eq_true rfl⟩) hE hK hP hD hS hA hl.1 [] rfl rfl rfl rfl rfl rfl (Nat.le_of_ble_eq_true rfl) dX4_negative_26 ⟨Nat.zero_le _, Nat.zero_le _⟩ (fun H locs hP hD hS => ?_)
      have hP : va_P G.1 vwCl [] H := hP
      have hD : va_D A [] := hD
      refine lv_lxor hx hb dX4_negative_29 ?_
      refine cs_l (As := [.int w, .long ((fX4_bare w v) ^^^ (fX4_signBit w))]) (rest := []) ⟨hx, hb, hml, hown, hts⟩ (kX4_asCode l G w ((fX4_bare w v) ^^^ (fX4_signBit w))) (va_cwS 2 hts gX4_negative_X4_asCode rfl rfl rfl (by decide +kernel) ⟨Nat.le_of_ble_eq_true rfl, Nat.le_of_ble_eq_true rfl⟩) hE hK hP hD hS hA hl.1 [] rfl rfl rfl rfl rfl rfl (Nat.le_of_ble_eq_true rfl) dX4_negative_30 ⟨Nat.zero_le _, Nat.zero_le _⟩ (fun H locs hP hD hS => ?_)
      have hP : va_P G.1 vwCl [] H := hP
      have hD : va_D A [] := hD
      exact rt_l hx hb hr hlocks hP hD hS dX4_negative_33 (by rw [fX4_negative, if_neg c_1, if_neg c_2])
def fX4_upright (w : Int32) (v : Int64) : Int64 := (if w < (2:Int32) then (if v < (0:Int64) then (fX4_negative w v) else v) else (fX4_asCode w (fX4_size w v)))
set_option maxHeartbeats 4000000 in
set_option maxRecDepth 100000 in
theorem kX4_upright (l : Launch) (G : GT) (w : Int32) (v : Int64) : CL l yX4_upright wsX4_upright { frames := 2, cells := 0, slots := 0, locals := 44 } G [.int w, .long v] [] (fX4_upright w v) [] := by
  refine en_l (cc := cX4_upright) (maxL := 3) (ret := (some .long)) (own := RX4) (by decide) rfl rfl (Nat.le_of_ble_eq_true rfl) ?_
  intro p e s m below meth c A ls hx hb hr hts hown hml hlocks hA hK hE hP hD hS hl
  have hl : lv_has ls 3 [(0, .int w), (1, .long v)] := hl
  refine lv_iload_n hx hb dX4_upright_0 rfl (lv_at hl 0 rfl) ?_
  refine lv_iconst (v := (2:Int32)) hx hb dX4_upright_1 (by decide) ?_
  refine bi_ge (tgt := 21) hx hb dX4_upright_2 (by decide) (fun c_1 => ?_) (fun c_1 => ?_)
  · refine lv_lload_n hx hb dX4_upright_5 rfl (lv_at hl 1 rfl) ?_
    refine lv_lconst (v := (0:Int64)) hx hb dX4_upright_6 (by decide) ?_
    refine bl_ge (tgt := 19) hx hb dX4_upright_7 dX4_upright_8 (by decide) (fun c_2 => ?_) (fun c_2 => ?_)
    · refine lv_iload_n hx hb dX4_upright_11 rfl (lv_at hl 0 rfl) ?_
      refine lv_lload_n hx hb dX4_upright_12 rfl (lv_at hl 1 rfl) ?_
      refine cs_l (As := [.int w, .long v]) (rest := []) ⟨hx, hb, hml, hown, hts⟩ (kX4_negative l G w v) (va_cwS 2 hts gX4_upright_X4_negative rfl rfl rfl (by decide +kernel) ⟨Nat.le_of_ble_eq_true rfl, Nat.le_of_ble_eq_true rfl⟩) hE hK hP hD hS hA hl.1 [] rfl rfl rfl rfl rfl rfl (Nat.le_of_ble_eq_true rfl) dX4_upright_13 ⟨Nat.zero_le _, Nat.zero_le _⟩ (fun H locs hP hD hS => ?_)
      have hP : va_P G.1 vwCl [] H := hP
      have hD : va_D A [] := hD
      refine lv_goto (tgt := 20) hx hb dX4_upright_16 (by decide) ?_
      exact rt_l hx hb hr hlocks hP hD hS dX4_upright_20 (by rw [fX4_upright, if_pos c_1, if_pos c_2])
    · refine lv_lload_n hx hb dX4_upright_19 rfl (lv_at hl 1 rfl) ?_
      exact rt_l hx hb hr hlocks hP hD hS dX4_upright_20 (by rw [fX4_upright, if_pos c_1, if_neg c_2])
  · refine lv_iload_n hx hb dX4_upright_21 rfl (lv_at hl 0 rfl) ?_
    refine lv_iload_n hx hb dX4_upright_22 rfl (lv_at hl 0 rfl) ?_
    refine lv_lload_n hx hb dX4_upright_23 rfl (lv_at hl 1 rfl) ?_
    refine cs_l (As := [.int w, .long v]) (rest := [.int w]) ⟨hx, hb, hml, hown, hts⟩ (kX4_size l G w v) (va_cwS 2 hts gX4_upright_X4_size rfl rfl rfl (by decide +kernel) ⟨Nat.le_of_ble_eq_true rfl, Nat.le_of_ble_eq_true rfl⟩) hE hK hP hD hS hA hl.1 [] rfl rfl rfl rfl rfl rfl (Nat.le_of_ble_eq_true rfl) dX4_upright_24 ⟨Nat.zero_le _, Nat.zero_le _⟩ (fun H locs hP hD hS => ?_)
    have hP : va_P G.1 vwCl [] H := hP
    have hD : va_D A [] := hD
    refine cs_l (As := [.int w, .long (fX4_size w v)]) (rest := []) ⟨hx, hb, hml, hown, hts⟩ (kX4_asCode l G w (fX4_size w v)) (va_cwS 2 hts gX4_upright_X4_asCode rfl rfl rfl (by decide +kernel) ⟨Nat.le_of_ble_eq_true rfl, Nat.le_of_ble_eq_true rfl⟩) hE hK hP hD hS hA hl.1 [] rfl rfl rfl rfl rfl rfl (Nat.le_of_ble_eq_true rfl) dX4_upright_27 ⟨Nat.zero_le _, Nat.zero_le _⟩ (fun H locs hP hD hS => ?_)
    have hP : va_P G.1 vwCl [] H := hP
    have hD : va_D A [] := hD
    exact rt_l hx hb hr hlocks hP hD hS dX4_upright_30 (by rw [fX4_upright, if_neg c_1])
def fX4_whole_144 (w : Int32) (y_6 : Int64) (y_9 : Int64) (y_13 : Int32) : Int64 := (if y_13 = 0 then (fX4_asCode w (y_6 ||| (0:Int64))) else (fX4_asCode w (y_6 ||| y_9)))
def fX4_whole_271 (w : Int32) (v : Int64) (y_1 : Int32) (y_6 : Int64) (y_25 : Int32) : Int64 := (if y_25 = 0 then (fX4_asCode w (y_6 ||| (((fX4_size w v) - ((fX4_size w v) &&& ((shL (1:Int64) ((fX4_fractionBits w) - ((shR (fX4_size w v) (fX4_fractionBits w)).toInt32 - y_1))) - (1:Int64)))) + (0:Int64)))) else (fX4_asCode w (y_6 ||| (((fX4_size w v) - ((fX4_size w v) &&& ((shL (1:Int64) ((fX4_fractionBits w) - ((shR (fX4_size w v) (fX4_fractionBits w)).toInt32 - y_1))) - (1:Int64)))) + (shL (1:Int64) ((fX4_fractionBits w) - ((shR (fX4_size w v) (fX4_fractionBits w)).toInt32 - y_1)))))))
def fX4_whole_207 (w : Int32) (v : Int64) (how : Int32) (y_1 : Int32) (y_6 : Int64) (y_22 : Int32) : Int64 := (fX4_whole_271 w v y_1 y_6 (if how = (5:Int32) then (if (shL (1:Int64) ((fX4_fractionBits w) - ((shR (fX4_size w v) (fX4_fractionBits w)).toInt32 - y_1))) < ((2:Int64) * ((fX4_size w v) &&& ((shL (1:Int64) ((fX4_fractionBits w) - ((shR (fX4_size w v) (fX4_fractionBits w)).toInt32 - y_1))) - (1:Int64)))) then (1:Int32) else (if ((2:Int64) * ((fX4_size w v) &&& ((shL (1:Int64) ((fX4_fractionBits w) - ((shR (fX4_size w v) (fX4_fractionBits w)).toInt32 - y_1))) - (1:Int64)))) = (shL (1:Int64) ((fX4_fractionBits w) - ((shR (fX4_size w v) (fX4_fractionBits w)).toInt32 - y_1))) then (if y_22 = 0 then (0:Int32) else (1:Int32)) else (0:Int32))) else (if (fX4_below w v) = (if how = (3:Int32) then (1:Int32) else (0:Int32)) then (1:Int32) else (0:Int32))))
def fX4_whole_87 (w : Int32) (v : Int64) (how : Int32) (y_1 : Int32) (y_6 : Int64) (y_9 : Int64) : Int64 := (if ((shR (fX4_size w v) (fX4_fractionBits w)).toInt32 - y_1) < 0 then (fX4_whole_144 w y_6 y_9 (if how = (5:Int32) then (if (y_9 - (shL (1:Int64) (fX4_fractionBits w))) < (fX4_size w v) then (1:Int32) else (0:Int32)) else (if (fX4_below w v) = (if how = (3:Int32) then (1:Int32) else (0:Int32)) then (1:Int32) else (0:Int32)))) else (if ((fX4_size w v) &&& ((shL (1:Int64) ((fX4_fractionBits w) - ((shR (fX4_size w v) (fX4_fractionBits w)).toInt32 - y_1))) - (1:Int64))) = (0:Int64) then v else (fX4_whole_207 w v how y_1 y_6 (if ((fX4_size w v) &&& (shL (1:Int64) ((fX4_fractionBits w) - ((shR (fX4_size w v) (fX4_fractionBits w)).toInt32 - y_1)))) = (0:Int64) then (0:Int32) else (1:Int32)))))
def fX4_whole_71 (w : Int32) (v : Int64) (how : Int32) (y_1 : Int32) (y_6 : Int64) : Int64 := (fX4_whole_87 w v how y_1 y_6 (if w = (2:Int32) then (1065353216:Int64) else (4607182418800017408:Int64)))
def fX4_whole_32 (w : Int32) (v : Int64) (how : Int32) (y_1 : Int32) : Int64 := (if (fX4_size w v) = (0:Int64) then v else (if ((shR (fX4_size w v) (fX4_fractionBits w)).toInt32 - y_1) < (fX4_fractionBits w) then (fX4_whole_71 w v how y_1 (if (fX4_below w v) = 0 then (0:Int64) else (fX4_signBit w))) else v))
def fX4_whole (w : Int32) (v : Int64) (how : Int32) : Int64 := (fX4_whole_32 w v how (if w = (2:Int32) then (127:Int32) else (1023:Int32)))
set_option maxHeartbeats 4000000 in
set_option maxRecDepth 100000 in
theorem kX4_whole (l : Launch) (G : GT) (w : Int32) (v : Int64) (how : Int32) : CL l yX4_whole wsX4_whole { frames := 2, cells := 0, slots := 0, locals := 44 } G [.int w, .long v, .int how] [] (fX4_whole w v how) [] := by
  refine en_l (cc := cX4_whole) (maxL := 19) (ret := (some .long)) (own := RX4) (by decide) rfl rfl (Nat.le_of_ble_eq_true rfl) ?_
  intro p e s m below meth c A ls hx hb hr hts hown hml hlocks hA hK hE hP hD hS hl
  have hl : lv_has ls 19 [(0, .int w), (1, .long v), (3, .int how)] := hl
  refine lv_iload_n hx hb dX4_whole_0 rfl (lv_at hl 0 rfl) ?_
  refine lv_lload_n hx hb dX4_whole_1 rfl (lv_at hl 1 rfl) ?_
  refine cs_l (As := [.int w, .long v]) (rest := []) ⟨hx, hb, hml, hown, hts⟩ (kX4_size l G w v) (va_cwS 2 hts gX4_whole_X4_size rfl rfl rfl (by decide +kernel) ⟨Nat.le_of_ble_eq_true rfl, Nat.le_of_ble_eq_true rfl⟩) hE hK hP hD hS hA hl.1 [] rfl rfl rfl rfl rfl rfl (Nat.le_of_ble_eq_true rfl) dX4_whole_2 ⟨Nat.zero_le _, Nat.zero_le _⟩ (fun H locs hP hD hS => ?_)
  have hP : va_P G.1 vwCl [] H := hP
  have hD : va_D A [] := hD
  refine lv_lstore (lv' := [(4, .long (fX4_size w v)), (0, .int w), (1, .long v), (3, .int how)]) hx hb dX4_whole_5 hl (by decide) rfl (fun ls hl => ?_)
  refine lv_iload_n hx hb dX4_whole_7 rfl (lv_at hl 1 rfl) ?_
  refine cs_i (As := [.int w]) (rest := []) ⟨hx, hb, hml, hown, hts⟩ (kX4_fractionBits l G w) (va_cwS 1 hts gX4_whole_X4_fractionBits rfl rfl rfl (by decide +kernel) ⟨Nat.le_of_ble_eq_true rfl, Nat.le_of_ble_eq_true rfl⟩) hE hK hP hD hS hA hl.1 [] rfl rfl rfl rfl rfl rfl (Nat.le_of_ble_eq_true rfl) dX4_whole_8 ⟨Nat.zero_le _, Nat.zero_le _⟩ (fun H locs hP hD hS => ?_)
  have hP : va_P G.1 vwCl [] H := hP
  have hD : va_D A [] := hD
  refine lv_istore (lv' := [(6, .int (fX4_fractionBits w)), (4, .long (fX4_size w v)), (0, .int w), (1, .long v), (3, .int how)]) hx hb dX4_whole_11 hl (by decide) rfl (fun ls hl => ?_)
  refine lv_lload hx hb dX4_whole_13 (lv_at hl 1 rfl) ?_
  refine lv_iload hx hb dX4_whole_15 (lv_at hl 0 rfl) ?_
  refine r_lshr hx hb dX4_whole_17 ?_
  refine r_l2i hx hb dX4_whole_18 ?_
  refine lv_iload_n hx hb dX4_whole_19 rfl (lv_at hl 2 rfl) ?_
  refine lv_iconst (v := (2:Int32)) hx hb dX4_whole_20 (by decide) ?_
  refine jn_1 (T := Int32) G A (if w = (2:Int32) then (127:Int32) else (1023:Int32)) [] 19 (fun y => [(0, .int w), (1, .long v), (3, .int how), (4, .long (fX4_size w v)), (6, .int (fX4_fractionBits w))]) (fun y => [.int y, .int ((shR (fX4_size w v) (fX4_fractionBits w)).toInt32)]) 32 ?_ ?_
  · intro y_1 ey_1 H locs ls hP hD hS hl
    have hr_3 : fX4_whole w v how = fX4_whole_32 w v how y_1 := by rw [ey_1, fX4_whole]
    refine lv_isub hx hb dX4_whole_32 ?_
    refine lv_istore (lv' := [(7, .int ((shR (fX4_size w v) (fX4_fractionBits w)).toInt32 - y_1)), (0, .int w), (1, .long v), (3, .int how), (4, .long (fX4_size w v)), (6, .int (fX4_fractionBits w))]) hx hb dX4_whole_33 hl (by decide) rfl (fun ls hl => ?_)
    refine lv_lload hx hb dX4_whole_35 (lv_at hl 4 rfl) ?_
    refine lv_lconst (v := (0:Int64)) hx hb dX4_whole_37 (by decide) ?_
    refine bl_eq (tgt := 49) hx hb dX4_whole_38 dX4_whole_39 (by decide) (fun c_4 => ?_) (fun c_4 => ?_)
    · refine lv_lload_n hx hb dX4_whole_49 rfl (lv_at hl 2 rfl) ?_
      exact rt_l hx hb hr hlocks hP hD hS dX4_whole_50 (by rw [hr_3, fX4_whole_32, if_pos c_4])
    · refine lv_iload hx hb dX4_whole_42 (lv_at hl 0 rfl) ?_
      refine lv_iload hx hb dX4_whole_44 (lv_at hl 5 rfl) ?_
      refine bi_lt (tgt := 51) hx hb dX4_whole_46 (by decide) (fun c_5 => ?_) (fun c_5 => ?_)
      · refine lv_iload_n hx hb dX4_whole_51 rfl (lv_at hl 1 rfl) ?_
        refine lv_lload_n hx hb dX4_whole_52 rfl (lv_at hl 2 rfl) ?_
        refine cs_i (As := [.int w, .long v]) (rest := []) ⟨hx, hb, hml, hown, hts⟩ (kX4_below l G w v) (va_cwS 2 hts gX4_whole_X4_below rfl rfl rfl (by decide +kernel) ⟨Nat.le_of_ble_eq_true rfl, Nat.le_of_ble_eq_true rfl⟩) hE hK hP hD hS hA hl.1 [] rfl rfl rfl rfl rfl rfl (Nat.le_of_ble_eq_true rfl) dX4_whole_53 ⟨Nat.zero_le _, Nat.zero_le _⟩ (fun H locs hP hD hS => ?_)
        have hP : va_P G.1 vwCl [] H := hP
        have hD : va_D A [] := hD
        refine lv_istore (lv' := [(8, .int (fX4_below w v)), (7, .int ((shR (fX4_size w v) (fX4_fractionBits w)).toInt32 - y_1)), (0, .int w), (1, .long v), (3, .int how), (4, .long (fX4_size w v)), (6, .int (fX4_fractionBits w))]) hx hb dX4_whole_56 hl (by decide) rfl (fun ls hl => ?_)
        refine lv_iload hx hb dX4_whole_58 (lv_at hl 0 rfl) ?_
        refine jn_1 (T := Int64) G A (if (fX4_below w v) = 0 then (0:Int64) else (fX4_signBit w)) [] 19 (fun y => [(0, .int w), (1, .long v), (3, .int how), (4, .long (fX4_size w v)), (6, .int (fX4_fractionBits w)), (7, .int ((shR (fX4_size w v) (fX4_fractionBits w)).toInt32 - y_1)), (8, .int (fX4_below w v))]) (fun y => [.long y]) 71 ?_ ?_
        · intro y_6 ey_6 H locs ls hP hD hS hl
          have hr_8 : fX4_whole w v how = fX4_whole_71 w v how y_1 y_6 := by rw [ey_6, hr_3, fX4_whole_32, if_neg c_4, if_pos c_5]
          refine lv_lstore (lv' := [(9, .long y_6), (0, .int w), (1, .long v), (3, .int how), (4, .long (fX4_size w v)), (6, .int (fX4_fractionBits w)), (7, .int ((shR (fX4_size w v) (fX4_fractionBits w)).toInt32 - y_1)), (8, .int (fX4_below w v))]) hx hb dX4_whole_71 hl (by decide) rfl (fun ls hl => ?_)
          refine lv_iload_n hx hb dX4_whole_73 rfl (lv_at hl 1 rfl) ?_
          refine lv_iconst (v := (2:Int32)) hx hb dX4_whole_74 (by decide) ?_
          refine jn_1 (T := Int64) G A (if w = (2:Int32) then (1065353216:Int64) else (4607182418800017408:Int64)) [] 19 (fun y => [(0, .int w), (1, .long v), (3, .int how), (4, .long (fX4_size w v)), (6, .int (fX4_fractionBits w)), (7, .int ((shR (fX4_size w v) (fX4_fractionBits w)).toInt32 - y_1)), (8, .int (fX4_below w v)), (9, .long y_6)]) (fun y => [.long y]) 87 ?_ ?_
          · intro y_9 ey_9 H locs ls hP hD hS hl
            have hr_11 : fX4_whole w v how = fX4_whole_87 w v how y_1 y_6 y_9 := by rw [ey_9, hr_8, fX4_whole_71]
            refine lv_lstore (lv' := [(11, .long y_9), (0, .int w), (1, .long v), (3, .int how), (4, .long (fX4_size w v)), (6, .int (fX4_fractionBits w)), (7, .int ((shR (fX4_size w v) (fX4_fractionBits w)).toInt32 - y_1)), (8, .int (fX4_below w v)), (9, .long y_6)]) hx hb dX4_whole_87 hl (by decide) rfl (fun ls hl => ?_)
            refine lv_iload hx hb dX4_whole_89 (lv_at hl 6 rfl) ?_
            refine bz_ge (tgt := 165) hx hb dX4_whole_91 (by decide) (fun c_12 => ?_) (fun c_12 => ?_)
            · refine lv_lload hx hb dX4_whole_94 (lv_at hl 0 rfl) ?_
              refine lv_lconst (v := (1:Int64)) hx hb dX4_whole_96 (by decide) ?_
              refine lv_iload hx hb dX4_whole_97 (lv_at hl 5 rfl) ?_
              refine r_lshl hx hb dX4_whole_99 ?_
              refine lv_lsub hx hb dX4_whole_100 ?_
              refine lv_lstore (lv' := [(13, .long (y_9 - (shL (1:Int64) (fX4_fractionBits w)))), (11, .long y_9), (0, .int w), (1, .long v), (3, .int how), (4, .long (fX4_size w v)), (6, .int (fX4_fractionBits w)), (7, .int ((shR (fX4_size w v) (fX4_fractionBits w)).toInt32 - y_1)), (8, .int (fX4_below w v)), (9, .long y_6)]) hx hb dX4_whole_101 hl (by decide) rfl (fun ls hl => ?_)
              refine lv_iload_n hx hb dX4_whole_103 rfl (lv_at hl 4 rfl) ?_
              refine lv_iconst (v := (5:Int32)) hx hb dX4_whole_104 (by decide) ?_
              refine jn_1 (T := Int32) G A (if how = (5:Int32) then (if (y_9 - (shL (1:Int64) (fX4_fractionBits w))) < (fX4_size w v) then (1:Int32) else (0:Int32)) else (if (fX4_below w v) = (if how = (3:Int32) then (1:Int32) else (0:Int32)) then (1:Int32) else (0:Int32))) [] 19 (fun y => [(0, .int w), (9, .long y_6), (11, .long y_9)]) (fun y => [.int y]) 144 ?_ ?_
              · intro y_13 ey_13 H locs ls hP hD hS hl
                have hr_19 : fX4_whole w v how = fX4_whole_144 w y_6 y_9 y_13 := by rw [ey_13, hr_11, fX4_whole_87, if_pos c_12]
                refine lv_istore (lv' := [(15, .int y_13), (0, .int w), (9, .long y_6), (11, .long y_9)]) hx hb dX4_whole_144 hl (by decide) rfl (fun ls hl => ?_)
                refine lv_iload_n hx hb dX4_whole_146 rfl (lv_at hl 1 rfl) ?_
                refine lv_lload hx hb dX4_whole_147 (lv_at hl 2 rfl) ?_
                refine lv_iload hx hb dX4_whole_149 (lv_at hl 0 rfl) ?_
                refine bz_eq (tgt := 159) hx hb dX4_whole_151 (by decide) (fun c_20 => ?_) (fun c_20 => ?_)
                · refine lv_lconst (v := (0:Int64)) hx hb dX4_whole_159 (by decide) ?_
                  refine lv_lor hx hb dX4_whole_160 ?_
                  refine cs_l (As := [.int w, .long (y_6 ||| (0:Int64))]) (rest := []) ⟨hx, hb, hml, hown, hts⟩ (kX4_asCode l G w (y_6 ||| (0:Int64))) (va_cwS 2 hts gX4_whole_X4_asCode rfl rfl rfl (by decide +kernel) ⟨Nat.le_of_ble_eq_true rfl, Nat.le_of_ble_eq_true rfl⟩) hE hK hP hD hS hA hl.1 [] rfl rfl rfl rfl rfl rfl (Nat.le_of_ble_eq_true rfl) dX4_whole_161 ⟨Nat.zero_le _, Nat.zero_le _⟩ (fun H locs hP hD hS => ?_)
                  have hP : va_P G.1 vwCl [] H := hP
                  have hD : va_D A [] := hD
                  exact rt_l hx hb hr hlocks hP hD hS dX4_whole_164 (by rw [hr_19, fX4_whole_144, if_pos c_20])
                · refine lv_lload hx hb dX4_whole_154 (lv_at hl 3 rfl) ?_
                  refine lv_goto (tgt := 160) hx hb dX4_whole_156 (by decide) ?_
                  refine lv_lor hx hb dX4_whole_160 ?_
                  refine cs_l (As := [.int w, .long (y_6 ||| y_9)]) (rest := []) ⟨hx, hb, hml, hown, hts⟩ (kX4_asCode l G w (y_6 ||| y_9)) (va_cwS 2 hts gX4_whole_X4_asCode rfl rfl rfl (by decide +kernel) ⟨Nat.le_of_ble_eq_true rfl, Nat.le_of_ble_eq_true rfl⟩) hE hK hP hD hS hA hl.1 [] rfl rfl rfl rfl rfl rfl (Nat.le_of_ble_eq_true rfl) dX4_whole_161 ⟨Nat.zero_le _, Nat.zero_le _⟩ (fun H locs hP hD hS => ?_)
                  have hP : va_P G.1 vwCl [] H := hP
                  have hD : va_D A [] := hD
                  exact rt_l hx hb hr hlocks hP hD hS dX4_whole_164 (by rw [hr_19, fX4_whole_144, if_neg c_20])
              · intro kj_13
                refine bi_ne (tgt := 124) hx hb dX4_whole_105 (by decide) (fun c_14 => ?_) (fun c_14 => ?_)
                · refine lv_lload hx hb dX4_whole_108 (lv_at hl 5 rfl) ?_
                  refine lv_lload hx hb dX4_whole_110 (lv_at hl 0 rfl) ?_
                  refine bl_le (tgt := 120) hx hb dX4_whole_112 dX4_whole_113 (by decide) (fun c_15 => ?_) (fun c_15 => ?_)
                  · refine lv_iconst (v := (1:Int32)) hx hb dX4_whole_116 (by decide) ?_
                    refine lv_goto (tgt := 144) hx hb dX4_whole_117 (by decide) ?_
                    exact kj_13 (1:Int32) (by rw [if_pos c_14, if_pos c_15]) H locs ls hP hD hS (lv_sub hl [2, 9, 1] rfl)
                  · refine lv_iconst (v := (0:Int32)) hx hb dX4_whole_120 (by decide) ?_
                    refine lv_goto (tgt := 144) hx hb dX4_whole_121 (by decide) ?_
                    exact kj_13 (0:Int32) (by rw [if_pos c_14, if_neg c_15]) H locs ls hP hD hS (lv_sub hl [2, 9, 1] rfl)
                · refine lv_iload hx hb dX4_whole_124 (lv_at hl 8 rfl) ?_
                  refine lv_iload_n hx hb dX4_whole_126 rfl (lv_at hl 4 rfl) ?_
                  refine lv_iconst (v := (3:Int32)) hx hb dX4_whole_127 (by decide) ?_
                  refine jn_1 (T := Int32) G A (if how = (3:Int32) then (1:Int32) else (0:Int32)) [] 19 (fun y => [(0, .int w), (9, .long y_6), (11, .long y_9)]) (fun y => [.int y, .int (fX4_below w v)]) 136 ?_ ?_
                  · intro y_16 ey_16 H locs ls hP hD hS hl
                    refine bi_ne (tgt := 143) hx hb dX4_whole_136 (by decide) (fun c_18 => ?_) (fun c_18 => ?_)
                    · refine lv_iconst (v := (1:Int32)) hx hb dX4_whole_139 (by decide) ?_
                      refine lv_goto (tgt := 144) hx hb dX4_whole_140 (by decide) ?_
                      exact kj_13 (1:Int32) (by subst ey_16; rw [if_neg c_14, if_pos c_18]) H locs ls hP hD hS (lv_sub hl [0, 1, 2] rfl)
                    · refine lv_iconst (v := (0:Int32)) hx hb dX4_whole_143 (by decide) ?_
                      exact kj_13 (0:Int32) (by subst ey_16; rw [if_neg c_14, if_neg c_18]) H locs ls hP hD hS (lv_sub hl [0, 1, 2] rfl)
                  · intro kj_16
                    refine bi_ne (tgt := 135) hx hb dX4_whole_128 (by decide) (fun c_17 => ?_) (fun c_17 => ?_)
                    · refine lv_iconst (v := (1:Int32)) hx hb dX4_whole_131 (by decide) ?_
                      refine lv_goto (tgt := 136) hx hb dX4_whole_132 (by decide) ?_
                      exact kj_16 (1:Int32) (by rw [if_pos c_17]) H locs ls hP hD hS (lv_sub hl [2, 9, 1] rfl)
                    · refine lv_iconst (v := (0:Int32)) hx hb dX4_whole_135 (by decide) ?_
                      exact kj_16 (0:Int32) (by rw [if_neg c_17]) H locs ls hP hD hS (lv_sub hl [2, 9, 1] rfl)
            · refine lv_lconst (v := (1:Int64)) hx hb dX4_whole_165 (by decide) ?_
              refine lv_iload hx hb dX4_whole_166 (lv_at hl 5 rfl) ?_
              refine lv_iload hx hb dX4_whole_168 (lv_at hl 6 rfl) ?_
              refine lv_isub hx hb dX4_whole_170 ?_
              refine r_lshl hx hb dX4_whole_171 ?_
              refine lv_lstore (lv' := [(13, .long (shL (1:Int64) ((fX4_fractionBits w) - ((shR (fX4_size w v) (fX4_fractionBits w)).toInt32 - y_1)))), (11, .long y_9), (0, .int w), (1, .long v), (3, .int how), (4, .long (fX4_size w v)), (6, .int (fX4_fractionBits w)), (7, .int ((shR (fX4_size w v) (fX4_fractionBits w)).toInt32 - y_1)), (8, .int (fX4_below w v)), (9, .long y_6)]) hx hb dX4_whole_172 hl (by decide) rfl (fun ls hl => ?_)
              refine lv_lload hx hb dX4_whole_174 (lv_at hl 5 rfl) ?_
              refine lv_lload hx hb dX4_whole_176 (lv_at hl 0 rfl) ?_
              refine lv_lconst (v := (1:Int64)) hx hb dX4_whole_178 (by decide) ?_
              refine lv_lsub hx hb dX4_whole_179 ?_
              refine lv_land hx hb dX4_whole_180 ?_
              refine lv_lstore (lv' := [(15, .long ((fX4_size w v) &&& ((shL (1:Int64) ((fX4_fractionBits w) - ((shR (fX4_size w v) (fX4_fractionBits w)).toInt32 - y_1))) - (1:Int64)))), (13, .long (shL (1:Int64) ((fX4_fractionBits w) - ((shR (fX4_size w v) (fX4_fractionBits w)).toInt32 - y_1)))), (11, .long y_9), (0, .int w), (1, .long v), (3, .int how), (4, .long (fX4_size w v)), (6, .int (fX4_fractionBits w)), (7, .int ((shR (fX4_size w v) (fX4_fractionBits w)).toInt32 - y_1)), (8, .int (fX4_below w v)), (9, .long y_6)]) hx hb dX4_whole_181 hl (by decide) rfl (fun ls hl => ?_)
              refine lv_lload hx hb dX4_whole_183 (lv_at hl 0 rfl) ?_
              refine lv_lconst (v := (0:Int64)) hx hb dX4_whole_185 (by decide) ?_
              refine bl_ne (tgt := 192) hx hb dX4_whole_186 dX4_whole_187 (by decide) (fun c_21 => ?_) (fun c_21 => ?_)
              · refine lv_lload_n hx hb dX4_whole_190 rfl (lv_at hl 4 rfl) ?_
                exact rt_l hx hb hr hlocks hP hD hS dX4_whole_191 (by rw [hr_11, fX4_whole_87, if_neg c_12, if_pos c_21])
              · refine lv_lload hx hb dX4_whole_192 (lv_at hl 6 rfl) ?_
                refine lv_lload hx hb dX4_whole_194 (lv_at hl 1 rfl) ?_
                refine lv_land hx hb dX4_whole_196 ?_
                refine lv_lconst (v := (0:Int64)) hx hb dX4_whole_197 (by decide) ?_
                refine jn_1 (T := Int32) G A (if ((fX4_size w v) &&& (shL (1:Int64) ((fX4_fractionBits w) - ((shR (fX4_size w v) (fX4_fractionBits w)).toInt32 - y_1)))) = (0:Int64) then (0:Int32) else (1:Int32)) [] 19 (fun y => [(0, .int w), (3, .int how), (4, .long (fX4_size w v)), (8, .int (fX4_below w v)), (9, .long y_6), (13, .long (shL (1:Int64) ((fX4_fractionBits w) - ((shR (fX4_size w v) (fX4_fractionBits w)).toInt32 - y_1)))), (15, .long ((fX4_size w v) &&& ((shL (1:Int64) ((fX4_fractionBits w) - ((shR (fX4_size w v) (fX4_fractionBits w)).toInt32 - y_1))) - (1:Int64))))]) (fun y => [.int y]) 207 ?_ ?_
                · intro y_22 ey_22 H locs ls hP hD hS hl
                  have hr_24 : fX4_whole w v how = fX4_whole_207 w v how y_1 y_6 y_22 := by rw [ey_22, hr_11, fX4_whole_87, if_neg c_12, if_neg c_21]
                  refine lv_istore (lv' := [(17, .int y_22), (0, .int w), (3, .int how), (4, .long (fX4_size w v)), (8, .int (fX4_below w v)), (9, .long y_6), (13, .long (shL (1:Int64) ((fX4_fractionBits w) - ((shR (fX4_size w v) (fX4_fractionBits w)).toInt32 - y_1)))), (15, .long ((fX4_size w v) &&& ((shL (1:Int64) ((fX4_fractionBits w) - ((shR (fX4_size w v) (fX4_fractionBits w)).toInt32 - y_1))) - (1:Int64))))]) hx hb dX4_whole_207 hl (by decide) rfl (fun ls hl => ?_)
                  refine lv_iload_n hx hb dX4_whole_209 rfl (lv_at hl 2 rfl) ?_
                  refine lv_iconst (v := (5:Int32)) hx hb dX4_whole_210 (by decide) ?_
                  refine jn_1 (T := Int32) G A (if how = (5:Int32) then (if (shL (1:Int64) ((fX4_fractionBits w) - ((shR (fX4_size w v) (fX4_fractionBits w)).toInt32 - y_1))) < ((2:Int64) * ((fX4_size w v) &&& ((shL (1:Int64) ((fX4_fractionBits w) - ((shR (fX4_size w v) (fX4_fractionBits w)).toInt32 - y_1))) - (1:Int64)))) then (1:Int32) else (if ((2:Int64) * ((fX4_size w v) &&& ((shL (1:Int64) ((fX4_fractionBits w) - ((shR (fX4_size w v) (fX4_fractionBits w)).toInt32 - y_1))) - (1:Int64)))) = (shL (1:Int64) ((fX4_fractionBits w) - ((shR (fX4_size w v) (fX4_fractionBits w)).toInt32 - y_1))) then (if y_22 = 0 then (0:Int32) else (1:Int32)) else (0:Int32))) else (if (fX4_below w v) = (if how = (3:Int32) then (1:Int32) else (0:Int32)) then (1:Int32) else (0:Int32))) [] 19 (fun y => [(0, .int w), (4, .long (fX4_size w v)), (9, .long y_6), (13, .long (shL (1:Int64) ((fX4_fractionBits w) - ((shR (fX4_size w v) (fX4_fractionBits w)).toInt32 - y_1)))), (15, .long ((fX4_size w v) &&& ((shL (1:Int64) ((fX4_fractionBits w) - ((shR (fX4_size w v) (fX4_fractionBits w)).toInt32 - y_1))) - (1:Int64))))]) (fun y => [.int y]) 271 ?_ ?_
                  · intro y_25 ey_25 H locs ls hP hD hS hl
                    have hr_33 : fX4_whole w v how = fX4_whole_271 w v y_1 y_6 y_25 := by rw [ey_25, hr_24, fX4_whole_207]
                    refine lv_istore (lv' := [(18, .int y_25), (0, .int w), (4, .long (fX4_size w v)), (9, .long y_6), (13, .long (shL (1:Int64) ((fX4_fractionBits w) - ((shR (fX4_size w v) (fX4_fractionBits w)).toInt32 - y_1)))), (15, .long ((fX4_size w v) &&& ((shL (1:Int64) ((fX4_fractionBits w) - ((shR (fX4_size w v) (fX4_fractionBits w)).toInt32 - y_1))) - (1:Int64))))]) hx hb dX4_whole_271 hl (by decide) rfl (fun ls hl => ?_)
                    refine lv_iload_n hx hb dX4_whole_273 rfl (lv_at hl 1 rfl) ?_
                    refine lv_lload hx hb dX4_whole_274 (lv_at hl 3 rfl) ?_
                    refine lv_lload hx hb dX4_whole_276 (lv_at hl 2 rfl) ?_
                    refine lv_lload hx hb dX4_whole_278 (lv_at hl 5 rfl) ?_
                    refine lv_lsub hx hb dX4_whole_280 ?_
                    refine lv_iload hx hb dX4_whole_281 (lv_at hl 0 rfl) ?_
                    refine bz_eq (tgt := 291) hx hb dX4_whole_283 (by decide) (fun c_34 => ?_) (fun c_34 => ?_)
                    · refine lv_lconst (v := (0:Int64)) hx hb dX4_whole_291 (by decide) ?_
                      refine lv_ladd hx hb dX4_whole_292 ?_
                      refine lv_lor hx hb dX4_whole_293 ?_
                      refine cs_l (As := [.int w, .long (y_6 ||| (((fX4_size w v) - ((fX4_size w v) &&& ((shL (1:Int64) ((fX4_fractionBits w) - ((shR (fX4_size w v) (fX4_fractionBits w)).toInt32 - y_1))) - (1:Int64)))) + (0:Int64)))]) (rest := []) ⟨hx, hb, hml, hown, hts⟩ (kX4_asCode l G w (y_6 ||| (((fX4_size w v) - ((fX4_size w v) &&& ((shL (1:Int64) ((fX4_fractionBits w) - ((shR (fX4_size w v) (fX4_fractionBits w)).toInt32 - y_1))) - (1:Int64)))) + (0:Int64)))) (va_cwS 2 hts gX4_whole_X4_asCode rfl rfl rfl (by decide +kernel) ⟨Nat.le_of_ble_eq_true rfl, Nat.le_of_ble_eq_true rfl⟩) hE hK hP hD hS hA hl.1 [] rfl rfl rfl rfl rfl rfl (Nat.le_of_ble_eq_true rfl) dX4_whole_294 ⟨Nat.zero_le _, Nat.zero_le _⟩ (fun H locs hP hD hS => ?_)
                      have hP : va_P G.1 vwCl [] H := hP
                      have hD : va_D A [] := hD
                      exact rt_l hx hb hr hlocks hP hD hS dX4_whole_297 (by rw [hr_33, fX4_whole_271, if_pos c_34])
                    · refine lv_lload hx hb dX4_whole_286 (lv_at hl 4 rfl) ?_
                      refine lv_goto (tgt := 292) hx hb dX4_whole_288 (by decide) ?_
                      refine lv_ladd hx hb dX4_whole_292 ?_
                      refine lv_lor hx hb dX4_whole_293 ?_
                      refine cs_l (As := [.int w, .long (y_6 ||| (((fX4_size w v) - ((fX4_size w v) &&& ((shL (1:Int64) ((fX4_fractionBits w) - ((shR (fX4_size w v) (fX4_fractionBits w)).toInt32 - y_1))) - (1:Int64)))) + (shL (1:Int64) ((fX4_fractionBits w) - ((shR (fX4_size w v) (fX4_fractionBits w)).toInt32 - y_1)))))]) (rest := []) ⟨hx, hb, hml, hown, hts⟩ (kX4_asCode l G w (y_6 ||| (((fX4_size w v) - ((fX4_size w v) &&& ((shL (1:Int64) ((fX4_fractionBits w) - ((shR (fX4_size w v) (fX4_fractionBits w)).toInt32 - y_1))) - (1:Int64)))) + (shL (1:Int64) ((fX4_fractionBits w) - ((shR (fX4_size w v) (fX4_fractionBits w)).toInt32 - y_1)))))) (va_cwS 2 hts gX4_whole_X4_asCode rfl rfl rfl (by decide +kernel) ⟨Nat.le_of_ble_eq_true rfl, Nat.le_of_ble_eq_true rfl⟩) hE hK hP hD hS hA hl.1 [] rfl rfl rfl rfl rfl rfl (Nat.le_of_ble_eq_true rfl) dX4_whole_294 ⟨Nat.zero_le _, Nat.zero_le _⟩ (fun H locs hP hD hS => ?_)
                      have hP : va_P G.1 vwCl [] H := hP
                      have hD : va_D A [] := hD
                      exact rt_l hx hb hr hlocks hP hD hS dX4_whole_297 (by rw [hr_33, fX4_whole_271, if_neg c_34])
                  · intro kj_25
                    refine bi_ne (tgt := 251) hx hb dX4_whole_211 (by decide) (fun c_26 => ?_) (fun c_26 => ?_)
                    · refine lv_ldc2 (v := (2:Int64)) hx hb hown (hts (.constantLong RX4 111 (2)) (by decide +kernel)) dX4_whole_214 ?_
                      refine lv_lload hx hb dX4_whole_217 (lv_at hl 7 rfl) ?_
                      refine lv_lmul hx hb dX4_whole_219 ?_
                      refine lv_lload hx hb dX4_whole_220 (lv_at hl 6 rfl) ?_
                      refine bl_gt (tgt := 243) hx hb dX4_whole_222 dX4_whole_223 (by decide) (fun c_27 => ?_) (fun c_27 => ?_)
                      · refine lv_iconst (v := (1:Int32)) hx hb dX4_whole_243 (by decide) ?_
                        refine lv_goto (tgt := 271) hx hb dX4_whole_244 (by decide) ?_
                        exact kj_25 (1:Int32) (by rw [if_pos c_26, if_pos c_27]) H locs ls hP hD hS (lv_sub hl [1, 3, 5, 6, 7] rfl)
                      · refine lv_ldc2 (v := (2:Int64)) hx hb hown (hts (.constantLong RX4 111 (2)) (by decide +kernel)) dX4_whole_226 ?_
                        refine lv_lload hx hb dX4_whole_229 (lv_at hl 7 rfl) ?_
                        refine lv_lmul hx hb dX4_whole_231 ?_
                        refine lv_lload hx hb dX4_whole_232 (lv_at hl 6 rfl) ?_
                        refine bl_ne (tgt := 247) hx hb dX4_whole_234 dX4_whole_235 (by decide) (fun c_28 => ?_) (fun c_28 => ?_)
                        · refine lv_iload hx hb dX4_whole_238 (lv_at hl 0 rfl) ?_
                          refine bz_eq (tgt := 247) hx hb dX4_whole_240 (by decide) (fun c_29 => ?_) (fun c_29 => ?_)
                          · refine lv_iconst (v := (0:Int32)) hx hb dX4_whole_247 (by decide) ?_
                            refine lv_goto (tgt := 271) hx hb dX4_whole_248 (by decide) ?_
                            exact kj_25 (0:Int32) (by rw [if_pos c_26, if_neg c_27, if_pos c_28, if_pos c_29]) H locs ls hP hD hS (lv_sub hl [1, 3, 5, 6, 7] rfl)
                          · refine lv_iconst (v := (1:Int32)) hx hb dX4_whole_243 (by decide) ?_
                            refine lv_goto (tgt := 271) hx hb dX4_whole_244 (by decide) ?_
                            exact kj_25 (1:Int32) (by rw [if_pos c_26, if_neg c_27, if_pos c_28, if_neg c_29]) H locs ls hP hD hS (lv_sub hl [1, 3, 5, 6, 7] rfl)
                        · refine lv_iconst (v := (0:Int32)) hx hb dX4_whole_247 (by decide) ?_
                          refine lv_goto (tgt := 271) hx hb dX4_whole_248 (by decide) ?_
                          exact kj_25 (0:Int32) (by rw [if_pos c_26, if_neg c_27, if_neg c_28]) H locs ls hP hD hS (lv_sub hl [1, 3, 5, 6, 7] rfl)
                    · refine lv_iload hx hb dX4_whole_251 (lv_at hl 4 rfl) ?_
                      refine lv_iload_n hx hb dX4_whole_253 rfl (lv_at hl 2 rfl) ?_
                      refine lv_iconst (v := (3:Int32)) hx hb dX4_whole_254 (by decide) ?_
                      refine jn_1 (T := Int32) G A (if how = (3:Int32) then (1:Int32) else (0:Int32)) [] 19 (fun y => [(0, .int w), (4, .long (fX4_size w v)), (9, .long y_6), (13, .long (shL (1:Int64) ((fX4_fractionBits w) - ((shR (fX4_size w v) (fX4_fractionBits w)).toInt32 - y_1)))), (15, .long ((fX4_size w v) &&& ((shL (1:Int64) ((fX4_fractionBits w) - ((shR (fX4_size w v) (fX4_fractionBits w)).toInt32 - y_1))) - (1:Int64))))]) (fun y => [.int y, .int (fX4_below w v)]) 263 ?_ ?_
                      · intro y_30 ey_30 H locs ls hP hD hS hl
                        refine bi_ne (tgt := 270) hx hb dX4_whole_263 (by decide) (fun c_32 => ?_) (fun c_32 => ?_)
                        · refine lv_iconst (v := (1:Int32)) hx hb dX4_whole_266 (by decide) ?_
                          refine lv_goto (tgt := 271) hx hb dX4_whole_267 (by decide) ?_
                          exact kj_25 (1:Int32) (by subst ey_30; rw [if_neg c_26, if_pos c_32]) H locs ls hP hD hS (lv_sub hl [0, 1, 2, 3, 4] rfl)
                        · refine lv_iconst (v := (0:Int32)) hx hb dX4_whole_270 (by decide) ?_
                          exact kj_25 (0:Int32) (by subst ey_30; rw [if_neg c_26, if_neg c_32]) H locs ls hP hD hS (lv_sub hl [0, 1, 2, 3, 4] rfl)
                      · intro kj_30
                        refine bi_ne (tgt := 262) hx hb dX4_whole_255 (by decide) (fun c_31 => ?_) (fun c_31 => ?_)
                        · refine lv_iconst (v := (1:Int32)) hx hb dX4_whole_258 (by decide) ?_
                          refine lv_goto (tgt := 263) hx hb dX4_whole_259 (by decide) ?_
                          exact kj_30 (1:Int32) (by rw [if_pos c_31]) H locs ls hP hD hS (lv_sub hl [1, 3, 5, 6, 7] rfl)
                        · refine lv_iconst (v := (0:Int32)) hx hb dX4_whole_262 (by decide) ?_
                          exact kj_30 (0:Int32) (by rw [if_neg c_31]) H locs ls hP hD hS (lv_sub hl [1, 3, 5, 6, 7] rfl)
                · intro kj_22
                  refine bl_eq (tgt := 206) hx hb dX4_whole_198 dX4_whole_199 (by decide) (fun c_23 => ?_) (fun c_23 => ?_)
                  · refine lv_iconst (v := (0:Int32)) hx hb dX4_whole_206 (by decide) ?_
                    exact kj_22 (0:Int32) (by rw [if_pos c_23]) H locs ls hP hD hS (lv_sub hl [3, 5, 6, 9, 10, 1, 0] rfl)
                  · refine lv_iconst (v := (1:Int32)) hx hb dX4_whole_202 (by decide) ?_
                    refine lv_goto (tgt := 207) hx hb dX4_whole_203 (by decide) ?_
                    exact kj_22 (1:Int32) (by rw [if_neg c_23]) H locs ls hP hD hS (lv_sub hl [3, 5, 6, 9, 10, 1, 0] rfl)
          · intro kj_9
            refine bi_ne (tgt := 84) hx hb dX4_whole_75 (by decide) (fun c_10 => ?_) (fun c_10 => ?_)
            · refine lv_ldc2 (v := (1065353216:Int64)) hx hb hown (hts (.constantLong RX4 107 (1065353216)) (by decide +kernel)) dX4_whole_78 ?_
              refine lv_goto (tgt := 87) hx hb dX4_whole_81 (by decide) ?_
              exact kj_9 (1065353216:Int64) (by rw [if_pos c_10]) H locs ls hP hD hS (lv_sub hl [1, 2, 3, 4, 5, 6, 7, 0] rfl)
            · refine lv_ldc2 (v := (4607182418800017408:Int64)) hx hb hown (hts (.constantLong RX4 109 (4607182418800017408)) (by decide +kernel)) dX4_whole_84 ?_
              exact kj_9 (4607182418800017408:Int64) (by rw [if_neg c_10]) H locs ls hP hD hS (lv_sub hl [1, 2, 3, 4, 5, 6, 7, 0] rfl)
        · intro kj_6
          refine bz_eq (tgt := 70) hx hb dX4_whole_60 (by decide) (fun c_7 => ?_) (fun c_7 => ?_)
          · refine lv_lconst (v := (0:Int64)) hx hb dX4_whole_70 (by decide) ?_
            exact kj_6 (0:Int64) (by rw [if_pos c_7]) H locs ls hP hD hS (lv_sub hl [2, 3, 4, 5, 6, 1, 0] rfl)
          · refine lv_iload_n hx hb dX4_whole_63 rfl (lv_at hl 2 rfl) ?_
            refine cs_l (As := [.int w]) (rest := []) ⟨hx, hb, hml, hown, hts⟩ (kX4_signBit l G w) (va_cwS 1 hts gX4_whole_X4_signBit rfl rfl rfl (by decide +kernel) ⟨Nat.le_of_ble_eq_true rfl, Nat.le_of_ble_eq_true rfl⟩) hE hK hP hD hS hA hl.1 [] rfl rfl rfl rfl rfl rfl (Nat.le_of_ble_eq_true rfl) dX4_whole_64 ⟨Nat.zero_le _, Nat.zero_le _⟩ (fun H locs hP hD hS => ?_)
            have hP : va_P G.1 vwCl [] H := hP
            have hD : va_D A [] := hD
            refine lv_goto (tgt := 71) hx hb dX4_whole_67 (by decide) ?_
            exact kj_6 (fX4_signBit w) (by rw [if_neg c_7]) H locs ls hP hD hS (lv_sub hl [2, 3, 4, 5, 6, 1, 0] rfl)
      · refine lv_lload_n hx hb dX4_whole_49 rfl (lv_at hl 2 rfl) ?_
        exact rt_l hx hb hr hlocks hP hD hS dX4_whole_50 (by rw [hr_3, fX4_whole_32, if_neg c_4, if_neg c_5])
  · intro kj_1
    refine bi_ne (tgt := 29) hx hb dX4_whole_21 (by decide) (fun c_2 => ?_) (fun c_2 => ?_)
    · refine lv_bipush (v := (127:Int32)) hx hb dX4_whole_24 (by decide) ?_
      refine lv_goto (tgt := 32) hx hb dX4_whole_26 (by decide) ?_
      exact kj_1 (127:Int32) (by rw [if_pos c_2]) H locs ls hP hD hS (lv_sub hl [2, 3, 4, 1, 0] rfl)
    · refine lv_sipush (v := (1023:Int32)) hx hb dX4_whole_29 (by decide) ?_
      exact kj_1 (1023:Int32) (by rw [if_neg c_2]) H locs ls hP hD hS (lv_sub hl [2, 3, 4, 1, 0] rfl)
def fX4_signOf_26 (w : Int32) (v : Int64) (y_2 : Int64) : Int64 := (if (fX4_below w v) = 0 then (fX4_asCode w y_2) else (fX4_asCode w (y_2 ||| (fX4_signBit w))))
def fX4_signOf (w : Int32) (v : Int64) : Int64 := (if (fX4_size w v) = (0:Int64) then v else (fX4_signOf_26 w v (if w = (2:Int32) then (1065353216:Int64) else (4607182418800017408:Int64))))
set_option maxHeartbeats 4000000 in
set_option maxRecDepth 100000 in
theorem kX4_signOf (l : Launch) (G : GT) (w : Int32) (v : Int64) : CL l yX4_signOf wsX4_signOf { frames := 2, cells := 0, slots := 0, locals := 44 } G [.int w, .long v] [] (fX4_signOf w v) [] := by
  refine en_l (cc := cX4_signOf) (maxL := 5) (ret := (some .long)) (own := RX4) (by decide) rfl rfl (Nat.le_of_ble_eq_true rfl) ?_
  intro p e s m below meth c A ls hx hb hr hts hown hml hlocks hA hK hE hP hD hS hl
  have hl : lv_has ls 5 [(0, .int w), (1, .long v)] := hl
  refine lv_iload_n hx hb dX4_signOf_0 rfl (lv_at hl 0 rfl) ?_
  refine lv_lload_n hx hb dX4_signOf_1 rfl (lv_at hl 1 rfl) ?_
  refine cs_l (As := [.int w, .long v]) (rest := []) ⟨hx, hb, hml, hown, hts⟩ (kX4_size l G w v) (va_cwS 2 hts gX4_signOf_X4_size rfl rfl rfl (by decide +kernel) ⟨Nat.le_of_ble_eq_true rfl, Nat.le_of_ble_eq_true rfl⟩) hE hK hP hD hS hA hl.1 [] rfl rfl rfl rfl rfl rfl (Nat.le_of_ble_eq_true rfl) dX4_signOf_2 ⟨Nat.zero_le _, Nat.zero_le _⟩ (fun H locs hP hD hS => ?_)
  have hP : va_P G.1 vwCl [] H := hP
  have hD : va_D A [] := hD
  refine lv_lconst (v := (0:Int64)) hx hb dX4_signOf_5 (by decide) ?_
  refine bl_ne (tgt := 12) hx hb dX4_signOf_6 dX4_signOf_7 (by decide) (fun c_1 => ?_) (fun c_1 => ?_)
  · refine lv_lload_n hx hb dX4_signOf_10 rfl (lv_at hl 1 rfl) ?_
    exact rt_l hx hb hr hlocks hP hD hS dX4_signOf_11 (by rw [fX4_signOf, if_pos c_1])
  · refine lv_iload_n hx hb dX4_signOf_12 rfl (lv_at hl 0 rfl) ?_
    refine lv_iconst (v := (2:Int32)) hx hb dX4_signOf_13 (by decide) ?_
    refine jn_1 (T := Int64) G A (if w = (2:Int32) then (1065353216:Int64) else (4607182418800017408:Int64)) [] 5 (fun y => [(0, .int w), (1, .long v)]) (fun y => [.long y]) 26 ?_ ?_
    · intro y_2 ey_2 H locs ls hP hD hS hl
      have hr_4 : fX4_signOf w v = fX4_signOf_26 w v y_2 := by rw [ey_2, fX4_signOf, if_neg c_1]
      refine lv_lstore_n (lv' := [(3, .long y_2), (0, .int w), (1, .long v)]) hx hb dX4_signOf_26 rfl hl (by decide) rfl (fun ls hl => ?_)
      refine lv_iload_n hx hb dX4_signOf_27 rfl (lv_at hl 1 rfl) ?_
      refine lv_iload_n hx hb dX4_signOf_28 rfl (lv_at hl 1 rfl) ?_
      refine lv_lload_n hx hb dX4_signOf_29 rfl (lv_at hl 2 rfl) ?_
      refine cs_i (As := [.int w, .long v]) (rest := [.int w]) ⟨hx, hb, hml, hown, hts⟩ (kX4_below l G w v) (va_cwS 2 hts gX4_signOf_X4_below rfl rfl rfl (by decide +kernel) ⟨Nat.le_of_ble_eq_true rfl, Nat.le_of_ble_eq_true rfl⟩) hE hK hP hD hS hA hl.1 [] rfl rfl rfl rfl rfl rfl (Nat.le_of_ble_eq_true rfl) dX4_signOf_30 ⟨Nat.zero_le _, Nat.zero_le _⟩ (fun H locs hP hD hS => ?_)
      have hP : va_P G.1 vwCl [] H := hP
      have hD : va_D A [] := hD
      refine bz_eq (tgt := 45) hx hb dX4_signOf_33 (by decide) (fun c_5 => ?_) (fun c_5 => ?_)
      · refine lv_lload_n hx hb dX4_signOf_45 rfl (lv_at hl 0 rfl) ?_
        refine cs_l (As := [.int w, .long y_2]) (rest := []) ⟨hx, hb, hml, hown, hts⟩ (kX4_asCode l G w y_2) (va_cwS 2 hts gX4_signOf_X4_asCode rfl rfl rfl (by decide +kernel) ⟨Nat.le_of_ble_eq_true rfl, Nat.le_of_ble_eq_true rfl⟩) hE hK hP hD hS hA hl.1 [] rfl rfl rfl rfl rfl rfl (Nat.le_of_ble_eq_true rfl) dX4_signOf_46 ⟨Nat.zero_le _, Nat.zero_le _⟩ (fun H locs hP hD hS => ?_)
        have hP : va_P G.1 vwCl [] H := hP
        have hD : va_D A [] := hD
        exact rt_l hx hb hr hlocks hP hD hS dX4_signOf_49 (by rw [hr_4, fX4_signOf_26, if_pos c_5])
      · refine lv_lload_n hx hb dX4_signOf_36 rfl (lv_at hl 0 rfl) ?_
        refine lv_iload_n hx hb dX4_signOf_37 rfl (lv_at hl 1 rfl) ?_
        refine cs_l (As := [.int w]) (rest := [.long y_2, .int w]) ⟨hx, hb, hml, hown, hts⟩ (kX4_signBit l G w) (va_cwS 1 hts gX4_signOf_X4_signBit rfl rfl rfl (by decide +kernel) ⟨Nat.le_of_ble_eq_true rfl, Nat.le_of_ble_eq_true rfl⟩) hE hK hP hD hS hA hl.1 [] rfl rfl rfl rfl rfl rfl (Nat.le_of_ble_eq_true rfl) dX4_signOf_38 ⟨Nat.zero_le _, Nat.zero_le _⟩ (fun H locs hP hD hS => ?_)
        have hP : va_P G.1 vwCl [] H := hP
        have hD : va_D A [] := hD
        refine lv_lor hx hb dX4_signOf_41 ?_
        refine lv_goto (tgt := 46) hx hb dX4_signOf_42 (by decide) ?_
        refine cs_l (As := [.int w, .long (y_2 ||| (fX4_signBit w))]) (rest := []) ⟨hx, hb, hml, hown, hts⟩ (kX4_asCode l G w (y_2 ||| (fX4_signBit w))) (va_cwS 2 hts gX4_signOf_X4_asCode rfl rfl rfl (by decide +kernel) ⟨Nat.le_of_ble_eq_true rfl, Nat.le_of_ble_eq_true rfl⟩) hE hK hP hD hS hA hl.1 [] rfl rfl rfl rfl rfl rfl (Nat.le_of_ble_eq_true rfl) dX4_signOf_46 ⟨Nat.zero_le _, Nat.zero_le _⟩ (fun H locs hP hD hS => ?_)
        have hP : va_P G.1 vwCl [] H := hP
        have hD : va_D A [] := hD
        exact rt_l hx hb hr hlocks hP hD hS dX4_signOf_49 (by rw [hr_4, fX4_signOf_26, if_neg c_5])
    · intro kj_2
      refine bi_ne (tgt := 23) hx hb dX4_signOf_14 (by decide) (fun c_3 => ?_) (fun c_3 => ?_)
      · refine lv_ldc2 (v := (1065353216:Int64)) hx hb hown (hts (.constantLong RX4 107 (1065353216)) (by decide +kernel)) dX4_signOf_17 ?_
        refine lv_goto (tgt := 26) hx hb dX4_signOf_20 (by decide) ?_
        exact kj_2 (1065353216:Int64) (by rw [if_pos c_3]) H locs ls hP hD hS (lv_sub hl [0, 1] rfl)
      · refine lv_ldc2 (v := (4607182418800017408:Int64)) hx hb hown (hts (.constantLong RX4 109 (4607182418800017408)) (by decide +kernel)) dX4_signOf_23 ?_
        exact kj_2 (4607182418800017408:Int64) (by rw [if_neg c_3]) H locs ls hP hD hS (lv_sub hl [0, 1] rfl)
def fX4_works (w : Int32) (kd : Int32) (sg : Int64) (kn : Int64) : Int64 := (if kd = (0:Int32) then (fX4_upright w sg) else (if kd = (1:Int32) then (if 0 < (fX4_order w sg kn) then kn else sg) else (if kd = (2:Int32) then (if (fX4_order w sg kn) < 0 then kn else sg) else (if kd = (3:Int32) then (fX4_whole w sg kd) else (if kd = (4:Int32) then (fX4_whole w sg kd) else (if kd = (5:Int32) then (fX4_whole w sg kd) else (if kd = (6:Int32) then (fX4_signOf w sg) else (if kd = (7:Int32) then (if (fX4_below w kn) = 0 then (fX4_asCode w (fX4_size w sg)) else (fX4_asCode w ((fX4_size w sg) ||| (fX4_signBit w)))) else (fX4_negative w sg)))))))))
set_option maxHeartbeats 4000000 in
set_option maxRecDepth 100000 in
theorem kX4_works (l : Launch) (G : GT) (w : Int32) (kd : Int32) (sg : Int64) (kn : Int64) : CL l yX4_works wsX4_works { frames := 3, cells := 0, slots := 0, locals := 82 } G [.int w, .int kd, .long sg, .long kn] [] (fX4_works w kd sg kn) [] := by
  refine en_l (cc := cX4_works) (maxL := 6) (ret := (some .long)) (own := RX4) (by decide) rfl rfl (Nat.le_of_ble_eq_true rfl) ?_
  intro p e s m below meth c A ls hx hb hr hts hown hml hlocks hA hK hE hP hD hS hl
  have hl : lv_has ls 6 [(0, .int w), (1, .int kd), (2, .long sg), (4, .long kn)] := hl
  refine lv_iload_n hx hb dX4_works_0 rfl (lv_at hl 1 rfl) ?_
  by_cases k_1 : kd = (0:Int32)
  · refine sw_in (tgt := 48) (off := 47) hx hb dX4_works_1 k_1 (by decide) (by decide) (by decide) (by decide) ?_
    refine lv_iload_n hx hb dX4_works_48 rfl (lv_at hl 0 rfl) ?_
    refine lv_lload_n hx hb dX4_works_49 rfl (lv_at hl 2 rfl) ?_
    refine cs_l (As := [.int w, .long sg]) (rest := []) ⟨hx, hb, hml, hown, hts⟩ (kX4_upright l G w sg) (va_cwS 2 hts gX4_works_X4_upright rfl rfl rfl (by decide +kernel) ⟨Nat.le_of_ble_eq_true rfl, Nat.le_of_ble_eq_true rfl⟩) hE hK hP hD hS hA hl.1 [] rfl rfl rfl rfl rfl rfl (Nat.le_of_ble_eq_true rfl) dX4_works_50 ⟨Nat.zero_le _, Nat.zero_le _⟩ (fun H locs hP hD hS => ?_)
    have hP : va_P G.1 vwCl [] H := hP
    have hD : va_D A [] := hD
    exact rt_l hx hb hr hlocks hP hD hS dX4_works_53 (by rw [fX4_works, if_pos k_1])
  by_cases k_2 : kd = (1:Int32)
  · refine sw_in (tgt := 54) (off := 53) hx hb dX4_works_1 k_2 (by decide) (by decide) (by decide) (by decide) ?_
    refine lv_iload_n hx hb dX4_works_54 rfl (lv_at hl 0 rfl) ?_
    refine lv_lload_n hx hb dX4_works_55 rfl (lv_at hl 2 rfl) ?_
    refine lv_lload hx hb dX4_works_56 (lv_at hl 3 rfl) ?_
    refine cs_i (As := [.int w, .long sg, .long kn]) (rest := []) ⟨hx, hb, hml, hown, hts⟩ (kX4_order l G w sg kn) (va_cwS 3 hts gX4_works_X4_order rfl rfl rfl (by decide +kernel) ⟨Nat.le_of_ble_eq_true rfl, Nat.le_of_ble_eq_true rfl⟩) hE hK hP hD hS hA hl.1 [] rfl rfl rfl rfl rfl rfl (Nat.le_of_ble_eq_true rfl) dX4_works_58 ⟨Nat.zero_le _, Nat.zero_le _⟩ (fun H locs hP hD hS => ?_)
    have hP : va_P G.1 vwCl [] H := hP
    have hD : va_D A [] := hD
    refine bz_gt (tgt := 68) hx hb dX4_works_61 (by decide) (fun c_3 => ?_) (fun c_3 => ?_)
    · refine lv_lload hx hb dX4_works_68 (lv_at hl 3 rfl) ?_
      exact rt_l hx hb hr hlocks hP hD hS dX4_works_70 (by rw [fX4_works, if_neg k_1, if_pos k_2, if_pos c_3])
    · refine lv_lload_n hx hb dX4_works_64 rfl (lv_at hl 2 rfl) ?_
      refine lv_goto (tgt := 70) hx hb dX4_works_65 (by decide) ?_
      exact rt_l hx hb hr hlocks hP hD hS dX4_works_70 (by rw [fX4_works, if_neg k_1, if_pos k_2, if_neg c_3])
  by_cases k_4 : kd = (2:Int32)
  · refine sw_in (tgt := 71) (off := 70) hx hb dX4_works_1 k_4 (by decide) (by decide) (by decide) (by decide) ?_
    refine lv_iload_n hx hb dX4_works_71 rfl (lv_at hl 0 rfl) ?_
    refine lv_lload_n hx hb dX4_works_72 rfl (lv_at hl 2 rfl) ?_
    refine lv_lload hx hb dX4_works_73 (lv_at hl 3 rfl) ?_
    refine cs_i (As := [.int w, .long sg, .long kn]) (rest := []) ⟨hx, hb, hml, hown, hts⟩ (kX4_order l G w sg kn) (va_cwS 3 hts gX4_works_X4_order rfl rfl rfl (by decide +kernel) ⟨Nat.le_of_ble_eq_true rfl, Nat.le_of_ble_eq_true rfl⟩) hE hK hP hD hS hA hl.1 [] rfl rfl rfl rfl rfl rfl (Nat.le_of_ble_eq_true rfl) dX4_works_75 ⟨Nat.zero_le _, Nat.zero_le _⟩ (fun H locs hP hD hS => ?_)
    have hP : va_P G.1 vwCl [] H := hP
    have hD : va_D A [] := hD
    refine bz_lt (tgt := 85) hx hb dX4_works_78 (by decide) (fun c_5 => ?_) (fun c_5 => ?_)
    · refine lv_lload hx hb dX4_works_85 (lv_at hl 3 rfl) ?_
      exact rt_l hx hb hr hlocks hP hD hS dX4_works_87 (by rw [fX4_works, if_neg k_1, if_neg k_2, if_pos k_4, if_pos c_5])
    · refine lv_lload_n hx hb dX4_works_81 rfl (lv_at hl 2 rfl) ?_
      refine lv_goto (tgt := 87) hx hb dX4_works_82 (by decide) ?_
      exact rt_l hx hb hr hlocks hP hD hS dX4_works_87 (by rw [fX4_works, if_neg k_1, if_neg k_2, if_pos k_4, if_neg c_5])
  by_cases k_6 : kd = (3:Int32)
  · refine sw_in (tgt := 88) (off := 87) hx hb dX4_works_1 k_6 (by decide) (by decide) (by decide) (by decide) ?_
    refine lv_iload_n hx hb dX4_works_88 rfl (lv_at hl 0 rfl) ?_
    refine lv_lload_n hx hb dX4_works_89 rfl (lv_at hl 2 rfl) ?_
    refine lv_iload_n hx hb dX4_works_90 rfl (lv_at hl 1 rfl) ?_
    refine cs_l (As := [.int w, .long sg, .int kd]) (rest := []) ⟨hx, hb, hml, hown, hts⟩ (kX4_whole l G w sg kd) (va_cwS 3 hts gX4_works_X4_whole rfl rfl rfl (by decide +kernel) ⟨Nat.le_of_ble_eq_true rfl, Nat.le_of_ble_eq_true rfl⟩) hE hK hP hD hS hA hl.1 [] rfl rfl rfl rfl rfl rfl (Nat.le_of_ble_eq_true rfl) dX4_works_91 ⟨Nat.zero_le _, Nat.zero_le _⟩ (fun H locs hP hD hS => ?_)
    have hP : va_P G.1 vwCl [] H := hP
    have hD : va_D A [] := hD
    exact rt_l hx hb hr hlocks hP hD hS dX4_works_94 (by rw [fX4_works, if_neg k_1, if_neg k_2, if_neg k_4, if_pos k_6])
  by_cases k_7 : kd = (4:Int32)
  · refine sw_in (tgt := 88) (off := 87) hx hb dX4_works_1 k_7 (by decide) (by decide) (by decide) (by decide) ?_
    refine lv_iload_n hx hb dX4_works_88 rfl (lv_at hl 0 rfl) ?_
    refine lv_lload_n hx hb dX4_works_89 rfl (lv_at hl 2 rfl) ?_
    refine lv_iload_n hx hb dX4_works_90 rfl (lv_at hl 1 rfl) ?_
    refine cs_l (As := [.int w, .long sg, .int kd]) (rest := []) ⟨hx, hb, hml, hown, hts⟩ (kX4_whole l G w sg kd) (va_cwS 3 hts gX4_works_X4_whole rfl rfl rfl (by decide +kernel) ⟨Nat.le_of_ble_eq_true rfl, Nat.le_of_ble_eq_true rfl⟩) hE hK hP hD hS hA hl.1 [] rfl rfl rfl rfl rfl rfl (Nat.le_of_ble_eq_true rfl) dX4_works_91 ⟨Nat.zero_le _, Nat.zero_le _⟩ (fun H locs hP hD hS => ?_)
    have hP : va_P G.1 vwCl [] H := hP
    have hD : va_D A [] := hD
    exact rt_l hx hb hr hlocks hP hD hS dX4_works_94 (by rw [fX4_works, if_neg k_1, if_neg k_2, if_neg k_4, if_neg k_6, if_pos k_7])
  by_cases k_8 : kd = (5:Int32)
  · refine sw_in (tgt := 88) (off := 87) hx hb dX4_works_1 k_8 (by decide) (by decide) (by decide) (by decide) ?_
    refine lv_iload_n hx hb dX4_works_88 rfl (lv_at hl 0 rfl) ?_
    refine lv_lload_n hx hb dX4_works_89 rfl (lv_at hl 2 rfl) ?_
    refine lv_iload_n hx hb dX4_works_90 rfl (lv_at hl 1 rfl) ?_
    refine cs_l (As := [.int w, .long sg, .int kd]) (rest := []) ⟨hx, hb, hml, hown, hts⟩ (kX4_whole l G w sg kd) (va_cwS 3 hts gX4_works_X4_whole rfl rfl rfl (by decide +kernel) ⟨Nat.le_of_ble_eq_true rfl, Nat.le_of_ble_eq_true rfl⟩) hE hK hP hD hS hA hl.1 [] rfl rfl rfl rfl rfl rfl (Nat.le_of_ble_eq_true rfl) dX4_works_91 ⟨Nat.zero_le _, Nat.zero_le _⟩ (fun H locs hP hD hS => ?_)
    have hP : va_P G.1 vwCl [] H := hP
    have hD : va_D A [] := hD
    exact rt_l hx hb hr hlocks hP hD hS dX4_works_94 (by rw [fX4_works, if_neg k_1, if_neg k_2, if_neg k_4, if_neg k_6, if_neg k_7, if_pos k_8])
  by_cases k_9 : kd = (6:Int32)
  · refine sw_in (tgt := 95) (off := 94) hx hb dX4_works_1 k_9 (by decide) (by decide) (by decide) (by decide) ?_
    refine lv_iload_n hx hb dX4_works_95 rfl (lv_at hl 0 rfl) ?_
    refine lv_lload_n hx hb dX4_works_96 rfl (lv_at hl 2 rfl) ?_
    refine cs_l (As := [.int w, .long sg]) (rest := []) ⟨hx, hb, hml, hown, hts⟩ (kX4_signOf l G w sg) (va_cwS 2 hts gX4_works_X4_signOf rfl rfl rfl (by decide +kernel) ⟨Nat.le_of_ble_eq_true rfl, Nat.le_of_ble_eq_true rfl⟩) hE hK hP hD hS hA hl.1 [] rfl rfl rfl rfl rfl rfl (Nat.le_of_ble_eq_true rfl) dX4_works_97 ⟨Nat.zero_le _, Nat.zero_le _⟩ (fun H locs hP hD hS => ?_)
    have hP : va_P G.1 vwCl [] H := hP
    have hD : va_D A [] := hD
    exact rt_l hx hb hr hlocks hP hD hS dX4_works_100 (by rw [fX4_works, if_neg k_1, if_neg k_2, if_neg k_4, if_neg k_6, if_neg k_7, if_neg k_8, if_pos k_9])
  by_cases k_10 : kd = (7:Int32)
  · refine sw_in (tgt := 101) (off := 100) hx hb dX4_works_1 k_10 (by decide) (by decide) (by decide) (by decide) ?_
    refine lv_iload_n hx hb dX4_works_101 rfl (lv_at hl 0 rfl) ?_
    refine lv_iload_n hx hb dX4_works_102 rfl (lv_at hl 0 rfl) ?_
    refine lv_lload hx hb dX4_works_103 (lv_at hl 3 rfl) ?_
    refine cs_i (As := [.int w, .long kn]) (rest := [.int w]) ⟨hx, hb, hml, hown, hts⟩ (kX4_below l G w kn) (va_cwS 2 hts gX4_works_X4_below rfl rfl rfl (by decide +kernel) ⟨Nat.le_of_ble_eq_true rfl, Nat.le_of_ble_eq_true rfl⟩) hE hK hP hD hS hA hl.1 [] rfl rfl rfl rfl rfl rfl (Nat.le_of_ble_eq_true rfl) dX4_works_105 ⟨Nat.zero_le _, Nat.zero_le _⟩ (fun H locs hP hD hS => ?_)
    have hP : va_P G.1 vwCl [] H := hP
    have hD : va_D A [] := hD
    refine bz_eq (tgt := 124) hx hb dX4_works_108 (by decide) (fun c_11 => ?_) (fun c_11 => ?_)
    · refine lv_iload_n hx hb dX4_works_124 rfl (lv_at hl 0 rfl) ?_
      refine lv_lload_n hx hb dX4_works_125 rfl (lv_at hl 2 rfl) ?_
      refine cs_l (As := [.int w, .long sg]) (rest := [.int w]) ⟨hx, hb, hml, hown, hts⟩ (kX4_size l G w sg) (va_cwS 2 hts gX4_works_X4_size rfl rfl rfl (by decide +kernel) ⟨Nat.le_of_ble_eq_true rfl, Nat.le_of_ble_eq_true rfl⟩) hE hK hP hD hS hA hl.1 [] rfl rfl rfl rfl rfl rfl (Nat.le_of_ble_eq_true rfl) dX4_works_126 ⟨Nat.zero_le _, Nat.zero_le _⟩ (fun H locs hP hD hS => ?_)
      have hP : va_P G.1 vwCl [] H := hP
      have hD : va_D A [] := hD
      refine cs_l (As := [.int w, .long (fX4_size w sg)]) (rest := []) ⟨hx, hb, hml, hown, hts⟩ (kX4_asCode l G w (fX4_size w sg)) (va_cwS 2 hts gX4_works_X4_asCode rfl rfl rfl (by decide +kernel) ⟨Nat.le_of_ble_eq_true rfl, Nat.le_of_ble_eq_true rfl⟩) hE hK hP hD hS hA hl.1 [] rfl rfl rfl rfl rfl rfl (Nat.le_of_ble_eq_true rfl) dX4_works_129 ⟨Nat.zero_le _, Nat.zero_le _⟩ (fun H locs hP hD hS => ?_)
      have hP : va_P G.1 vwCl [] H := hP
      have hD : va_D A [] := hD
      exact rt_l hx hb hr hlocks hP hD hS dX4_works_132 (by rw [fX4_works, if_neg k_1, if_neg k_2, if_neg k_4, if_neg k_6, if_neg k_7, if_neg k_8, if_neg k_9, if_pos k_10, if_pos c_11])
    · refine lv_iload_n hx hb dX4_works_111 rfl (lv_at hl 0 rfl) ?_
      refine lv_lload_n hx hb dX4_works_112 rfl (lv_at hl 2 rfl) ?_
      refine cs_l (As := [.int w, .long sg]) (rest := [.int w]) ⟨hx, hb, hml, hown, hts⟩ (kX4_size l G w sg) (va_cwS 2 hts gX4_works_X4_size rfl rfl rfl (by decide +kernel) ⟨Nat.le_of_ble_eq_true rfl, Nat.le_of_ble_eq_true rfl⟩) hE hK hP hD hS hA hl.1 [] rfl rfl rfl rfl rfl rfl (Nat.le_of_ble_eq_true rfl) dX4_works_113 ⟨Nat.zero_le _, Nat.zero_le _⟩ (fun H locs hP hD hS => ?_)
      have hP : va_P G.1 vwCl [] H := hP
      have hD : va_D A [] := hD
      refine lv_iload_n hx hb dX4_works_116 rfl (lv_at hl 0 rfl) ?_
      refine cs_l (As := [.int w]) (rest := [.long (fX4_size w sg), .int w]) ⟨hx, hb, hml, hown, hts⟩ (kX4_signBit l G w) (va_cwS 1 hts gX4_works_X4_signBit rfl rfl rfl (by decide +kernel) ⟨Nat.le_of_ble_eq_true rfl, Nat.le_of_ble_eq_true rfl⟩) hE hK hP hD hS hA hl.1 [] rfl rfl rfl rfl rfl rfl (Nat.le_of_ble_eq_true rfl) dX4_works_117 ⟨Nat.zero_le _, Nat.zero_le _⟩ (fun H locs hP hD hS => ?_)
      have hP : va_P G.1 vwCl [] H := hP
      have hD : va_D A [] := hD
      refine lv_lor hx hb dX4_works_120 ?_
      refine lv_goto (tgt := 129) hx hb dX4_works_121 (by decide) ?_
      refine cs_l (As := [.int w, .long ((fX4_size w sg) ||| (fX4_signBit w))]) (rest := []) ⟨hx, hb, hml, hown, hts⟩ (kX4_asCode l G w ((fX4_size w sg) ||| (fX4_signBit w))) (va_cwS 2 hts gX4_works_X4_asCode rfl rfl rfl (by decide +kernel) ⟨Nat.le_of_ble_eq_true rfl, Nat.le_of_ble_eq_true rfl⟩) hE hK hP hD hS hA hl.1 [] rfl rfl rfl rfl rfl rfl (Nat.le_of_ble_eq_true rfl) dX4_works_129 ⟨Nat.zero_le _, Nat.zero_le _⟩ (fun H locs hP hD hS => ?_)
      have hP : va_P G.1 vwCl [] H := hP
      have hD : va_D A [] := hD
      exact rt_l hx hb hr hlocks hP hD hS dX4_works_132 (by rw [fX4_works, if_neg k_1, if_neg k_2, if_neg k_4, if_neg k_6, if_neg k_7, if_neg k_8, if_neg k_9, if_pos k_10, if_neg c_11])
  refine lv_tableOut (tgt := 133) hx hb dX4_works_1 (sw_out8 k_1 k_2 k_4 k_6 k_7 k_8 k_9 k_10) (by decide) ?_
  refine lv_iload_n hx hb dX4_works_133 rfl (lv_at hl 0 rfl) ?_
  refine lv_lload_n hx hb dX4_works_134 rfl (lv_at hl 2 rfl) ?_
  refine cs_l (As := [.int w, .long sg]) (rest := []) ⟨hx, hb, hml, hown, hts⟩ (kX4_negative l G w sg) (va_cwS 2 hts gX4_works_X4_negative rfl rfl rfl (by decide +kernel) ⟨Nat.le_of_ble_eq_true rfl, Nat.le_of_ble_eq_true rfl⟩) hE hK hP hD hS hA hl.1 [] rfl rfl rfl rfl rfl rfl (Nat.le_of_ble_eq_true rfl) dX4_works_135 ⟨Nat.zero_le _, Nat.zero_le _⟩ (fun H locs hP hD hS => ?_)
  have hP : va_P G.1 vwCl [] H := hP
  have hD : va_D A [] := hD
  exact rt_l hx hb hr hlocks hP hD hS dX4_works_138 (by rw [fX4_works, if_neg k_1, if_neg k_2, if_neg k_4, if_neg k_6, if_neg k_7, if_neg k_8, if_neg k_9, if_neg k_10])
def fX4_isKind (w : Int32) (kd : Int32) : Int32 := (if kd < 0 then (0:Int32) else (if kd < (9:Int32) then (if (1:Int32) < w then (1:Int32) else (if kd < (3:Int32) then (1:Int32) else (if kd = (8:Int32) then (1:Int32) else (0:Int32)))) else (0:Int32)))
set_option maxHeartbeats 4000000 in
set_option maxRecDepth 100000 in
theorem kX4_isKind (l : Launch) (G : GT) (w : Int32) (kd : Int32) : CI l yX4_isKind wsX4_isKind { frames := 0, cells := 0, slots := 0, locals := 0 } G [.int w, .int kd] [] (fX4_isKind w kd) [] := by
  refine en_i (cc := cX4_isKind) (maxL := 2) (ret := (some .boolean)) (own := RX4) (by decide) rfl rfl (Nat.le_of_ble_eq_true rfl) ?_
  intro p e s m below meth c A ls hx hb hr hts hown hml hlocks hA hK hE hP hD hS hl
  have hl : lv_has ls 2 [(0, .int w), (1, .int kd)] := hl
  refine lv_iload_n hx hb dX4_isKind_0 rfl (lv_at hl 1 rfl) ?_
  refine bz_lt (tgt := 30) hx hb dX4_isKind_1 (by decide) (fun c_1 => ?_) (fun c_1 => ?_)
  · refine lv_iconst (v := (0:Int32)) hx hb dX4_isKind_30 (by decide) ?_
    exact rt_z hx hb hr hlocks hP hD hS dX4_isKind_31 (by rw [fX4_isKind, if_pos c_1]) (z_nar (Or.inl rfl))
  · refine lv_iload_n hx hb dX4_isKind_4 rfl (lv_at hl 1 rfl) ?_
    refine lv_bipush (v := (9:Int32)) hx hb dX4_isKind_5 (by decide) ?_
    refine bi_ge (tgt := 30) hx hb dX4_isKind_7 (by decide) (fun c_2 => ?_) (fun c_2 => ?_)
    · refine lv_iload_n hx hb dX4_isKind_10 rfl (lv_at hl 0 rfl) ?_
      refine lv_iconst (v := (1:Int32)) hx hb dX4_isKind_11 (by decide) ?_
      refine bi_gt (tgt := 26) hx hb dX4_isKind_12 (by decide) (fun c_3 => ?_) (fun c_3 => ?_)
      · refine lv_iconst (v := (1:Int32)) hx hb dX4_isKind_26 (by decide) ?_
        refine lv_goto (tgt := 31) hx hb dX4_isKind_27 (by decide) ?_
        exact rt_z hx hb hr hlocks hP hD hS dX4_isKind_31 (by rw [fX4_isKind, if_neg c_1, if_pos c_2, if_pos c_3]) (z_nar (Or.inr rfl))
      · refine lv_iload_n hx hb dX4_isKind_15 rfl (lv_at hl 1 rfl) ?_
        refine lv_iconst (v := (3:Int32)) hx hb dX4_isKind_16 (by decide) ?_
        refine bi_lt (tgt := 26) hx hb dX4_isKind_17 (by decide) (fun c_4 => ?_) (fun c_4 => ?_)
        · refine lv_iconst (v := (1:Int32)) hx hb dX4_isKind_26 (by decide) ?_
          refine lv_goto (tgt := 31) hx hb dX4_isKind_27 (by decide) ?_
          exact rt_z hx hb hr hlocks hP hD hS dX4_isKind_31 (by rw [fX4_isKind, if_neg c_1, if_pos c_2, if_neg c_3, if_pos c_4]) (z_nar (Or.inr rfl))
        · refine lv_iload_n hx hb dX4_isKind_20 rfl (lv_at hl 1 rfl) ?_
          refine lv_bipush (v := (8:Int32)) hx hb dX4_isKind_21 (by decide) ?_
          refine bi_ne (tgt := 30) hx hb dX4_isKind_23 (by decide) (fun c_5 => ?_) (fun c_5 => ?_)
          · refine lv_iconst (v := (1:Int32)) hx hb dX4_isKind_26 (by decide) ?_
            refine lv_goto (tgt := 31) hx hb dX4_isKind_27 (by decide) ?_
            exact rt_z hx hb hr hlocks hP hD hS dX4_isKind_31 (by rw [fX4_isKind, if_neg c_1, if_pos c_2, if_neg c_3, if_neg c_4, if_pos c_5]) (z_nar (Or.inr rfl))
          · refine lv_iconst (v := (0:Int32)) hx hb dX4_isKind_30 (by decide) ?_
            exact rt_z hx hb hr hlocks hP hD hS dX4_isKind_31 (by rw [fX4_isKind, if_neg c_1, if_pos c_2, if_neg c_3, if_neg c_4, if_neg c_5]) (z_nar (Or.inl rfl))
    · refine lv_iconst (v := (0:Int32)) hx hb dX4_isKind_30 (by decide) ?_
      exact rt_z hx hb hr hlocks hP hD hS dX4_isKind_31 (by rw [fX4_isKind, if_neg c_1, if_neg c_2]) (z_nar (Or.inl rfl))
theorem z_X4_isKind (w : Int32) (kd : Int32) : fX4_isKind w kd = 0 ∨ fX4_isKind w kd = 1 := by
  unfold fX4_isKind; repeat (first | exact Or.inl rfl | exact Or.inr rfl | split)
/-- the least number of bits that hold m -/
def bO (m : Int64) : Nat → Int32
  | 0 => 0
  | k + 1 => if ((shU m (nI k)) &&& (1:Int64)) = (1:Int64) then (nI k) + (1:Int32) else bO m k
theorem k_lt63 {k : Nat} (hk : k ≤ 64) (h : (nI k) < (64:Int32)) : k < 64 := (nI_ltI (by omega) (by omega)).mp (show nI k < nI 64 from h)
theorem k_ge63 {k : Nat} (hk : k ≤ 64) (h : ¬ (nI k) < (64:Int32)) : k = 64 := by
  have h2 : ¬ k < 64 := fun g => h (show nI k < nI 64 from (nI_ltI (by omega) (by omega)).mpr g)
  omega
end
section
def fX1_isWhole (i : Nat) : Int32 := (if (so_frac i) = 0 then (1:Int32) else (0:Int32))
set_option maxHeartbeats 4000000 in
set_option maxRecDepth 100000 in
theorem kX1_isWhole (l : Launch) (G : GT) (i : Nat) (hi : i < 4) : CI l yX1_isWhole wsX1_isWhole { frames := 0, cells := 0, slots := 0, locals := 0 } G [.ref (G.2.2.1 i)] [] (fX1_isWhole i) [] := by
  refine en_i (cc := cX1_isWhole) (maxL := 1) (ret := (some .boolean)) (own := RX1) (by decide) rfl rfl (Nat.le_of_ble_eq_true rfl) ?_
  intro p e s m below meth c A ls hx hb hr hts hown hml hlocks hA hK hE hP hD hS hl
  have hl : lv_has ls 1 [(0, .ref (G.2.2.1 i))] := hl
  refine lv_aload_n hx hb dX1_isWhole_0 rfl (lv_at hl 0 rfl) ?_
  refine sg_fraction hx hb hE hi hS hown (hts (.fieldLink RX1 41 "PedalBoard$Sort" "fraction" "I") (by decide +kernel)) dX1_isWhole_1 ?_
  refine bz_ne (tgt := 11) hx hb dX1_isWhole_4 (by decide) (fun c_1 => ?_) (fun c_1 => ?_)
  · refine lv_iconst (v := (1:Int32)) hx hb dX1_isWhole_7 (by decide) ?_
    refine lv_goto (tgt := 12) hx hb dX1_isWhole_8 (by decide) ?_
    exact rt_z hx hb hr hlocks hP hD hS dX1_isWhole_12 (by rw [fX1_isWhole, if_pos c_1]) (z_nar (Or.inr rfl))
  · refine lv_iconst (v := (0:Int32)) hx hb dX1_isWhole_11 (by decide) ?_
    exact rt_z hx hb hr hlocks hP hD hS dX1_isWhole_12 (by rw [fX1_isWhole, if_neg c_1]) (z_nar (Or.inl rfl))
theorem z_X1_isWhole (i : Nat) : fX1_isWhole i = 0 ∨ fX1_isWhole i = 1 := by
  unfold fX1_isWhole; repeat (first | exact Or.inl rfl | exact Or.inr rfl | split)
def fX1_infinite (i : Nat) : Int64 := (shL (((2:Int64) * (so_bias i).toInt64) + (1:Int64)) (so_frac i))
set_option maxHeartbeats 4000000 in
set_option maxRecDepth 100000 in
theorem kX1_infinite (l : Launch) (G : GT) (i : Nat) (hi : i < 4) : CL l yX1_infinite wsX1_infinite { frames := 0, cells := 0, slots := 0, locals := 0 } G [.ref (G.2.2.1 i)] [] (fX1_infinite i) [] := by
  refine en_l (cc := cX1_infinite) (maxL := 1) (ret := (some .long)) (own := RX1) (by decide) rfl rfl (Nat.le_of_ble_eq_true rfl) ?_
  intro p e s m below meth c A ls hx hb hr hts hown hml hlocks hA hK hE hP hD hS hl
  have hl : lv_has ls 1 [(0, .ref (G.2.2.1 i))] := hl
  refine lv_ldc2 (v := (2:Int64)) hx hb hown (hts (.constantLong RX1 51 (2)) (by decide +kernel)) dX1_infinite_0 ?_
  refine lv_aload_n hx hb dX1_infinite_3 rfl (lv_at hl 0 rfl) ?_
  refine sg_bias hx hb hE hi hS hown (hts (.fieldLink RX1 44 "PedalBoard$Sort" "bias" "I") (by decide +kernel)) dX1_infinite_4 ?_
  refine r_i2l hx hb dX1_infinite_7 ?_
  refine lv_lmul hx hb dX1_infinite_8 ?_
  refine lv_lconst (v := (1:Int64)) hx hb dX1_infinite_9 (by decide) ?_
  refine lv_ladd hx hb dX1_infinite_10 ?_
  refine lv_aload_n hx hb dX1_infinite_11 rfl (lv_at hl 0 rfl) ?_
  refine sg_fraction hx hb hE hi hS hown (hts (.fieldLink RX1 41 "PedalBoard$Sort" "fraction" "I") (by decide +kernel)) dX1_infinite_12 ?_
  refine r_lshl hx hb dX1_infinite_15 ?_
  exact rt_l hx hb hr hlocks hP hD hS dX1_infinite_16 (by rw [fX1_infinite])
def fX1_one (i : Nat) : Int64 := (shL ((so_bias i).toInt64) (so_frac i))
set_option maxHeartbeats 4000000 in
set_option maxRecDepth 100000 in
theorem kX1_one (l : Launch) (G : GT) (i : Nat) (hi : i < 4) : CL l yX1_one wsX1_one { frames := 0, cells := 0, slots := 0, locals := 0 } G [.ref (G.2.2.1 i)] [] (fX1_one i) [] := by
  refine en_l (cc := cX1_one) (maxL := 1) (ret := (some .long)) (own := RX1) (by decide) rfl rfl (Nat.le_of_ble_eq_true rfl) ?_
  intro p e s m below meth c A ls hx hb hr hts hown hml hlocks hA hK hE hP hD hS hl
  have hl : lv_has ls 1 [(0, .ref (G.2.2.1 i))] := hl
  refine lv_aload_n hx hb dX1_one_0 rfl (lv_at hl 0 rfl) ?_
  refine sg_bias hx hb hE hi hS hown (hts (.fieldLink RX1 44 "PedalBoard$Sort" "bias" "I") (by decide +kernel)) dX1_one_1 ?_
  refine r_i2l hx hb dX1_one_4 ?_
  refine lv_aload_n hx hb dX1_one_5 rfl (lv_at hl 0 rfl) ?_
  refine sg_fraction hx hb hE hi hS hown (hts (.fieldLink RX1 41 "PedalBoard$Sort" "fraction" "I") (by decide +kernel)) dX1_one_6 ?_
  refine r_lshl hx hb dX1_one_9 ?_
  exact rt_l hx hb hr hlocks hP hD hS dX1_one_10 (by rw [fX1_one])
def fX1_oneHalf (i : Nat) : Int64 := (shL ((so_bias i).toInt64 - (1:Int64)) (so_frac i))
set_option maxHeartbeats 4000000 in
set_option maxRecDepth 100000 in
theorem kX1_oneHalf (l : Launch) (G : GT) (i : Nat) (hi : i < 4) : CL l yX1_oneHalf wsX1_oneHalf { frames := 0, cells := 0, slots := 0, locals := 0 } G [.ref (G.2.2.1 i)] [] (fX1_oneHalf i) [] := by
  refine en_l (cc := cX1_oneHalf) (maxL := 1) (ret := (some .long)) (own := RX1) (by decide) rfl rfl (Nat.le_of_ble_eq_true rfl) ?_
  intro p e s m below meth c A ls hx hb hr hts hown hml hlocks hA hK hE hP hD hS hl
  have hl : lv_has ls 1 [(0, .ref (G.2.2.1 i))] := hl
  refine lv_aload_n hx hb dX1_oneHalf_0 rfl (lv_at hl 0 rfl) ?_
  refine sg_bias hx hb hE hi hS hown (hts (.fieldLink RX1 44 "PedalBoard$Sort" "bias" "I") (by decide +kernel)) dX1_oneHalf_1 ?_
  refine r_i2l hx hb dX1_oneHalf_4 ?_
  refine lv_lconst (v := (1:Int64)) hx hb dX1_oneHalf_5 (by decide) ?_
  refine lv_lsub hx hb dX1_oneHalf_6 ?_
  refine lv_aload_n hx hb dX1_oneHalf_7 rfl (lv_at hl 0 rfl) ?_
  refine sg_fraction hx hb hE hi hS hown (hts (.fieldLink RX1 41 "PedalBoard$Sort" "fraction" "I") (by decide +kernel)) dX1_oneHalf_8 ?_
  refine r_lshl hx hb dX1_oneHalf_11 ?_
  exact rt_l hx hb hr hlocks hP hD hS dX1_oneHalf_12 (by rw [fX1_oneHalf])
def fX1_codeOf (i : Nat) (hh : Int32) (lo : Int32) : Int64 := (if (so_bits i) = (32:Int32) then lo.toInt64 else ((shL hh.toInt64 (32:Int32)) ||| (lo.toInt64 &&& (4294967295:Int64))))
set_option maxHeartbeats 4000000 in
set_option maxRecDepth 100000 in
theorem kX1_codeOf (l : Launch) (G : GT) (i : Nat) (hh : Int32) (lo : Int32) (hi : i < 4) : CL l yX1_codeOf wsX1_codeOf { frames := 0, cells := 0, slots := 0, locals := 0 } G [.ref (G.2.2.1 i), .int hh, .int lo] [] (fX1_codeOf i hh lo) [] := by
  refine en_l (cc := cX1_codeOf) (maxL := 3) (ret := (some .long)) (own := RX1) (by decide) rfl rfl (Nat.le_of_ble_eq_true rfl) ?_
  intro p e s m below meth c A ls hx hb hr hts hown hml hlocks hA hK hE hP hD hS hl
  have hl : lv_has ls 3 [(0, .ref (G.2.2.1 i)), (1, .int hh), (2, .int lo)] := hl
  refine lv_aload_n hx hb dX1_codeOf_0 rfl (lv_at hl 0 rfl) ?_
  refine sg_bits hx hb hE hi hS hown (hts (.fieldLink RX1 37 "PedalBoard$Sort" "bits" "I") (by decide +kernel)) dX1_codeOf_1 ?_
  refine lv_bipush (v := (32:Int32)) hx hb dX1_codeOf_4 (by decide) ?_
  refine bi_ne (tgt := 14) hx hb dX1_codeOf_6 (by decide) (fun c_1 => ?_) (fun c_1 => ?_)
  · refine lv_iload_n hx hb dX1_codeOf_9 rfl (lv_at hl 2 rfl) ?_
    refine r_i2l hx hb dX1_codeOf_10 ?_
    refine lv_goto (tgt := 26) hx hb dX1_codeOf_11 (by decide) ?_
    exact rt_l hx hb hr hlocks hP hD hS dX1_codeOf_26 (by rw [fX1_codeOf, if_pos c_1])
  · refine lv_iload_n hx hb dX1_codeOf_14 rfl (lv_at hl 1 rfl) ?_
    refine r_i2l hx hb dX1_codeOf_15 ?_
    refine lv_bipush (v := (32:Int32)) hx hb dX1_codeOf_16 (by decide) ?_
    refine r_lshl hx hb dX1_codeOf_18 ?_
    refine lv_iload_n hx hb dX1_codeOf_19 rfl (lv_at hl 2 rfl) ?_
    refine r_i2l hx hb dX1_codeOf_20 ?_
    refine lv_ldc2 (v := (4294967295:Int64)) hx hb hown (hts (.constantLong RX1 53 (4294967295)) (by decide +kernel)) dX1_codeOf_21 ?_
    refine lv_land hx hb dX1_codeOf_24 ?_
    refine lv_lor hx hb dX1_codeOf_25 ?_
    exact rt_l hx hb hr hlocks hP hD hS dX1_codeOf_26 (by rw [fX1_codeOf, if_neg c_1])
def fX1_isIll (i : Nat) (v : Int64) : Int32 := (if (fX1_isWhole i) = 0 then (if (fX1_infinite i) < (v &&& (so_mask i)) then (1:Int32) else (0:Int32)) else (0:Int32))
set_option maxHeartbeats 4000000 in
set_option maxRecDepth 100000 in
theorem kX1_isIll (l : Launch) (G : GT) (i : Nat) (v : Int64) (hi : i < 4) : CI l yX1_isIll wsX1_isIll { frames := 1, cells := 0, slots := 0, locals := 20 } G [.ref (G.2.2.1 i), .long v] [] (fX1_isIll i v) [] := by
  refine en_i (cc := cX1_isIll) (maxL := 3) (ret := (some .boolean)) (own := RX1) (by decide) rfl rfl (Nat.le_of_ble_eq_true rfl) ?_
  intro p e s m below meth c A ls hx hb hr hts hown hml hlocks hA hK hE hP hD hS hl
  have hl : lv_has ls 3 [(0, .ref (G.2.2.1 i)), (1, .long v)] := hl
  refine lv_aload_n hx hb dX1_isIll_0 rfl (lv_at hl 0 rfl) ?_
  refine cv_i (As := []) (rest := []) ⟨hx, hb, hml, hown, hts⟩ (kX1_isWhole l G i hi) (cwV 0 hts gX1_isIll_X1_isWhole rfl rfl rfl (by decide +kernel) ⟨Nat.le_of_ble_eq_true rfl, Nat.le_of_ble_eq_true rfl⟩) (so_rec hE hi hS) hE hK hP hD hS hA hl.1 [] rfl rfl rfl rfl rfl rfl (Nat.le_of_ble_eq_true rfl) dX1_isIll_1 ⟨Nat.zero_le _, Nat.zero_le _⟩ (fun H locs hP hD hS => ?_)
  have hP : va_P G.1 vwCl [] H := hP
  have hD : va_D A [] := hD
  refine bz_ne (tgt := 25) hx hb dX1_isIll_4 (by decide) (fun c_1 => ?_) (fun c_1 => ?_)
  · refine lv_lload_n hx hb dX1_isIll_7 rfl (lv_at hl 1 rfl) ?_
    refine lv_aload_n hx hb dX1_isIll_8 rfl (lv_at hl 0 rfl) ?_
    refine sg_sizeMask hx hb hE hi hS hown (hts (.fieldLink RX1 47 "PedalBoard$Sort" "sizeMask" "J") (by decide +kernel)) dX1_isIll_9 ?_
    refine lv_land hx hb dX1_isIll_12 ?_
    refine lv_aload_n hx hb dX1_isIll_13 rfl (lv_at hl 0 rfl) ?_
    refine cv_l (As := []) (rest := [.long (v &&& (so_mask i))]) ⟨hx, hb, hml, hown, hts⟩ (kX1_infinite l G i hi) (cwV 0 hts gX1_isIll_X1_infinite rfl rfl rfl (by decide +kernel) ⟨Nat.le_of_ble_eq_true rfl, Nat.le_of_ble_eq_true rfl⟩) (so_rec hE hi hS) hE hK hP hD hS hA hl.1 [] rfl rfl rfl rfl rfl rfl (Nat.le_of_ble_eq_true rfl) dX1_isIll_14 ⟨Nat.zero_le _, Nat.zero_le _⟩ (fun H locs hP hD hS => ?_)
    have hP : va_P G.1 vwCl [] H := hP
    have hD : va_D A [] := hD
    refine bl_le (tgt := 25) hx hb dX1_isIll_17 dX1_isIll_18 (by decide) (fun c_2 => ?_) (fun c_2 => ?_)
    · refine lv_iconst (v := (1:Int32)) hx hb dX1_isIll_21 (by decide) ?_
      refine lv_goto (tgt := 26) hx hb dX1_isIll_22 (by decide) ?_
      exact rt_z hx hb hr hlocks hP hD hS dX1_isIll_26 (by rw [fX1_isIll, if_pos c_1, if_pos c_2]) (z_nar (Or.inr rfl))
    · refine lv_iconst (v := (0:Int32)) hx hb dX1_isIll_25 (by decide) ?_
      exact rt_z hx hb hr hlocks hP hD hS dX1_isIll_26 (by rw [fX1_isIll, if_pos c_1, if_neg c_2]) (z_nar (Or.inl rfl))
  · refine lv_iconst (v := (0:Int32)) hx hb dX1_isIll_25 (by decide) ?_
    exact rt_z hx hb hr hlocks hP hD hS dX1_isIll_26 (by rw [fX1_isIll, if_neg c_1]) (z_nar (Or.inl rfl))
theorem z_X1_isIll (i : Nat) (v : Int64) : fX1_isIll i v = 0 ∨ fX1_isIll i v = 1 := by
  unfold fX1_isIll; repeat (first | exact Or.inl rfl | exact Or.inr rfl | split)
def fX1_isZero (i : Nat) (v : Int64) : Int32 := (if (fX1_isWhole i) = 0 then (if (v &&& (so_mask i)) = (0:Int64) then (1:Int32) else (0:Int32)) else (if v = (0:Int64) then (1:Int32) else (0:Int32)))
set_option maxHeartbeats 4000000 in
set_option maxRecDepth 100000 in
theorem kX1_isZero (l : Launch) (G : GT) (i : Nat) (v : Int64) (hi : i < 4) : CI l yX1_isZero wsX1_isZero { frames := 1, cells := 0, slots := 0, locals := 20 } G [.ref (G.2.2.1 i), .long v] [] (fX1_isZero i v) [] := by
  refine en_i (cc := cX1_isZero) (maxL := 3) (ret := (some .boolean)) (own := RX1) (by decide) rfl rfl (Nat.le_of_ble_eq_true rfl) ?_
  intro p e s m below meth c A ls hx hb hr hts hown hml hlocks hA hK hE hP hD hS hl
  have hl : lv_has ls 3 [(0, .ref (G.2.2.1 i)), (1, .long v)] := hl
  refine lv_aload_n hx hb dX1_isZero_0 rfl (lv_at hl 0 rfl) ?_
  refine cv_i (As := []) (rest := []) ⟨hx, hb, hml, hown, hts⟩ (kX1_isWhole l G i hi) (cwV 0 hts gX1_isZero_X1_isWhole rfl rfl rfl (by decide +kernel) ⟨Nat.le_of_ble_eq_true rfl, Nat.le_of_ble_eq_true rfl⟩) (so_rec hE hi hS) hE hK hP hD hS hA hl.1 [] rfl rfl rfl rfl rfl rfl (Nat.le_of_ble_eq_true rfl) dX1_isZero_1 ⟨Nat.zero_le _, Nat.zero_le _⟩ (fun H locs hP hD hS => ?_)
  have hP : va_P G.1 vwCl [] H := hP
  have hD : va_D A [] := hD
  refine bz_eq (tgt := 21) hx hb dX1_isZero_4 (by decide) (fun c_1 => ?_) (fun c_1 => ?_)
  · refine lv_lload_n hx hb dX1_isZero_21 rfl (lv_at hl 1 rfl) ?_
    refine lv_aload_n hx hb dX1_isZero_22 rfl (lv_at hl 0 rfl) ?_
    refine sg_sizeMask hx hb hE hi hS hown (hts (.fieldLink RX1 47 "PedalBoard$Sort" "sizeMask" "J") (by decide +kernel)) dX1_isZero_23 ?_
    refine lv_land hx hb dX1_isZero_26 ?_
    refine lv_lconst (v := (0:Int64)) hx hb dX1_isZero_27 (by decide) ?_
    refine bl_ne (tgt := 36) hx hb dX1_isZero_28 dX1_isZero_29 (by decide) (fun c_2 => ?_) (fun c_2 => ?_)
    · refine lv_iconst (v := (1:Int32)) hx hb dX1_isZero_32 (by decide) ?_
      refine lv_goto (tgt := 37) hx hb dX1_isZero_33 (by decide) ?_
      exact rt_z hx hb hr hlocks hP hD hS dX1_isZero_37 (by rw [fX1_isZero, if_pos c_1, if_pos c_2]) (z_nar (Or.inr rfl))
    · refine lv_iconst (v := (0:Int32)) hx hb dX1_isZero_36 (by decide) ?_
      exact rt_z hx hb hr hlocks hP hD hS dX1_isZero_37 (by rw [fX1_isZero, if_pos c_1, if_neg c_2]) (z_nar (Or.inl rfl))
  · refine lv_lload_n hx hb dX1_isZero_7 rfl (lv_at hl 1 rfl) ?_
    refine lv_lconst (v := (0:Int64)) hx hb dX1_isZero_8 (by decide) ?_
    refine bl_ne (tgt := 17) hx hb dX1_isZero_9 dX1_isZero_10 (by decide) (fun c_3 => ?_) (fun c_3 => ?_)
    · refine lv_iconst (v := (1:Int32)) hx hb dX1_isZero_13 (by decide) ?_
      refine lv_goto (tgt := 37) hx hb dX1_isZero_14 (by decide) ?_
      exact rt_z hx hb hr hlocks hP hD hS dX1_isZero_37 (by rw [fX1_isZero, if_neg c_1, if_pos c_3]) (z_nar (Or.inr rfl))
    · refine lv_iconst (v := (0:Int32)) hx hb dX1_isZero_17 (by decide) ?_
      refine lv_goto (tgt := 37) hx hb dX1_isZero_18 (by decide) ?_
      exact rt_z hx hb hr hlocks hP hD hS dX1_isZero_37 (by rw [fX1_isZero, if_neg c_1, if_neg c_3]) (z_nar (Or.inl rfl))
theorem z_X1_isZero (i : Nat) (v : Int64) : fX1_isZero i v = 0 ∨ fX1_isZero i v = 1 := by
  unfold fX1_isZero; repeat (first | exact Or.inl rfl | exact Or.inr rfl | split)
def fX1_hasKind (i : Nat) (kd : Int32) : Int32 := (if kd < (3:Int32) then (if kd < 0 then (0:Int32) else (if (8:Int32) < kd then (0:Int32) else (1:Int32))) else (if (7:Int32) < kd then (if kd < 0 then (0:Int32) else (if (8:Int32) < kd then (0:Int32) else (1:Int32))) else (if (fX1_isWhole i) = 0 then (1:Int32) else (0:Int32))))
set_option maxHeartbeats 4000000 in
set_option maxRecDepth 100000 in
theorem kX1_hasKind (l : Launch) (G : GT) (i : Nat) (kd : Int32) (hi : i < 4) : CI l yX1_hasKind wsX1_hasKind { frames := 1, cells := 0, slots := 0, locals := 20 } G [.ref (G.2.2.1 i), .int kd] [] (fX1_hasKind i kd) [] := by
  refine en_i (cc := cX1_hasKind) (maxL := 2) (ret := (some .boolean)) (own := RX1) (by decide) rfl rfl (Nat.le_of_ble_eq_true rfl) ?_
  intro p e s m below meth c A ls hx hb hr hts hown hml hlocks hA hK hE hP hD hS hl
  have hl : lv_has ls 2 [(0, .ref (G.2.2.1 i)), (1, .int kd)] := hl
  refine lv_iload_n hx hb dX1_hasKind_0 rfl (lv_at hl 1 rfl) ?_
  refine lv_iconst (v := (3:Int32)) hx hb dX1_hasKind_1 (by decide) ?_
  refine bi_lt (tgt := 24) hx hb dX1_hasKind_2 (by decide) (fun c_1 => ?_) (fun c_1 => ?_)
  · refine lv_iload_n hx hb dX1_hasKind_24 rfl (lv_at hl 1 rfl) ?_
    refine bz_lt (tgt := 38) hx hb dX1_hasKind_25 (by decide) (fun c_2 => ?_) (fun c_2 => ?_)
    · refine lv_iconst (v := (0:Int32)) hx hb dX1_hasKind_38 (by decide) ?_
      exact rt_z hx hb hr hlocks hP hD hS dX1_hasKind_39 (by rw [fX1_hasKind, if_pos c_1, if_pos c_2]) (z_nar (Or.inl rfl))
    · refine lv_iload_n hx hb dX1_hasKind_28 rfl (lv_at hl 1 rfl) ?_
      refine lv_bipush (v := (8:Int32)) hx hb dX1_hasKind_29 (by decide) ?_
      refine bi_gt (tgt := 38) hx hb dX1_hasKind_31 (by decide) (fun c_3 => ?_) (fun c_3 => ?_)
      · refine lv_iconst (v := (0:Int32)) hx hb dX1_hasKind_38 (by decide) ?_
        exact rt_z hx hb hr hlocks hP hD hS dX1_hasKind_39 (by rw [fX1_hasKind, if_pos c_1, if_neg c_2, if_pos c_3]) (z_nar (Or.inl rfl))
      · refine lv_iconst (v := (1:Int32)) hx hb dX1_hasKind_34 (by decide) ?_
        refine lv_goto (tgt := 39) hx hb dX1_hasKind_35 (by decide) ?_
        exact rt_z hx hb hr hlocks hP hD hS dX1_hasKind_39 (by rw [fX1_hasKind, if_pos c_1, if_neg c_2, if_neg c_3]) (z_nar (Or.inr rfl))
  · refine lv_iload_n hx hb dX1_hasKind_5 rfl (lv_at hl 1 rfl) ?_
    refine lv_bipush (v := (7:Int32)) hx hb dX1_hasKind_6 (by decide) ?_
    refine bi_gt (tgt := 24) hx hb dX1_hasKind_8 (by decide) (fun c_4 => ?_) (fun c_4 => ?_)
    · refine lv_iload_n hx hb dX1_hasKind_24 rfl (lv_at hl 1 rfl) ?_
      refine bz_lt (tgt := 38) hx hb dX1_hasKind_25 (by decide) (fun c_5 => ?_) (fun c_5 => ?_)
      · refine lv_iconst (v := (0:Int32)) hx hb dX1_hasKind_38 (by decide) ?_
        exact rt_z hx hb hr hlocks hP hD hS dX1_hasKind_39 (by rw [fX1_hasKind, if_neg c_1, if_pos c_4, if_pos c_5]) (z_nar (Or.inl rfl))
      · refine lv_iload_n hx hb dX1_hasKind_28 rfl (lv_at hl 1 rfl) ?_
        refine lv_bipush (v := (8:Int32)) hx hb dX1_hasKind_29 (by decide) ?_
        refine bi_gt (tgt := 38) hx hb dX1_hasKind_31 (by decide) (fun c_6 => ?_) (fun c_6 => ?_)
        · refine lv_iconst (v := (0:Int32)) hx hb dX1_hasKind_38 (by decide) ?_
          exact rt_z hx hb hr hlocks hP hD hS dX1_hasKind_39 (by rw [fX1_hasKind, if_neg c_1, if_pos c_4, if_neg c_5, if_pos c_6]) (z_nar (Or.inl rfl))
        · refine lv_iconst (v := (1:Int32)) hx hb dX1_hasKind_34 (by decide) ?_
          refine lv_goto (tgt := 39) hx hb dX1_hasKind_35 (by decide) ?_
          exact rt_z hx hb hr hlocks hP hD hS dX1_hasKind_39 (by rw [fX1_hasKind, if_neg c_1, if_pos c_4, if_neg c_5, if_neg c_6]) (z_nar (Or.inr rfl))
    · refine lv_aload_n hx hb dX1_hasKind_11 rfl (lv_at hl 0 rfl) ?_
      refine cv_i (As := []) (rest := []) ⟨hx, hb, hml, hown, hts⟩ (kX1_isWhole l G i hi) (cwV 0 hts gX1_hasKind_X1_isWhole rfl rfl rfl (by decide +kernel) ⟨Nat.le_of_ble_eq_true rfl, Nat.le_of_ble_eq_true rfl⟩) (so_rec hE hi hS) hE hK hP hD hS hA hl.1 [] rfl rfl rfl rfl rfl rfl (Nat.le_of_ble_eq_true rfl) dX1_hasKind_12 ⟨Nat.zero_le _, Nat.zero_le _⟩ (fun H locs hP hD hS => ?_)
      have hP : va_P G.1 vwCl [] H := hP
      have hD : va_D A [] := hD
      refine bz_ne (tgt := 22) hx hb dX1_hasKind_15 (by decide) (fun c_7 => ?_) (fun c_7 => ?_)
      · refine lv_iconst (v := (1:Int32)) hx hb dX1_hasKind_18 (by decide) ?_
        refine lv_goto (tgt := 23) hx hb dX1_hasKind_19 (by decide) ?_
        exact rt_z hx hb hr hlocks hP hD hS dX1_hasKind_23 (by rw [fX1_hasKind, if_neg c_1, if_neg c_4, if_pos c_7]) (z_nar (Or.inr rfl))
      · refine lv_iconst (v := (0:Int32)) hx hb dX1_hasKind_22 (by decide) ?_
        exact rt_z hx hb hr hlocks hP hD hS dX1_hasKind_23 (by rw [fX1_hasKind, if_neg c_1, if_neg c_4, if_neg c_7]) (z_nar (Or.inl rfl))
theorem z_X1_hasKind (i : Nat) (kd : Int32) : fX1_hasKind i kd = 0 ∨ fX1_hasKind i kd = 1 := by
  unfold fX1_hasKind; repeat (first | exact Or.inl rfl | exact Or.inr rfl | split)
def fX1_rank (i : Nat) (v : Int64) : Int64 := (if (fX1_isWhole i) = 0 then (if v < (0:Int64) then (v ^^^ (so_mask i)) else v) else v)
set_option maxHeartbeats 4000000 in
set_option maxRecDepth 100000 in
theorem kX1_rank (l : Launch) (G : GT) (i : Nat) (v : Int64) (hi : i < 4) : CL l yX1_rank wsX1_rank { frames := 1, cells := 0, slots := 0, locals := 20 } G [.ref (G.2.2.1 i), .long v] [] (fX1_rank i v) [] := by
  refine en_l (cc := cX1_rank) (maxL := 3) (ret := (some .long)) (own := RX1) (by decide) rfl rfl (Nat.le_of_ble_eq_true rfl) ?_
  intro p e s m below meth c A ls hx hb hr hts hown hml hlocks hA hK hE hP hD hS hl
  have hl : lv_has ls 3 [(0, .ref (G.2.2.1 i)), (1, .long v)] := hl
  refine lv_aload_n hx hb dX1_rank_0 rfl (lv_at hl 0 rfl) ?_
  refine cv_i (As := []) (rest := []) ⟨hx, hb, hml, hown, hts⟩ (kX1_isWhole l G i hi) (cwV 0 hts gX1_rank_X1_isWhole rfl rfl rfl (by decide +kernel) ⟨Nat.le_of_ble_eq_true rfl, Nat.le_of_ble_eq_true rfl⟩) (so_rec hE hi hS) hE hK hP hD hS hA hl.1 [] rfl rfl rfl rfl rfl rfl (Nat.le_of_ble_eq_true rfl) dX1_rank_1 ⟨Nat.zero_le _, Nat.zero_le _⟩ (fun H locs hP hD hS => ?_)
  have hP : va_P G.1 vwCl [] H := hP
  have hD : va_D A [] := hD
  refine bz_ne (tgt := 22) hx hb dX1_rank_4 (by decide) (fun c_1 => ?_) (fun c_1 => ?_)
  · refine lv_lload_n hx hb dX1_rank_7 rfl (lv_at hl 1 rfl) ?_
    refine lv_lconst (v := (0:Int64)) hx hb dX1_rank_8 (by decide) ?_
    refine bl_ge (tgt := 22) hx hb dX1_rank_9 dX1_rank_10 (by decide) (fun c_2 => ?_) (fun c_2 => ?_)
    · refine lv_lload_n hx hb dX1_rank_13 rfl (lv_at hl 1 rfl) ?_
      refine lv_aload_n hx hb dX1_rank_14 rfl (lv_at hl 0 rfl) ?_
      refine sg_sizeMask hx hb hE hi hS hown (hts (.fieldLink RX1 47 "PedalBoard$Sort" "sizeMask" "J") (by decide +kernel)) dX1_rank_15 ?_
      refine lv_lxor hx hb dX1_rank_18 ?_
      refine lv_goto (tgt := 23) hx hb dX1_rank_19 (by decide) ?_
      exact rt_l hx hb hr hlocks hP hD hS dX1_rank_23 (by rw [fX1_rank, if_pos c_1, if_pos c_2])
    · refine lv_lload_n hx hb dX1_rank_22 rfl (lv_at hl 1 rfl) ?_
      exact rt_l hx hb hr hlocks hP hD hS dX1_rank_23 (by rw [fX1_rank, if_pos c_1, if_neg c_2])
  · refine lv_lload_n hx hb dX1_rank_22 rfl (lv_at hl 1 rfl) ?_
    exact rt_l hx hb hr hlocks hP hD hS dX1_rank_23 (by rw [fX1_rank, if_neg c_1])
def fX1_isLess (i : Nat) (a : Int64) (b : Int64) : Int32 := (if (fX1_rank i a) < (fX1_rank i b) then (1:Int32) else (0:Int32))
set_option maxHeartbeats 4000000 in
set_option maxRecDepth 100000 in
theorem kX1_isLess (l : Launch) (G : GT) (i : Nat) (a : Int64) (b : Int64) (hi : i < 4) : CI l yX1_isLess wsX1_isLess { frames := 2, cells := 0, slots := 0, locals := 42 } G [.ref (G.2.2.1 i), .long a, .long b] [] (fX1_isLess i a b) [] := by
  refine en_i (cc := cX1_isLess) (maxL := 5) (ret := (some .boolean)) (own := RX1) (by decide) rfl rfl (Nat.le_of_ble_eq_true rfl) ?_
  intro p e s m below meth c A ls hx hb hr hts hown hml hlocks hA hK hE hP hD hS hl
  have hl : lv_has ls 5 [(0, .ref (G.2.2.1 i)), (1, .long a), (3, .long b)] := hl
  refine lv_aload_n hx hb dX1_isLess_0 rfl (lv_at hl 0 rfl) ?_
  refine lv_lload_n hx hb dX1_isLess_1 rfl (lv_at hl 1 rfl) ?_
  refine cv_l (As := [.long a]) (rest := []) ⟨hx, hb, hml, hown, hts⟩ (kX1_rank l G i a hi) (cwV 1 hts gX1_isLess_X1_rank rfl rfl rfl (by decide +kernel) ⟨Nat.le_of_ble_eq_true rfl, Nat.le_of_ble_eq_true rfl⟩) (so_rec hE hi hS) hE hK hP hD hS hA hl.1 [] rfl rfl rfl rfl rfl rfl (Nat.le_of_ble_eq_true rfl) dX1_isLess_2 ⟨Nat.zero_le _, Nat.zero_le _⟩ (fun H locs hP hD hS => ?_)
  have hP : va_P G.1 vwCl [] H := hP
  have hD : va_D A [] := hD
  refine lv_aload_n hx hb dX1_isLess_5 rfl (lv_at hl 0 rfl) ?_
  refine lv_lload_n hx hb dX1_isLess_6 rfl (lv_at hl 2 rfl) ?_
  refine cv_l (As := [.long b]) (rest := [.long (fX1_rank i a)]) ⟨hx, hb, hml, hown, hts⟩ (kX1_rank l G i b hi) (cwV 1 hts gX1_isLess_X1_rank rfl rfl rfl (by decide +kernel) ⟨Nat.le_of_ble_eq_true rfl, Nat.le_of_ble_eq_true rfl⟩) (so_rec hE hi hS) hE hK hP hD hS hA hl.1 [] rfl rfl rfl rfl rfl rfl (Nat.le_of_ble_eq_true rfl) dX1_isLess_7 ⟨Nat.zero_le _, Nat.zero_le _⟩ (fun H locs hP hD hS => ?_)
  have hP : va_P G.1 vwCl [] H := hP
  have hD : va_D A [] := hD
  refine bl_ge (tgt := 18) hx hb dX1_isLess_10 dX1_isLess_11 (by decide) (fun c_1 => ?_) (fun c_1 => ?_)
  · refine lv_iconst (v := (1:Int32)) hx hb dX1_isLess_14 (by decide) ?_
    refine lv_goto (tgt := 19) hx hb dX1_isLess_15 (by decide) ?_
    exact rt_z hx hb hr hlocks hP hD hS dX1_isLess_19 (by rw [fX1_isLess, if_pos c_1]) (z_nar (Or.inr rfl))
  · refine lv_iconst (v := (0:Int32)) hx hb dX1_isLess_18 (by decide) ?_
    exact rt_z hx hb hr hlocks hP hD hS dX1_isLess_19 (by rw [fX1_isLess, if_neg c_1]) (z_nar (Or.inl rfl))
theorem z_X1_isLess (i : Nat) (a : Int64) (b : Int64) : fX1_isLess i a b = 0 ∨ fX1_isLess i a b = 1 := by
  unfold fX1_isLess; repeat (first | exact Or.inl rfl | exact Or.inr rfl | split)
def fX1_fitted (i : Nat) (v : Int64) : Int64 := (if (so_bits i) = (32:Int32) then v.toInt32.toInt64 else v)
set_option maxHeartbeats 4000000 in
set_option maxRecDepth 100000 in
theorem kX1_fitted (l : Launch) (G : GT) (i : Nat) (v : Int64) (hi : i < 4) : CL l yX1_fitted wsX1_fitted { frames := 0, cells := 0, slots := 0, locals := 0 } G [.ref (G.2.2.1 i), .long v] [] (fX1_fitted i v) [] := by
  refine en_l (cc := cX1_fitted) (maxL := 3) (ret := (some .long)) (own := RX1) (by decide) rfl rfl (Nat.le_of_ble_eq_true rfl) ?_
  intro p e s m below meth c A ls hx hb hr hts hown hml hlocks hA hK hE hP hD hS hl
  have hl : lv_has ls 3 [(0, .ref (G.2.2.1 i)), (1, .long v)] := hl
  refine lv_aload_n hx hb dX1_fitted_0 rfl (lv_at hl 0 rfl) ?_
  refine sg_bits hx hb hE hi hS hown (hts (.fieldLink RX1 37 "PedalBoard$Sort" "bits" "I") (by decide +kernel)) dX1_fitted_1 ?_
  refine lv_bipush (v := (32:Int32)) hx hb dX1_fitted_4 (by decide) ?_
  refine bi_ne (tgt := 15) hx hb dX1_fitted_6 (by decide) (fun c_1 => ?_) (fun c_1 => ?_)
  · refine lv_lload_n hx hb dX1_fitted_9 rfl (lv_at hl 1 rfl) ?_
    refine r_l2i hx hb dX1_fitted_10 ?_
    refine r_i2l hx hb dX1_fitted_11 ?_
    refine lv_goto (tgt := 16) hx hb dX1_fitted_12 (by decide) ?_
    exact rt_l hx hb hr hlocks hP hD hS dX1_fitted_16 (by rw [fX1_fitted, if_pos c_1])
  · refine lv_lload_n hx hb dX1_fitted_15 rfl (lv_at hl 1 rfl) ?_
    exact rt_l hx hb hr hlocks hP hD hS dX1_fitted_16 (by rw [fX1_fitted, if_neg c_1])
def fX1_withOtherSign (i : Nat) (v : Int64) : Int64 := (if (fX1_isWhole i) = 0 then (v ^^^ ((so_mask i) ^^^ (-1:Int64))) else (fX1_fitted i (-v)))
set_option maxHeartbeats 4000000 in
set_option maxRecDepth 100000 in
theorem kX1_withOtherSign (l : Launch) (G : GT) (i : Nat) (v : Int64) (hi : i < 4) : CL l yX1_withOtherSign wsX1_withOtherSign { frames := 1, cells := 0, slots := 0, locals := 22 } G [.ref (G.2.2.1 i), .long v] [] (fX1_withOtherSign i v) [] := by
  refine en_l (cc := cX1_withOtherSign) (maxL := 3) (ret := (some .long)) (own := RX1) (by decide) rfl rfl (Nat.le_of_ble_eq_true rfl) ?_
  intro p e s m below meth c A ls hx hb hr hts hown hml hlocks hA hK hE hP hD hS hl
  have hl : lv_has ls 3 [(0, .ref (G.2.2.1 i)), (1, .long v)] := hl
  refine lv_aload_n hx hb dX1_withOtherSign_0 rfl (lv_at hl 0 rfl) ?_
  refine cv_i (As := []) (rest := []) ⟨hx, hb, hml, hown, hts⟩ (kX1_isWhole l G i hi) (cwV 0 hts gX1_withOtherSign_X1_isWhole rfl rfl rfl (by decide +kernel) ⟨Nat.le_of_ble_eq_true rfl, Nat.le_of_ble_eq_true rfl⟩) (so_rec hE hi hS) hE hK hP hD hS hA hl.1 [] rfl rfl rfl rfl rfl rfl (Nat.le_of_ble_eq_true rfl) dX1_withOtherSign_1 ⟨Nat.zero_le _, Nat.zero_le _⟩ (fun H locs hP hD hS => ?_)
  have hP : va_P G.1 vwCl [] H := hP
  have hD : va_D A [] := hD
  refine bz_eq (tgt := 16) hx hb dX1_withOtherSign_4 (by decide) (fun c_1 => ?_) (fun c_1 => ?_)
  · refine lv_lload_n hx hb dX1_withOtherSign_16 rfl (lv_at hl 1 rfl) ?_
    refine lv_aload_n hx hb dX1_withOtherSign_17 rfl (lv_at hl 0 rfl) ?_
    refine sg_sizeMask hx hb hE hi hS hown (hts (.fieldLink RX1 47 "PedalBoard$Sort" "sizeMask" "J") (by decide +kernel)) dX1_withOtherSign_18 ?_
    refine lv_ldc2 (v := (-1:Int64)) hx hb hown (hts (.constantLong RX1 92 (-1)) (by decide +kernel)) dX1_withOtherSign_21 ?_
    refine lv_lxor hx hb dX1_withOtherSign_24 ?_
    refine lv_lxor hx hb dX1_withOtherSign_25 ?_
    exact rt_l hx hb hr hlocks hP hD hS dX1_withOtherSign_26 (by rw [fX1_withOtherSign, if_pos c_1])
  · refine lv_aload_n hx hb dX1_withOtherSign_7 rfl (lv_at hl 0 rfl) ?_
    refine lv_lload_n hx hb dX1_withOtherSign_8 rfl (lv_at hl 1 rfl) ?_
    refine lv_lneg hx hb dX1_withOtherSign_9 ?_
    refine cv_l (As := [.long (-v)]) (rest := []) ⟨hx, hb, hml, hown, hts⟩ (kX1_fitted l G i (-v) hi) (cwV 1 hts gX1_withOtherSign_X1_fitted rfl rfl rfl (by decide +kernel) ⟨Nat.le_of_ble_eq_true rfl, Nat.le_of_ble_eq_true rfl⟩) (so_rec hE hi hS) hE hK hP hD hS hA hl.1 [] rfl rfl rfl rfl rfl rfl (Nat.le_of_ble_eq_true rfl) dX1_withOtherSign_10 ⟨Nat.zero_le _, Nat.zero_le _⟩ (fun H locs hP hD hS => ?_)
    have hP : va_P G.1 vwCl [] H := hP
    have hD : va_D A [] := hD
    refine lv_goto (tgt := 26) hx hb dX1_withOtherSign_13 (by decide) ?_
    exact rt_l hx hb hr hlocks hP hD hS dX1_withOtherSign_26 (by rw [fX1_withOtherSign, if_neg c_1])
def fX1_withSignOf (i : Nat) (sd : Int64) (v : Int64) : Int64 := (if sd < (0:Int64) then ((v &&& (so_mask i)) ||| ((so_mask i) ^^^ (-1:Int64))) else ((v &&& (so_mask i)) ||| (0:Int64)))
set_option maxHeartbeats 4000000 in
set_option maxRecDepth 100000 in
theorem kX1_withSignOf (l : Launch) (G : GT) (i : Nat) (sd : Int64) (v : Int64) (hi : i < 4) : CL l yX1_withSignOf wsX1_withSignOf { frames := 0, cells := 0, slots := 0, locals := 0 } G [.ref (G.2.2.1 i), .long sd, .long v] [] (fX1_withSignOf i sd v) [] := by
  refine en_l (cc := cX1_withSignOf) (maxL := 5) (ret := (some .long)) (own := RX1) (by decide) rfl rfl (Nat.le_of_ble_eq_true rfl) ?_
  intro p e s m below meth c A ls hx hb hr hts hown hml hlocks hA hK hE hP hD hS hl
  have hl : lv_has ls 5 [(0, .ref (G.2.2.1 i)), (1, .long sd), (3, .long v)] := hl
  refine lv_lload_n hx hb dX1_withSignOf_0 rfl (lv_at hl 2 rfl) ?_
  refine lv_aload_n hx hb dX1_withSignOf_1 rfl (lv_at hl 0 rfl) ?_
  refine sg_sizeMask hx hb hE hi hS hown (hts (.fieldLink RX1 47 "PedalBoard$Sort" "sizeMask" "J") (by decide +kernel)) dX1_withSignOf_2 ?_
  refine lv_land hx hb dX1_withSignOf_5 ?_
  refine lv_lload_n hx hb dX1_withSignOf_6 rfl (lv_at hl 1 rfl) ?_
  refine lv_lconst (v := (0:Int64)) hx hb dX1_withSignOf_7 (by decide) ?_
  refine bl_ge (tgt := 23) hx hb dX1_withSignOf_8 dX1_withSignOf_9 (by decide) (fun c_1 => ?_) (fun c_1 => ?_)
  · refine lv_aload_n hx hb dX1_withSignOf_12 rfl (lv_at hl 0 rfl) ?_
    refine sg_sizeMask hx hb hE hi hS hown (hts (.fieldLink RX1 47 "PedalBoard$Sort" "sizeMask" "J") (by decide +kernel)) dX1_withSignOf_13 ?_
    refine lv_ldc2 (v := (-1:Int64)) hx hb hown (hts (.constantLong RX1 92 (-1)) (by decide +kernel)) dX1_withSignOf_16 ?_
    refine lv_lxor hx hb dX1_withSignOf_19 ?_
    refine lv_goto (tgt := 24) hx hb dX1_withSignOf_20 (by decide) ?_
    refine lv_lor hx hb dX1_withSignOf_24 ?_
    exact rt_l hx hb hr hlocks hP hD hS dX1_withSignOf_25 (by rw [fX1_withSignOf, if_pos c_1])
  · refine lv_lconst (v := (0:Int64)) hx hb dX1_withSignOf_23 (by decide) ?_
    refine lv_lor hx hb dX1_withSignOf_24 ?_
    exact rt_l hx hb hr hlocks hP hD hS dX1_withSignOf_25 (by rw [fX1_withSignOf, if_neg c_1])
def fX1_growsAway (kd : Int32) (v : Int64) : Int32 := (if kd = (3:Int32) then (if v < (0:Int64) then (1:Int32) else (0:Int32)) else (if v < (0:Int64) then (0:Int32) else (1:Int32)))
set_option maxHeartbeats 4000000 in
set_option maxRecDepth 100000 in
theorem kX1_growsAway (l : Launch) (G : GT) (kd : Int32) (v : Int64) : CI l yX1_growsAway wsX1_growsAway { frames := 0, cells := 0, slots := 0, locals := 0 } G [.int kd, .long v] [] (fX1_growsAway kd v) [] := by
  refine en_i (cc := cX1_growsAway) (maxL := 3) (ret := (some .boolean)) (own := RX1) (by decide) rfl rfl (Nat.le_of_ble_eq_true rfl) ?_
  intro p e s m below meth c A ls hx hb hr hts hown hml hlocks hA hK hE hP hD hS hl
  have hl : lv_has ls 3 [(0, .int kd), (1, .long v)] := hl
  refine lv_iload_n hx hb dX1_growsAway_0 rfl (lv_at hl 0 rfl) ?_
  refine lv_iconst (v := (3:Int32)) hx hb dX1_growsAway_1 (by decide) ?_
  refine bi_ne (tgt := 19) hx hb dX1_growsAway_2 (by decide) (fun c_1 => ?_) (fun c_1 => ?_)
  · refine lv_lload_n hx hb dX1_growsAway_5 rfl (lv_at hl 1 rfl) ?_
    refine lv_lconst (v := (0:Int64)) hx hb dX1_growsAway_6 (by decide) ?_
    refine bl_ge (tgt := 15) hx hb dX1_growsAway_7 dX1_growsAway_8 (by decide) (fun c_2 => ?_) (fun c_2 => ?_)
    · refine lv_iconst (v := (1:Int32)) hx hb dX1_growsAway_11 (by decide) ?_
      refine lv_goto (tgt := 30) hx hb dX1_growsAway_12 (by decide) ?_
      exact rt_z hx hb hr hlocks hP hD hS dX1_growsAway_30 (by rw [fX1_growsAway, if_pos c_1, if_pos c_2]) (z_nar (Or.inr rfl))
    · refine lv_iconst (v := (0:Int32)) hx hb dX1_growsAway_15 (by decide) ?_
      refine lv_goto (tgt := 30) hx hb dX1_growsAway_16 (by decide) ?_
      exact rt_z hx hb hr hlocks hP hD hS dX1_growsAway_30 (by rw [fX1_growsAway, if_pos c_1, if_neg c_2]) (z_nar (Or.inl rfl))
  · refine lv_lload_n hx hb dX1_growsAway_19 rfl (lv_at hl 1 rfl) ?_
    refine lv_lconst (v := (0:Int64)) hx hb dX1_growsAway_20 (by decide) ?_
    refine bl_lt (tgt := 29) hx hb dX1_growsAway_21 dX1_growsAway_22 (by decide) (fun c_3 => ?_) (fun c_3 => ?_)
    · refine lv_iconst (v := (0:Int32)) hx hb dX1_growsAway_29 (by decide) ?_
      exact rt_z hx hb hr hlocks hP hD hS dX1_growsAway_30 (by rw [fX1_growsAway, if_neg c_1, if_pos c_3]) (z_nar (Or.inl rfl))
    · refine lv_iconst (v := (1:Int32)) hx hb dX1_growsAway_25 (by decide) ?_
      refine lv_goto (tgt := 30) hx hb dX1_growsAway_26 (by decide) ?_
      exact rt_z hx hb hr hlocks hP hD hS dX1_growsAway_30 (by rw [fX1_growsAway, if_neg c_1, if_neg c_3]) (z_nar (Or.inr rfl))
theorem z_X1_growsAway (kd : Int32) (v : Int64) : fX1_growsAway kd v = 0 ∨ fX1_growsAway kd v = 1 := by
  unfold fX1_growsAway; repeat (first | exact Or.inl rfl | exact Or.inr rfl | split)
def fX1_isNearerAway (inn : Int64) (rs : Int64) (un : Int64) : Int32 := (if (shR un (1:Int32)) < rs then (1:Int32) else (if rs = (shR un (1:Int32)) then (if (inn &&& un) = (0:Int64) then (0:Int32) else (1:Int32)) else (0:Int32)))
set_option maxHeartbeats 4000000 in
set_option maxRecDepth 100000 in
theorem kX1_isNearerAway (l : Launch) (G : GT) (inn : Int64) (rs : Int64) (un : Int64) : CI l yX1_isNearerAway wsX1_isNearerAway { frames := 0, cells := 0, slots := 0, locals := 0 } G [.long inn, .long rs, .long un] [] (fX1_isNearerAway inn rs un) [] := by
  refine en_i (cc := cX1_isNearerAway) (maxL := 8) (ret := (some .boolean)) (own := RX1) (by decide) rfl rfl (Nat.le_of_ble_eq_true rfl) ?_
  intro p e s m below meth c A ls hx hb hr hts hown hml hlocks hA hK hE hP hD hS hl
  have hl : lv_has ls 8 [(0, .long inn), (2, .long rs), (4, .long un)] := hl
  refine lv_lload hx hb dX1_isNearerAway_0 (lv_at hl 2 rfl) ?_
  refine lv_iconst (v := (1:Int32)) hx hb dX1_isNearerAway_2 (by decide) ?_
  refine r_lshr hx hb dX1_isNearerAway_3 ?_
  refine lv_lstore (lv' := [(6, .long (shR un (1:Int32))), (0, .long inn), (2, .long rs), (4, .long un)]) hx hb dX1_isNearerAway_4 hl (by decide) rfl (fun ls hl => ?_)
  refine lv_lload_n hx hb dX1_isNearerAway_6 rfl (lv_at hl 2 rfl) ?_
  refine lv_lload hx hb dX1_isNearerAway_7 (lv_at hl 0 rfl) ?_
  refine bl_gt (tgt := 29) hx hb dX1_isNearerAway_9 dX1_isNearerAway_10 (by decide) (fun c_1 => ?_) (fun c_1 => ?_)
  · refine lv_iconst (v := (1:Int32)) hx hb dX1_isNearerAway_29 (by decide) ?_
    refine lv_goto (tgt := 34) hx hb dX1_isNearerAway_30 (by decide) ?_
    exact rt_z hx hb hr hlocks hP hD hS dX1_isNearerAway_34 (by rw [fX1_isNearerAway, if_pos c_1]) (z_nar (Or.inr rfl))
  · refine lv_lload_n hx hb dX1_isNearerAway_13 rfl (lv_at hl 2 rfl) ?_
    refine lv_lload hx hb dX1_isNearerAway_14 (lv_at hl 0 rfl) ?_
    refine bl_ne (tgt := 33) hx hb dX1_isNearerAway_16 dX1_isNearerAway_17 (by decide) (fun c_2 => ?_) (fun c_2 => ?_)
    · refine lv_lload_n hx hb dX1_isNearerAway_20 rfl (lv_at hl 1 rfl) ?_
      refine lv_lload hx hb dX1_isNearerAway_21 (lv_at hl 3 rfl) ?_
      refine lv_land hx hb dX1_isNearerAway_23 ?_
      refine lv_lconst (v := (0:Int64)) hx hb dX1_isNearerAway_24 (by decide) ?_
      refine bl_eq (tgt := 33) hx hb dX1_isNearerAway_25 dX1_isNearerAway_26 (by decide) (fun c_3 => ?_) (fun c_3 => ?_)
      · refine lv_iconst (v := (0:Int32)) hx hb dX1_isNearerAway_33 (by decide) ?_
        exact rt_z hx hb hr hlocks hP hD hS dX1_isNearerAway_34 (by rw [fX1_isNearerAway, if_neg c_1, if_pos c_2, if_pos c_3]) (z_nar (Or.inl rfl))
      · refine lv_iconst (v := (1:Int32)) hx hb dX1_isNearerAway_29 (by decide) ?_
        refine lv_goto (tgt := 34) hx hb dX1_isNearerAway_30 (by decide) ?_
        exact rt_z hx hb hr hlocks hP hD hS dX1_isNearerAway_34 (by rw [fX1_isNearerAway, if_neg c_1, if_pos c_2, if_neg c_3]) (z_nar (Or.inr rfl))
    · refine lv_iconst (v := (0:Int32)) hx hb dX1_isNearerAway_33 (by decide) ?_
      exact rt_z hx hb hr hlocks hP hD hS dX1_isNearerAway_34 (by rw [fX1_isNearerAway, if_neg c_1, if_neg c_2]) (z_nar (Or.inl rfl))
theorem z_X1_isNearerAway (inn : Int64) (rs : Int64) (un : Int64) : fX1_isNearerAway inn rs un = 0 ∨ fX1_isNearerAway inn rs un = 1 := by
  unfold fX1_isNearerAway; repeat (first | exact Or.inl rfl | exact Or.inr rfl | split)
def fX1_wholeSize_75 (i : Nat) (y_4 : Int32) : Int64 := (if y_4 = 0 then (0:Int64) else (fX1_one i))
def fX1_wholeSize_150 (i : Nat) (v : Int64) (y_10 : Int32) : Int64 := (if y_10 = 0 then ((v &&& (so_mask i)) - ((v &&& (so_mask i)) &&& ((shL (1:Int64) ((so_frac i) - ((shR (v &&& (so_mask i)) (so_frac i)).toInt32 - (so_bias i)))) - (1:Int64)))) else (((v &&& (so_mask i)) - ((v &&& (so_mask i)) &&& ((shL (1:Int64) ((so_frac i) - ((shR (v &&& (so_mask i)) (so_frac i)).toInt32 - (so_bias i)))) - (1:Int64)))) + (shL (1:Int64) ((so_frac i) - ((shR (v &&& (so_mask i)) (so_frac i)).toInt32 - (so_bias i))))))
def fX1_wholeSize (i : Nat) (kd : Int32) (v : Int64) : Int64 := (if (v &&& (so_mask i)) = (0:Int64) then (v &&& (so_mask i)) else (if ((shR (v &&& (so_mask i)) (so_frac i)).toInt32 - (so_bias i)) < (so_frac i) then (if ((shR (v &&& (so_mask i)) (so_frac i)).toInt32 - (so_bias i)) < 0 then (fX1_wholeSize_75 i (if kd = (5:Int32) then (if (fX1_oneHalf i) < (v &&& (so_mask i)) then (1:Int32) else (0:Int32)) else (fX1_growsAway kd v))) else (if ((v &&& (so_mask i)) &&& ((shL (1:Int64) ((so_frac i) - ((shR (v &&& (so_mask i)) (so_frac i)).toInt32 - (so_bias i)))) - (1:Int64))) = (0:Int64) then (v &&& (so_mask i)) else (fX1_wholeSize_150 i v (if kd = (5:Int32) then (fX1_isNearerAway ((v &&& (so_mask i)) - ((v &&& (so_mask i)) &&& ((shL (1:Int64) ((so_frac i) - ((shR (v &&& (so_mask i)) (so_frac i)).toInt32 - (so_bias i)))) - (1:Int64)))) ((v &&& (so_mask i)) &&& ((shL (1:Int64) ((so_frac i) - ((shR (v &&& (so_mask i)) (so_frac i)).toInt32 - (so_bias i)))) - (1:Int64))) (shL (1:Int64) ((so_frac i) - ((shR (v &&& (so_mask i)) (so_frac i)).toInt32 - (so_bias i))))) else (fX1_growsAway kd v))))) else (v &&& (so_mask i))))
set_option maxHeartbeats 4000000 in
set_option maxRecDepth 100000 in
theorem kX1_wholeSize (l : Launch) (G : GT) (i : Nat) (kd : Int32) (v : Int64) (hi : i < 4) : CL l yX1_wholeSize wsX1_wholeSize { frames := 1, cells := 0, slots := 0, locals := 27 } G [.ref (G.2.2.1 i), .int kd, .long v] [] (fX1_wholeSize i kd v) [] := by
  refine en_l (cc := cX1_wholeSize) (maxL := 14) (ret := (some .long)) (own := RX1) (by decide) rfl rfl (Nat.le_of_ble_eq_true rfl) ?_
  intro p e s m below meth c A ls hx hb hr hts hown hml hlocks hA hK hE hP hD hS hl
  have hl : lv_has ls 14 [(0, .ref (G.2.2.1 i)), (1, .int kd), (2, .long v)] := hl
  refine lv_lload_n hx hb dX1_wholeSize_0 rfl (lv_at hl 2 rfl) ?_
  refine lv_aload_n hx hb dX1_wholeSize_1 rfl (lv_at hl 0 rfl) ?_
  refine sg_sizeMask hx hb hE hi hS hown (hts (.fieldLink RX1 47 "PedalBoard$Sort" "sizeMask" "J") (by decide +kernel)) dX1_wholeSize_2 ?_
  refine lv_land hx hb dX1_wholeSize_5 ?_
  refine lv_lstore (lv' := [(4, .long (v &&& (so_mask i))), (0, .ref (G.2.2.1 i)), (1, .int kd), (2, .long v)]) hx hb dX1_wholeSize_6 hl (by decide) rfl (fun ls hl => ?_)
  refine lv_lload hx hb dX1_wholeSize_8 (lv_at hl 0 rfl) ?_
  refine lv_aload_n hx hb dX1_wholeSize_10 rfl (lv_at hl 1 rfl) ?_
  refine sg_fraction hx hb hE hi hS hown (hts (.fieldLink RX1 41 "PedalBoard$Sort" "fraction" "I") (by decide +kernel)) dX1_wholeSize_11 ?_
  refine r_lshr hx hb dX1_wholeSize_14 ?_
  refine r_l2i hx hb dX1_wholeSize_15 ?_
  refine lv_aload_n hx hb dX1_wholeSize_16 rfl (lv_at hl 1 rfl) ?_
  refine sg_bias hx hb hE hi hS hown (hts (.fieldLink RX1 44 "PedalBoard$Sort" "bias" "I") (by decide +kernel)) dX1_wholeSize_17 ?_
  refine lv_isub hx hb dX1_wholeSize_20 ?_
  refine lv_istore (lv' := [(6, .int ((shR (v &&& (so_mask i)) (so_frac i)).toInt32 - (so_bias i))), (4, .long (v &&& (so_mask i))), (0, .ref (G.2.2.1 i)), (1, .int kd), (2, .long v)]) hx hb dX1_wholeSize_21 hl (by decide) rfl (fun ls hl => ?_)
  refine lv_lload hx hb dX1_wholeSize_23 (lv_at hl 1 rfl) ?_
  refine lv_lconst (v := (0:Int64)) hx hb dX1_wholeSize_25 (by decide) ?_
  refine bl_eq (tgt := 39) hx hb dX1_wholeSize_26 dX1_wholeSize_27 (by decide) (fun c_1 => ?_) (fun c_1 => ?_)
  · refine lv_lload hx hb dX1_wholeSize_39 (lv_at hl 1 rfl) ?_
    exact rt_l hx hb hr hlocks hP hD hS dX1_wholeSize_41 (by rw [fX1_wholeSize, if_pos c_1])
  · refine lv_iload hx hb dX1_wholeSize_30 (lv_at hl 0 rfl) ?_
    refine lv_aload_n hx hb dX1_wholeSize_32 rfl (lv_at hl 2 rfl) ?_
    refine sg_fraction hx hb hE hi hS hown (hts (.fieldLink RX1 41 "PedalBoard$Sort" "fraction" "I") (by decide +kernel)) dX1_wholeSize_33 ?_
    refine bi_lt (tgt := 42) hx hb dX1_wholeSize_36 (by decide) (fun c_2 => ?_) (fun c_2 => ?_)
    · refine lv_iload hx hb dX1_wholeSize_42 (lv_at hl 0 rfl) ?_
      refine bz_ge (tgt := 91) hx hb dX1_wholeSize_44 (by decide) (fun c_3 => ?_) (fun c_3 => ?_)
      · refine lv_iload_n hx hb dX1_wholeSize_47 rfl (lv_at hl 3 rfl) ?_
        refine lv_iconst (v := (5:Int32)) hx hb dX1_wholeSize_48 (by decide) ?_
        refine jn_1 (T := Int32) G A (if kd = (5:Int32) then (if (fX1_oneHalf i) < (v &&& (so_mask i)) then (1:Int32) else (0:Int32)) else (fX1_growsAway kd v)) [] 14 (fun y => [(0, .ref (G.2.2.1 i))]) (fun y => [.int y]) 75 ?_ ?_
        · intro y_4 ey_4 H locs ls hP hD hS hl
          have hr_7 : fX1_wholeSize i kd v = fX1_wholeSize_75 i y_4 := by rw [ey_4, fX1_wholeSize, if_neg c_1, if_pos c_2, if_pos c_3]
          refine lv_istore (lv' := [(7, .int y_4), (0, .ref (G.2.2.1 i))]) hx hb dX1_wholeSize_75 hl (by decide) rfl (fun ls hl => ?_)
          refine lv_iload hx hb dX1_wholeSize_77 (lv_at hl 0 rfl) ?_
          refine bz_eq (tgt := 89) hx hb dX1_wholeSize_79 (by decide) (fun c_8 => ?_) (fun c_8 => ?_)
          · refine lv_lconst (v := (0:Int64)) hx hb dX1_wholeSize_89 (by decide) ?_
            exact rt_l hx hb hr hlocks hP hD hS dX1_wholeSize_90 (by rw [hr_7, fX1_wholeSize_75, if_pos c_8])
          · refine lv_aload_n hx hb dX1_wholeSize_82 rfl (lv_at hl 1 rfl) ?_
            refine cv_l (As := []) (rest := []) ⟨hx, hb, hml, hown, hts⟩ (kX1_one l G i hi) (cwV 0 hts gX1_wholeSize_X1_one rfl rfl rfl (by decide +kernel) ⟨Nat.le_of_ble_eq_true rfl, Nat.le_of_ble_eq_true rfl⟩) (so_rec hE hi hS) hE hK hP hD hS hA hl.1 [] rfl rfl rfl rfl rfl rfl (Nat.le_of_ble_eq_true rfl) dX1_wholeSize_83 ⟨Nat.zero_le _, Nat.zero_le _⟩ (fun H locs hP hD hS => ?_)
            have hP : va_P G.1 vwCl [] H := hP
            have hD : va_D A [] := hD
            refine lv_goto (tgt := 90) hx hb dX1_wholeSize_86 (by decide) ?_
            exact rt_l hx hb hr hlocks hP hD hS dX1_wholeSize_90 (by rw [hr_7, fX1_wholeSize_75, if_neg c_8])
        · intro kj_4
          refine bi_ne (tgt := 70) hx hb dX1_wholeSize_49 (by decide) (fun c_5 => ?_) (fun c_5 => ?_)
          · refine lv_lload hx hb dX1_wholeSize_52 (lv_at hl 1 rfl) ?_
            refine lv_aload_n hx hb dX1_wholeSize_54 rfl (lv_at hl 2 rfl) ?_
            refine cv_l (As := []) (rest := [.long (v &&& (so_mask i))]) ⟨hx, hb, hml, hown, hts⟩ (kX1_oneHalf l G i hi) (cwV 0 hts gX1_wholeSize_X1_oneHalf rfl rfl rfl (by decide +kernel) ⟨Nat.le_of_ble_eq_true rfl, Nat.le_of_ble_eq_true rfl⟩) (so_rec hE hi hS) hE hK hP hD hS hA hl.1 [] rfl rfl rfl rfl rfl rfl (Nat.le_of_ble_eq_true rfl) dX1_wholeSize_55 ⟨Nat.zero_le _, Nat.zero_le _⟩ (fun H locs hP hD hS => ?_)
            have hP : va_P G.1 vwCl [] H := hP
            have hD : va_D A [] := hD
            refine bl_le (tgt := 66) hx hb dX1_wholeSize_58 dX1_wholeSize_59 (by decide) (fun c_6 => ?_) (fun c_6 => ?_)
            · refine lv_iconst (v := (1:Int32)) hx hb dX1_wholeSize_62 (by decide) ?_
              refine lv_goto (tgt := 75) hx hb dX1_wholeSize_63 (by decide) ?_
              exact kj_4 (1:Int32) (by rw [if_pos c_5, if_pos c_6]) H locs ls hP hD hS (lv_sub hl [2] rfl)
            · refine lv_iconst (v := (0:Int32)) hx hb dX1_wholeSize_66 (by decide) ?_
              refine lv_goto (tgt := 75) hx hb dX1_wholeSize_67 (by decide) ?_
              exact kj_4 (0:Int32) (by rw [if_pos c_5, if_neg c_6]) H locs ls hP hD hS (lv_sub hl [2] rfl)
          · refine lv_iload_n hx hb dX1_wholeSize_70 rfl (lv_at hl 3 rfl) ?_
            refine lv_lload_n hx hb dX1_wholeSize_71 rfl (lv_at hl 4 rfl) ?_
            refine cs_i (As := [.int kd, .long v]) (rest := []) ⟨hx, hb, hml, hown, hts⟩ (kX1_growsAway l G kd v) (va_cwS 2 hts gX1_wholeSize_X1_growsAway rfl rfl rfl (by decide +kernel) ⟨Nat.le_of_ble_eq_true rfl, Nat.le_of_ble_eq_true rfl⟩) hE hK hP hD hS hA hl.1 [] rfl rfl rfl rfl rfl rfl (Nat.le_of_ble_eq_true rfl) dX1_wholeSize_72 ⟨Nat.zero_le _, Nat.zero_le _⟩ (fun H locs hP hD hS => ?_)
            have hP : va_P G.1 vwCl [] H := hP
            have hD : va_D A [] := hD
            exact kj_4 (fX1_growsAway kd v) (by rw [if_neg c_5]) H locs ls hP hD hS (lv_sub hl [2] rfl)
      · refine lv_lconst (v := (1:Int64)) hx hb dX1_wholeSize_91 (by decide) ?_
        refine lv_aload_n hx hb dX1_wholeSize_92 rfl (lv_at hl 2 rfl) ?_
        refine sg_fraction hx hb hE hi hS hown (hts (.fieldLink RX1 41 "PedalBoard$Sort" "fraction" "I") (by decide +kernel)) dX1_wholeSize_93 ?_
        refine lv_iload hx hb dX1_wholeSize_96 (lv_at hl 0 rfl) ?_
        refine lv_isub hx hb dX1_wholeSize_98 ?_
        refine r_lshl hx hb dX1_wholeSize_99 ?_
        refine lv_lstore (lv' := [(7, .long (shL (1:Int64) ((so_frac i) - ((shR (v &&& (so_mask i)) (so_frac i)).toInt32 - (so_bias i))))), (6, .int ((shR (v &&& (so_mask i)) (so_frac i)).toInt32 - (so_bias i))), (4, .long (v &&& (so_mask i))), (0, .ref (G.2.2.1 i)), (1, .int kd), (2, .long v)]) hx hb dX1_wholeSize_100 hl (by decide) rfl (fun ls hl => ?_)
        refine lv_lload hx hb dX1_wholeSize_102 (lv_at hl 2 rfl) ?_
        refine lv_lload hx hb dX1_wholeSize_104 (lv_at hl 0 rfl) ?_
        refine lv_lconst (v := (1:Int64)) hx hb dX1_wholeSize_106 (by decide) ?_
        refine lv_lsub hx hb dX1_wholeSize_107 ?_
        refine lv_land hx hb dX1_wholeSize_108 ?_
        refine lv_lstore (lv' := [(9, .long ((v &&& (so_mask i)) &&& ((shL (1:Int64) ((so_frac i) - ((shR (v &&& (so_mask i)) (so_frac i)).toInt32 - (so_bias i)))) - (1:Int64)))), (7, .long (shL (1:Int64) ((so_frac i) - ((shR (v &&& (so_mask i)) (so_frac i)).toInt32 - (so_bias i))))), (6, .int ((shR (v &&& (so_mask i)) (so_frac i)).toInt32 - (so_bias i))), (4, .long (v &&& (so_mask i))), (0, .ref (G.2.2.1 i)), (1, .int kd), (2, .long v)]) hx hb dX1_wholeSize_109 hl (by decide) rfl (fun ls hl => ?_)
        refine lv_lload hx hb dX1_wholeSize_111 (lv_at hl 0 rfl) ?_
        refine lv_lconst (v := (0:Int64)) hx hb dX1_wholeSize_113 (by decide) ?_
        refine bl_ne (tgt := 121) hx hb dX1_wholeSize_114 dX1_wholeSize_115 (by decide) (fun c_9 => ?_) (fun c_9 => ?_)
        · refine lv_lload hx hb dX1_wholeSize_118 (lv_at hl 3 rfl) ?_
          exact rt_l hx hb hr hlocks hP hD hS dX1_wholeSize_120 (by rw [fX1_wholeSize, if_neg c_1, if_pos c_2, if_neg c_3, if_pos c_9])
        · refine lv_lload hx hb dX1_wholeSize_121 (lv_at hl 3 rfl) ?_
          refine lv_lload hx hb dX1_wholeSize_123 (lv_at hl 0 rfl) ?_
          refine lv_lsub hx hb dX1_wholeSize_125 ?_
          refine lv_lstore (lv' := [(11, .long ((v &&& (so_mask i)) - ((v &&& (so_mask i)) &&& ((shL (1:Int64) ((so_frac i) - ((shR (v &&& (so_mask i)) (so_frac i)).toInt32 - (so_bias i)))) - (1:Int64))))), (9, .long ((v &&& (so_mask i)) &&& ((shL (1:Int64) ((so_frac i) - ((shR (v &&& (so_mask i)) (so_frac i)).toInt32 - (so_bias i)))) - (1:Int64)))), (7, .long (shL (1:Int64) ((so_frac i) - ((shR (v &&& (so_mask i)) (so_frac i)).toInt32 - (so_bias i))))), (6, .int ((shR (v &&& (so_mask i)) (so_frac i)).toInt32 - (so_bias i))), (4, .long (v &&& (so_mask i))), (0, .ref (G.2.2.1 i)), (1, .int kd), (2, .long v)]) hx hb dX1_wholeSize_126 hl (by decide) rfl (fun ls hl => ?_)
          refine lv_iload_n hx hb dX1_wholeSize_128 rfl (lv_at hl 6 rfl) ?_
          refine lv_iconst (v := (5:Int32)) hx hb dX1_wholeSize_129 (by decide) ?_
          refine jn_1 (T := Int32) G A (if kd = (5:Int32) then (fX1_isNearerAway ((v &&& (so_mask i)) - ((v &&& (so_mask i)) &&& ((shL (1:Int64) ((so_frac i) - ((shR (v &&& (so_mask i)) (so_frac i)).toInt32 - (so_bias i)))) - (1:Int64)))) ((v &&& (so_mask i)) &&& ((shL (1:Int64) ((so_frac i) - ((shR (v &&& (so_mask i)) (so_frac i)).toInt32 - (so_bias i)))) - (1:Int64))) (shL (1:Int64) ((so_frac i) - ((shR (v &&& (so_mask i)) (so_frac i)).toInt32 - (so_bias i))))) else (fX1_growsAway kd v)) [] 14 (fun y => [(7, .long (shL (1:Int64) ((so_frac i) - ((shR (v &&& (so_mask i)) (so_frac i)).toInt32 - (so_bias i))))), (11, .long ((v &&& (so_mask i)) - ((v &&& (so_mask i)) &&& ((shL (1:Int64) ((so_frac i) - ((shR (v &&& (so_mask i)) (so_frac i)).toInt32 - (so_bias i)))) - (1:Int64)))))]) (fun y => [.int y]) 150 ?_ ?_
          · intro y_10 ey_10 H locs ls hP hD hS hl
            have hr_12 : fX1_wholeSize i kd v = fX1_wholeSize_150 i v y_10 := by rw [ey_10, fX1_wholeSize, if_neg c_1, if_pos c_2, if_neg c_3, if_neg c_9]
            refine lv_istore (lv' := [(13, .int y_10), (7, .long (shL (1:Int64) ((so_frac i) - ((shR (v &&& (so_mask i)) (so_frac i)).toInt32 - (so_bias i))))), (11, .long ((v &&& (so_mask i)) - ((v &&& (so_mask i)) &&& ((shL (1:Int64) ((so_frac i) - ((shR (v &&& (so_mask i)) (so_frac i)).toInt32 - (so_bias i)))) - (1:Int64)))))]) hx hb dX1_wholeSize_150 hl (by decide) rfl (fun ls hl => ?_)
            refine lv_iload hx hb dX1_wholeSize_152 (lv_at hl 0 rfl) ?_
            refine bz_eq (tgt := 165) hx hb dX1_wholeSize_154 (by decide) (fun c_13 => ?_) (fun c_13 => ?_)
            · refine lv_lload hx hb dX1_wholeSize_165 (lv_at hl 2 rfl) ?_
              exact rt_l hx hb hr hlocks hP hD hS dX1_wholeSize_167 (by rw [hr_12, fX1_wholeSize_150, if_pos c_13])
            · refine lv_lload hx hb dX1_wholeSize_157 (lv_at hl 2 rfl) ?_
              refine lv_lload hx hb dX1_wholeSize_159 (lv_at hl 1 rfl) ?_
              refine lv_ladd hx hb dX1_wholeSize_161 ?_
              refine lv_goto (tgt := 167) hx hb dX1_wholeSize_162 (by decide) ?_
              exact rt_l hx hb hr hlocks hP hD hS dX1_wholeSize_167 (by rw [hr_12, fX1_wholeSize_150, if_neg c_13])
          · intro kj_10
            refine bi_ne (tgt := 145) hx hb dX1_wholeSize_130 (by decide) (fun c_11 => ?_) (fun c_11 => ?_)
            · refine lv_lload hx hb dX1_wholeSize_133 (lv_at hl 0 rfl) ?_
              refine lv_lload hx hb dX1_wholeSize_135 (lv_at hl 1 rfl) ?_
              refine lv_lload hx hb dX1_wholeSize_137 (lv_at hl 2 rfl) ?_
              refine cs_i (As := [.long ((v &&& (so_mask i)) - ((v &&& (so_mask i)) &&& ((shL (1:Int64) ((so_frac i) - ((shR (v &&& (so_mask i)) (so_frac i)).toInt32 - (so_bias i)))) - (1:Int64)))), .long ((v &&& (so_mask i)) &&& ((shL (1:Int64) ((so_frac i) - ((shR (v &&& (so_mask i)) (so_frac i)).toInt32 - (so_bias i)))) - (1:Int64))), .long (shL (1:Int64) ((so_frac i) - ((shR (v &&& (so_mask i)) (so_frac i)).toInt32 - (so_bias i))))]) (rest := []) ⟨hx, hb, hml, hown, hts⟩ (kX1_isNearerAway l G ((v &&& (so_mask i)) - ((v &&& (so_mask i)) &&& ((shL (1:Int64) ((so_frac i) - ((shR (v &&& (so_mask i)) (so_frac i)).toInt32 - (so_bias i)))) - (1:Int64)))) ((v &&& (so_mask i)) &&& ((shL (1:Int64) ((so_frac i) - ((shR (v &&& (so_mask i)) (so_frac i)).toInt32 - (so_bias i)))) - (1:Int64))) (shL (1:Int64) ((so_frac i) - ((shR (v &&& (so_mask i)) (so_frac i)).toInt32 - (so_bias i))))) (va_cwS 3 hts gX1_wholeSize_X1_isNearerAway rfl rfl rfl (by decide +kernel) ⟨Nat.le_of_ble_eq_true rfl, Nat.le_of_ble_eq_true rfl⟩) hE hK hP hD hS hA hl.1 [] rfl rfl rfl rfl rfl rfl (Nat.le_of_ble_eq_true rfl) dX1_wholeSize_139 ⟨Nat.zero_le _, Nat.zero_le _⟩ (fun H locs hP hD hS => ?_)
              have hP : va_P G.1 vwCl [] H := hP
              have hD : va_D A [] := hD
              refine lv_goto (tgt := 150) hx hb dX1_wholeSize_142 (by decide) ?_
              exact kj_10 (fX1_isNearerAway ((v &&& (so_mask i)) - ((v &&& (so_mask i)) &&& ((shL (1:Int64) ((so_frac i) - ((shR (v &&& (so_mask i)) (so_frac i)).toInt32 - (so_bias i)))) - (1:Int64)))) ((v &&& (so_mask i)) &&& ((shL (1:Int64) ((so_frac i) - ((shR (v &&& (so_mask i)) (so_frac i)).toInt32 - (so_bias i)))) - (1:Int64))) (shL (1:Int64) ((so_frac i) - ((shR (v &&& (so_mask i)) (so_frac i)).toInt32 - (so_bias i))))) (by rw [if_pos c_11]) H locs ls hP hD hS (lv_sub hl [2, 0] rfl)
            · refine lv_iload_n hx hb dX1_wholeSize_145 rfl (lv_at hl 6 rfl) ?_
              refine lv_lload_n hx hb dX1_wholeSize_146 rfl (lv_at hl 7 rfl) ?_
              refine cs_i (As := [.int kd, .long v]) (rest := []) ⟨hx, hb, hml, hown, hts⟩ (kX1_growsAway l G kd v) (va_cwS 2 hts gX1_wholeSize_X1_growsAway rfl rfl rfl (by decide +kernel) ⟨Nat.le_of_ble_eq_true rfl, Nat.le_of_ble_eq_true rfl⟩) hE hK hP hD hS hA hl.1 [] rfl rfl rfl rfl rfl rfl (Nat.le_of_ble_eq_true rfl) dX1_wholeSize_147 ⟨Nat.zero_le _, Nat.zero_le _⟩ (fun H locs hP hD hS => ?_)
              have hP : va_P G.1 vwCl [] H := hP
              have hD : va_D A [] := hD
              exact kj_10 (fX1_growsAway kd v) (by rw [if_neg c_11]) H locs ls hP hD hS (lv_sub hl [2, 0] rfl)
    · refine lv_lload hx hb dX1_wholeSize_39 (lv_at hl 1 rfl) ?_
      exact rt_l hx hb hr hlocks hP hD hS dX1_wholeSize_41 (by rw [fX1_wholeSize, if_neg c_1, if_neg c_2])
def fX1_through (i : Nat) (kd : Int32) (kn : Int64) (v : Int64) : Int64 := (if kd = (0:Int32) then (if v < (0:Int64) then (fX1_withOtherSign i v) else v) else (if kd = (1:Int32) then (if (fX1_isLess i kn v) = 0 then v else kn) else (if kd = (2:Int32) then (if (fX1_isLess i v kn) = 0 then v else kn) else (if kd = (3:Int32) then (fX1_withSignOf i v (fX1_wholeSize i kd v)) else (if kd = (4:Int32) then (fX1_withSignOf i v (fX1_wholeSize i kd v)) else (if kd = (5:Int32) then (fX1_withSignOf i v (fX1_wholeSize i kd v)) else (if kd = (6:Int32) then (if (fX1_isZero i v) = 0 then (fX1_withSignOf i v (fX1_one i)) else v) else (if kd = (7:Int32) then (fX1_withSignOf i kn v) else (if kd = (8:Int32) then (fX1_withOtherSign i v) else v)))))))))
set_option maxHeartbeats 4000000 in
set_option maxRecDepth 100000 in
theorem kX1_through (l : Launch) (G : GT) (i : Nat) (kd : Int32) (kn : Int64) (v : Int64) (hi : i < 4) : CL l yX1_through wsX1_through { frames := 3, cells := 0, slots := 0, locals := 66 } G [.ref (G.2.2.1 i), .int kd, .long kn, .long v] [] (fX1_through i kd kn v) [] := by
  refine en_l (cc := cX1_through) (maxL := 6) (ret := (some .long)) (own := RX1) (by decide) rfl rfl (Nat.le_of_ble_eq_true rfl) ?_
  intro p e s m below meth c A ls hx hb hr hts hown hml hlocks hA hK hE hP hD hS hl
  have hl : lv_has ls 6 [(0, .ref (G.2.2.1 i)), (1, .int kd), (2, .long kn), (4, .long v)] := hl
  refine lv_iload_n hx hb dX1_through_0 rfl (lv_at hl 1 rfl) ?_
  by_cases k_1 : kd = (0:Int32)
  · refine sw_in (tgt := 52) (off := 51) hx hb dX1_through_1 k_1 (by decide) (by decide) (by decide) (by decide) ?_
    refine lv_lload hx hb dX1_through_52 (lv_at hl 3 rfl) ?_
    refine lv_lconst (v := (0:Int64)) hx hb dX1_through_54 (by decide) ?_
    refine bl_ge (tgt := 68) hx hb dX1_through_55 dX1_through_56 (by decide) (fun c_2 => ?_) (fun c_2 => ?_)
    · refine lv_aload_n hx hb dX1_through_59 rfl (lv_at hl 0 rfl) ?_
      refine lv_lload hx hb dX1_through_60 (lv_at hl 3 rfl) ?_
      refine cv_l (As := [.long v]) (rest := []) ⟨hx, hb, hml, hown, hts⟩ (kX1_withOtherSign l G i v hi) (cwV 1 hts gX1_through_X1_withOtherSign rfl rfl rfl (by decide +kernel) ⟨Nat.le_of_ble_eq_true rfl, Nat.le_of_ble_eq_true rfl⟩) (so_rec hE hi hS) hE hK hP hD hS hA hl.1 [] rfl rfl rfl rfl rfl rfl (Nat.le_of_ble_eq_true rfl) dX1_through_62 ⟨Nat.zero_le _, Nat.zero_le _⟩ (fun H locs hP hD hS => ?_)
      have hP : va_P G.1 vwCl [] H := hP
      have hD : va_D A [] := hD
      refine lv_goto (tgt := 70) hx hb dX1_through_65 (by decide) ?_
      exact rt_l hx hb hr hlocks hP hD hS dX1_through_70 (by rw [fX1_through, if_pos k_1, if_pos c_2])
    · refine lv_lload hx hb dX1_through_68 (lv_at hl 3 rfl) ?_
      exact rt_l hx hb hr hlocks hP hD hS dX1_through_70 (by rw [fX1_through, if_pos k_1, if_neg c_2])
  by_cases k_3 : kd = (1:Int32)
  · refine sw_in (tgt := 71) (off := 70) hx hb dX1_through_1 k_3 (by decide) (by decide) (by decide) (by decide) ?_
    refine lv_aload_n hx hb dX1_through_71 rfl (lv_at hl 0 rfl) ?_
    refine lv_lload_n hx hb dX1_through_72 rfl (lv_at hl 2 rfl) ?_
    refine lv_lload hx hb dX1_through_73 (lv_at hl 3 rfl) ?_
    refine cv_i (As := [.long kn, .long v]) (rest := []) ⟨hx, hb, hml, hown, hts⟩ (kX1_isLess l G i kn v hi) (cwV 2 hts gX1_through_X1_isLess rfl rfl rfl (by decide +kernel) ⟨Nat.le_of_ble_eq_true rfl, Nat.le_of_ble_eq_true rfl⟩) (so_rec hE hi hS) hE hK hP hD hS hA hl.1 [] rfl rfl rfl rfl rfl rfl (Nat.le_of_ble_eq_true rfl) dX1_through_75 ⟨Nat.zero_le _, Nat.zero_le _⟩ (fun H locs hP hD hS => ?_)
    have hP : va_P G.1 vwCl [] H := hP
    have hD : va_D A [] := hD
    refine bz_eq (tgt := 85) hx hb dX1_through_78 (by decide) (fun c_4 => ?_) (fun c_4 => ?_)
    · refine lv_lload hx hb dX1_through_85 (lv_at hl 3 rfl) ?_
      exact rt_l hx hb hr hlocks hP hD hS dX1_through_87 (by rw [fX1_through, if_neg k_1, if_pos k_3, if_pos c_4])
    · refine lv_lload_n hx hb dX1_through_81 rfl (lv_at hl 2 rfl) ?_
      refine lv_goto (tgt := 87) hx hb dX1_through_82 (by decide) ?_
      exact rt_l hx hb hr hlocks hP hD hS dX1_through_87 (by rw [fX1_through, if_neg k_1, if_pos k_3, if_neg c_4])
  by_cases k_5 : kd = (2:Int32)
  · refine sw_in (tgt := 88) (off := 87) hx hb dX1_through_1 k_5 (by decide) (by decide) (by decide) (by decide) ?_
    refine lv_aload_n hx hb dX1_through_88 rfl (lv_at hl 0 rfl) ?_
    refine lv_lload hx hb dX1_through_89 (lv_at hl 3 rfl) ?_
    refine lv_lload_n hx hb dX1_through_91 rfl (lv_at hl 2 rfl) ?_
    refine cv_i (As := [.long v, .long kn]) (rest := []) ⟨hx, hb, hml, hown, hts⟩ (kX1_isLess l G i v kn hi) (cwV 2 hts gX1_through_X1_isLess rfl rfl rfl (by decide +kernel) ⟨Nat.le_of_ble_eq_true rfl, Nat.le_of_ble_eq_true rfl⟩) (so_rec hE hi hS) hE hK hP hD hS hA hl.1 [] rfl rfl rfl rfl rfl rfl (Nat.le_of_ble_eq_true rfl) dX1_through_92 ⟨Nat.zero_le _, Nat.zero_le _⟩ (fun H locs hP hD hS => ?_)
    have hP : va_P G.1 vwCl [] H := hP
    have hD : va_D A [] := hD
    refine bz_eq (tgt := 102) hx hb dX1_through_95 (by decide) (fun c_6 => ?_) (fun c_6 => ?_)
    · refine lv_lload hx hb dX1_through_102 (lv_at hl 3 rfl) ?_
      exact rt_l hx hb hr hlocks hP hD hS dX1_through_104 (by rw [fX1_through, if_neg k_1, if_neg k_3, if_pos k_5, if_pos c_6])
    · refine lv_lload_n hx hb dX1_through_98 rfl (lv_at hl 2 rfl) ?_
      refine lv_goto (tgt := 104) hx hb dX1_through_99 (by decide) ?_
      exact rt_l hx hb hr hlocks hP hD hS dX1_through_104 (by rw [fX1_through, if_neg k_1, if_neg k_3, if_pos k_5, if_neg c_6])
  by_cases k_7 : kd = (3:Int32)
  · refine sw_in (tgt := 105) (off := 104) hx hb dX1_through_1 k_7 (by decide) (by decide) (by decide) (by decide) ?_
    refine lv_aload_n hx hb dX1_through_105 rfl (lv_at hl 0 rfl) ?_
    refine lv_lload hx hb dX1_through_106 (lv_at hl 3 rfl) ?_
    refine lv_aload_n hx hb dX1_through_108 rfl (lv_at hl 0 rfl) ?_
    refine lv_iload_n hx hb dX1_through_109 rfl (lv_at hl 1 rfl) ?_
    refine lv_lload hx hb dX1_through_110 (lv_at hl 3 rfl) ?_
    refine cv_l (As := [.int kd, .long v]) (rest := [.long v, .ref (G.2.2.1 i)]) ⟨hx, hb, hml, hown, hts⟩ (kX1_wholeSize l G i kd v hi) (cwV 2 hts gX1_through_X1_wholeSize rfl rfl rfl (by decide +kernel) ⟨Nat.le_of_ble_eq_true rfl, Nat.le_of_ble_eq_true rfl⟩) (so_rec hE hi hS) hE hK hP hD hS hA hl.1 [] rfl rfl rfl rfl rfl rfl (Nat.le_of_ble_eq_true rfl) dX1_through_112 ⟨Nat.zero_le _, Nat.zero_le _⟩ (fun H locs hP hD hS => ?_)
    have hP : va_P G.1 vwCl [] H := hP
    have hD : va_D A [] := hD
    refine cv_l (As := [.long v, .long (fX1_wholeSize i kd v)]) (rest := []) ⟨hx, hb, hml, hown, hts⟩ (kX1_withSignOf l G i v (fX1_wholeSize i kd v) hi) (cwV 2 hts gX1_through_X1_withSignOf rfl rfl rfl (by decide +kernel) ⟨Nat.le_of_ble_eq_true rfl, Nat.le_of_ble_eq_true rfl⟩) (so_rec hE hi hS) hE hK hP hD hS hA hl.1 [] rfl rfl rfl rfl rfl rfl (Nat.le_of_ble_eq_true rfl) dX1_through_115 ⟨Nat.zero_le _, Nat.zero_le _⟩ (fun H locs hP hD hS => ?_)
    have hP : va_P G.1 vwCl [] H := hP
    have hD : va_D A [] := hD
    exact rt_l hx hb hr hlocks hP hD hS dX1_through_118 (by rw [fX1_through, if_neg k_1, if_neg k_3, if_neg k_5, if_pos k_7])
  by_cases k_8 : kd = (4:Int32)
  · refine sw_in (tgt := 105) (off := 104) hx hb dX1_through_1 k_8 (by decide) (by decide) (by decide) (by decide) ?_
    refine lv_aload_n hx hb dX1_through_105 rfl (lv_at hl 0 rfl) ?_
    refine lv_lload hx hb dX1_through_106 (lv_at hl 3 rfl) ?_
    refine lv_aload_n hx hb dX1_through_108 rfl (lv_at hl 0 rfl) ?_
    refine lv_iload_n hx hb dX1_through_109 rfl (lv_at hl 1 rfl) ?_
    refine lv_lload hx hb dX1_through_110 (lv_at hl 3 rfl) ?_
    refine cv_l (As := [.int kd, .long v]) (rest := [.long v, .ref (G.2.2.1 i)]) ⟨hx, hb, hml, hown, hts⟩ (kX1_wholeSize l G i kd v hi) (cwV 2 hts gX1_through_X1_wholeSize rfl rfl rfl (by decide +kernel) ⟨Nat.le_of_ble_eq_true rfl, Nat.le_of_ble_eq_true rfl⟩) (so_rec hE hi hS) hE hK hP hD hS hA hl.1 [] rfl rfl rfl rfl rfl rfl (Nat.le_of_ble_eq_true rfl) dX1_through_112 ⟨Nat.zero_le _, Nat.zero_le _⟩ (fun H locs hP hD hS => ?_)
    have hP : va_P G.1 vwCl [] H := hP
    have hD : va_D A [] := hD
    refine cv_l (As := [.long v, .long (fX1_wholeSize i kd v)]) (rest := []) ⟨hx, hb, hml, hown, hts⟩ (kX1_withSignOf l G i v (fX1_wholeSize i kd v) hi) (cwV 2 hts gX1_through_X1_withSignOf rfl rfl rfl (by decide +kernel) ⟨Nat.le_of_ble_eq_true rfl, Nat.le_of_ble_eq_true rfl⟩) (so_rec hE hi hS) hE hK hP hD hS hA hl.1 [] rfl rfl rfl rfl rfl rfl (Nat.le_of_ble_eq_true rfl) dX1_through_115 ⟨Nat.zero_le _, Nat.zero_le _⟩ (fun H locs hP hD hS => ?_)
    have hP : va_P G.1 vwCl [] H := hP
    have hD : va_D A [] := hD
    exact rt_l hx hb hr hlocks hP hD hS dX1_through_118 (by rw [fX1_through, if_neg k_1, if_neg k_3, if_neg k_5, if_neg k_7, if_pos k_8])
  by_cases k_9 : kd = (5:Int32)
  · refine sw_in (tgt := 105) (off := 104) hx hb dX1_through_1 k_9 (by decide) (by decide) (by decide) (by decide) ?_
    refine lv_aload_n hx hb dX1_through_105 rfl (lv_at hl 0 rfl) ?_
    refine lv_lload hx hb dX1_through_106 (lv_at hl 3 rfl) ?_
    refine lv_aload_n hx hb dX1_through_108 rfl (lv_at hl 0 rfl) ?_
    refine lv_iload_n hx hb dX1_through_109 rfl (lv_at hl 1 rfl) ?_
    refine lv_lload hx hb dX1_through_110 (lv_at hl 3 rfl) ?_
    refine cv_l (As := [.int kd, .long v]) (rest := [.long v, .ref (G.2.2.1 i)]) ⟨hx, hb, hml, hown, hts⟩ (kX1_wholeSize l G i kd v hi) (cwV 2 hts gX1_through_X1_wholeSize rfl rfl rfl (by decide +kernel) ⟨Nat.le_of_ble_eq_true rfl, Nat.le_of_ble_eq_true rfl⟩) (so_rec hE hi hS) hE hK hP hD hS hA hl.1 [] rfl rfl rfl rfl rfl rfl (Nat.le_of_ble_eq_true rfl) dX1_through_112 ⟨Nat.zero_le _, Nat.zero_le _⟩ (fun H locs hP hD hS => ?_)
    have hP : va_P G.1 vwCl [] H := hP
    have hD : va_D A [] := hD
    refine cv_l (As := [.long v, .long (fX1_wholeSize i kd v)]) (rest := []) ⟨hx, hb, hml, hown, hts⟩ (kX1_withSignOf l G i v (fX1_wholeSize i kd v) hi) (cwV 2 hts gX1_through_X1_withSignOf rfl rfl rfl (by decide +kernel) ⟨Nat.le_of_ble_eq_true rfl, Nat.le_of_ble_eq_true rfl⟩) (so_rec hE hi hS) hE hK hP hD hS hA hl.1 [] rfl rfl rfl rfl rfl rfl (Nat.le_of_ble_eq_true rfl) dX1_through_115 ⟨Nat.zero_le _, Nat.zero_le _⟩ (fun H locs hP hD hS => ?_)
    have hP : va_P G.1 vwCl [] H := hP
    have hD : va_D A [] := hD
    exact rt_l hx hb hr hlocks hP hD hS dX1_through_118 (by rw [fX1_through, if_neg k_1, if_neg k_3, if_neg k_5, if_neg k_7, if_neg k_8, if_pos k_9])
  by_cases k_10 : kd = (6:Int32)
  · refine sw_in (tgt := 119) (off := 118) hx hb dX1_through_1 k_10 (by decide) (by decide) (by decide) (by decide) ?_
    refine lv_aload_n hx hb dX1_through_119 rfl (lv_at hl 0 rfl) ?_
    refine lv_lload hx hb dX1_through_120 (lv_at hl 3 rfl) ?_
    refine cv_i (As := [.long v]) (rest := []) ⟨hx, hb, hml, hown, hts⟩ (kX1_isZero l G i v hi) (cwV 1 hts gX1_through_X1_isZero rfl rfl rfl (by decide +kernel) ⟨Nat.le_of_ble_eq_true rfl, Nat.le_of_ble_eq_true rfl⟩) (so_rec hE hi hS) hE hK hP hD hS hA hl.1 [] rfl rfl rfl rfl rfl rfl (Nat.le_of_ble_eq_true rfl) dX1_through_122 ⟨Nat.zero_le _, Nat.zero_le _⟩ (fun H locs hP hD hS => ?_)
    have hP : va_P G.1 vwCl [] H := hP
    have hD : va_D A [] := hD
    refine bz_eq (tgt := 133) hx hb dX1_through_125 (by decide) (fun c_11 => ?_) (fun c_11 => ?_)
    · refine lv_aload_n hx hb dX1_through_133 rfl (lv_at hl 0 rfl) ?_
      refine lv_lload hx hb dX1_through_134 (lv_at hl 3 rfl) ?_
      refine lv_aload_n hx hb dX1_through_136 rfl (lv_at hl 0 rfl) ?_
      refine cv_l (As := []) (rest := [.long v, .ref (G.2.2.1 i)]) ⟨hx, hb, hml, hown, hts⟩ (kX1_one l G i hi) (cwV 0 hts gX1_through_X1_one rfl rfl rfl (by decide +kernel) ⟨Nat.le_of_ble_eq_true rfl, Nat.le_of_ble_eq_true rfl⟩) (so_rec hE hi hS) hE hK hP hD hS hA hl.1 [] rfl rfl rfl rfl rfl rfl (Nat.le_of_ble_eq_true rfl) dX1_through_137 ⟨Nat.zero_le _, Nat.zero_le _⟩ (fun H locs hP hD hS => ?_)
      have hP : va_P G.1 vwCl [] H := hP
      have hD : va_D A [] := hD
      refine cv_l (As := [.long v, .long (fX1_one i)]) (rest := []) ⟨hx, hb, hml, hown, hts⟩ (kX1_withSignOf l G i v (fX1_one i) hi) (cwV 2 hts gX1_through_X1_withSignOf rfl rfl rfl (by decide +kernel) ⟨Nat.le_of_ble_eq_true rfl, Nat.le_of_ble_eq_true rfl⟩) (so_rec hE hi hS) hE hK hP hD hS hA hl.1 [] rfl rfl rfl rfl rfl rfl (Nat.le_of_ble_eq_true rfl) dX1_through_140 ⟨Nat.zero_le _, Nat.zero_le _⟩ (fun H locs hP hD hS => ?_)
      have hP : va_P G.1 vwCl [] H := hP
      have hD : va_D A [] := hD
      exact rt_l hx hb hr hlocks hP hD hS dX1_through_143 (by rw [fX1_through, if_neg k_1, if_neg k_3, if_neg k_5, if_neg k_7, if_neg k_8, if_neg k_9, if_pos k_10, if_pos c_11])
    · refine lv_lload hx hb dX1_through_128 (lv_at hl 3 rfl) ?_
      refine lv_goto (tgt := 143) hx hb dX1_through_130 (by decide) ?_
      exact rt_l hx hb hr hlocks hP hD hS dX1_through_143 (by rw [fX1_through, if_neg k_1, if_neg k_3, if_neg k_5, if_neg k_7, if_neg k_8, if_neg k_9, if_pos k_10, if_neg c_11])
  by_cases k_12 : kd = (7:Int32)
  · refine sw_in (tgt := 144) (off := 143) hx hb dX1_through_1 k_12 (by decide) (by decide) (by decide) (by decide) ?_
    refine lv_aload_n hx hb dX1_through_144 rfl (lv_at hl 0 rfl) ?_
    refine lv_lload_n hx hb dX1_through_145 rfl (lv_at hl 2 rfl) ?_
    refine lv_lload hx hb dX1_through_146 (lv_at hl 3 rfl) ?_
    refine cv_l (As := [.long kn, .long v]) (rest := []) ⟨hx, hb, hml, hown, hts⟩ (kX1_withSignOf l G i kn v hi) (cwV 2 hts gX1_through_X1_withSignOf rfl rfl rfl (by decide +kernel) ⟨Nat.le_of_ble_eq_true rfl, Nat.le_of_ble_eq_true rfl⟩) (so_rec hE hi hS) hE hK hP hD hS hA hl.1 [] rfl rfl rfl rfl rfl rfl (Nat.le_of_ble_eq_true rfl) dX1_through_148 ⟨Nat.zero_le _, Nat.zero_le _⟩ (fun H locs hP hD hS => ?_)
    have hP : va_P G.1 vwCl [] H := hP
    have hD : va_D A [] := hD
    exact rt_l hx hb hr hlocks hP hD hS dX1_through_151 (by rw [fX1_through, if_neg k_1, if_neg k_3, if_neg k_5, if_neg k_7, if_neg k_8, if_neg k_9, if_neg k_10, if_pos k_12])
  by_cases k_13 : kd = (8:Int32)
  · refine sw_in (tgt := 152) (off := 151) hx hb dX1_through_1 k_13 (by decide) (by decide) (by decide) (by decide) ?_
    refine lv_aload_n hx hb dX1_through_152 rfl (lv_at hl 0 rfl) ?_
    refine lv_lload hx hb dX1_through_153 (lv_at hl 3 rfl) ?_
    refine cv_l (As := [.long v]) (rest := []) ⟨hx, hb, hml, hown, hts⟩ (kX1_withOtherSign l G i v hi) (cwV 1 hts gX1_through_X1_withOtherSign rfl rfl rfl (by decide +kernel) ⟨Nat.le_of_ble_eq_true rfl, Nat.le_of_ble_eq_true rfl⟩) (so_rec hE hi hS) hE hK hP hD hS hA hl.1 [] rfl rfl rfl rfl rfl rfl (Nat.le_of_ble_eq_true rfl) dX1_through_155 ⟨Nat.zero_le _, Nat.zero_le _⟩ (fun H locs hP hD hS => ?_)
    have hP : va_P G.1 vwCl [] H := hP
    have hD : va_D A [] := hD
    exact rt_l hx hb hr hlocks hP hD hS dX1_through_158 (by rw [fX1_through, if_neg k_1, if_neg k_3, if_neg k_5, if_neg k_7, if_neg k_8, if_neg k_9, if_neg k_10, if_neg k_12, if_pos k_13])
  refine lv_tableOut (tgt := 159) hx hb dX1_through_1 (sw_out9 k_1 k_3 k_5 k_7 k_8 k_9 k_10 k_12 k_13) (by decide) ?_
  refine lv_lload hx hb dX1_through_159 (lv_at hl 3 rfl) ?_
  exact rt_l hx hb hr hlocks hP hD hS dX1_through_161 (by rw [fX1_through, if_neg k_1, if_neg k_3, if_neg k_5, if_neg k_7, if_neg k_8, if_neg k_9, if_neg k_10, if_neg k_12, if_neg k_13])
def fX1_isOverHalf (rs : Int64) : Int32 := (if rs < (0:Int64) then (if rs = (-9223372036854775808:Int64) then (0:Int32) else (1:Int32)) else (0:Int32))
set_option maxHeartbeats 4000000 in
set_option maxRecDepth 100000 in
theorem kX1_isOverHalf (l : Launch) (G : GT) (rs : Int64) : CI l yX1_isOverHalf wsX1_isOverHalf { frames := 0, cells := 0, slots := 0, locals := 0 } G [.long rs] [] (fX1_isOverHalf rs) [] := by
  refine en_i (cc := cX1_isOverHalf) (maxL := 2) (ret := (some .boolean)) (own := RX1) (by decide) rfl rfl (Nat.le_of_ble_eq_true rfl) ?_
  intro p e s m below meth c A ls hx hb hr hts hown hml hlocks hA hK hE hP hD hS hl
  have hl : lv_has ls 2 [(0, .long rs)] := hl
  refine lv_lload_n hx hb dX1_isOverHalf_0 rfl (lv_at hl 0 rfl) ?_
  refine lv_lconst (v := (0:Int64)) hx hb dX1_isOverHalf_1 (by decide) ?_
  refine bl_ge (tgt := 18) hx hb dX1_isOverHalf_2 dX1_isOverHalf_3 (by decide) (fun c_1 => ?_) (fun c_1 => ?_)
  · refine lv_lload_n hx hb dX1_isOverHalf_6 rfl (lv_at hl 0 rfl) ?_
    refine lv_ldc2 (v := (-9223372036854775808:Int64)) hx hb hown (hts (.constantLong RX1 130 (-9223372036854775808)) (by decide +kernel)) dX1_isOverHalf_7 ?_
    refine bl_eq (tgt := 18) hx hb dX1_isOverHalf_10 dX1_isOverHalf_11 (by decide) (fun c_2 => ?_) (fun c_2 => ?_)
    · refine lv_iconst (v := (0:Int32)) hx hb dX1_isOverHalf_18 (by decide) ?_
      exact rt_z hx hb hr hlocks hP hD hS dX1_isOverHalf_19 (by rw [fX1_isOverHalf, if_pos c_1, if_pos c_2]) (z_nar (Or.inl rfl))
    · refine lv_iconst (v := (1:Int32)) hx hb dX1_isOverHalf_14 (by decide) ?_
      refine lv_goto (tgt := 19) hx hb dX1_isOverHalf_15 (by decide) ?_
      exact rt_z hx hb hr hlocks hP hD hS dX1_isOverHalf_19 (by rw [fX1_isOverHalf, if_pos c_1, if_neg c_2]) (z_nar (Or.inr rfl))
  · refine lv_iconst (v := (0:Int32)) hx hb dX1_isOverHalf_18 (by decide) ?_
    exact rt_z hx hb hr hlocks hP hD hS dX1_isOverHalf_19 (by rw [fX1_isOverHalf, if_neg c_1]) (z_nar (Or.inl rfl))
theorem z_X1_isOverHalf (rs : Int64) : fX1_isOverHalf rs = 0 ∨ fX1_isOverHalf rs = 1 := by
  unfold fX1_isOverHalf; repeat (first | exact Or.inl rfl | exact Or.inr rfl | split)
end
