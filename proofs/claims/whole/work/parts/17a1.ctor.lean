/-! ===== constructors: rows that make cells; contracts with the new addresses ===== -/
section SN
def Pre1 (G : GT) (w0 : va_W) (sz : Nat) (U : State) : Prop := Pre0 G w0 sz U ∧ va_AO RX0 U ∧ va_AO RX2 U
def CN (l : Launch) (y : MethodName) (wsY : List Cond) (rm : Room) (G : GT) (As : List Value) (w0 : va_W) (mc ms : Nat) (w1 : (Nat → Nat) → va_W) : Prop := ∀ sz, Met l y wsY rm (va_Pc As (Pre1 G w0 sz)) (va_Qv (fun (_ : Nat → Nat) => True) (fun (u : Nat → Nat) (t : State) => va_P G.1 vwCl (w1 u) t.heap ∧ va_D (va_A w0 sz) (w1 u)) (va_A w0 sz)) mc ms (va_A w0 sz)
def QN (G : GT) (below : List Frame) (args : Array Value) (s : State) (A : Nat → Prop) (mc ms : Nat) (w1 : (Nat → Nat) → va_W) : State → Prop := MQ below (va_Qv (fun (_ : Nat → Nat) => True) (fun (u : Nat → Nat) (t : State) => va_P G.1 vwCl (w1 u) t.heap ∧ va_D A (w1 u)) A) args s mc ms A
theorem en_n {l : Launch} {G : GT} {y : MethodName} {wsY ws' : List Cond} {rm : Room} {As : List Value} {w0 : va_W} {w1 : (Nat → Nat) → va_W} {mc ms : Nat} {cc : ByteArray} {maxL : Nat} {own : String} (hy : plainName y.cls = true) (hw : wsY = Cond.code y cc maxL none :: ws') (ho : y.cls = own) (hyn : y.name = "<init>") (hn : (lg_sl As).length ≤ maxL)
    (body : ∀ (p : Program) (e : Env) (s : State) (m : MethodId) (below : List Frame) (meth : Method) (c : Code) (A : Nat → Prop) (ls : Array Slot), meth.name = "<init>" → va_AO RX0 s → va_AO RX2 s → p.tables.exec = Jvm.exec → c.code = cc → meth.sig.returnType = none → (∀ w ∈ wsY, w.before As.toArray s = true) → s.vm.findClass own = some m.cls → c.maxLocals = maxL → meth.locks = false → (∀ q : Nat, s.heap.size ≤ q → A q) → va_K G.1 vwCl (gT G) s → Ev G A s s.heap → va_P G.1 vwCl w0 s.heap → va_D A w0 → va_S A s.heap s.heap [] → lv_has ls maxL (lv_args 0 As) →
      W p l e rm s m As.toArray below meth c s.heap [] 0 0 (QN G below As.toArray s A mc ms w1) (F0 m 0 ls [])) : CN l y wsY rm G As w0 mc ms w1 := by
  intro sz
  refine Met.ofW (cc := cc) (maxL := maxL) (ret := none) hy hw ?_
  intro p e s m args below meth c s₁ B hml hv
  obtain ⟨rfl, ⟨rfl, hP, hK, hD0, hE⟩, ha1, ha2⟩ := hv
  have hl := lv_entry As (n := maxL) hn
  have hin : meth.name = "<init>" := (name_of_methodNamed B.named B.method).1.trans hyn
  rw [lg_entry_eq]
  exact body p e s m below meth c (va_A w0 s.heap.size) _ hin ha1 ha2 B.exec B.bytes B.returns (atoms_spec (ws := wsY) B.pre) (by rw [← ho]; exact findClass_of_methodNamed B.named) hml B.notSynchronized (fun q h => Or.inr h) hK hE hP (hD0.self (sz := s.heap.size)) va_S.rf hl
variable {p : Program} {l : Launch} {e : Env} {R : Room} {s : State} {m : MethodId} {args : Array Value} {below : List Frame} {meth : Method} {c : Code} {H : Heap} {locs : List Loc} {cells slots : Nat} {Q : State → Prop} {G : GT} {A : Nat → Prop} {cc : ByteArray} {pc : Nat} {ls : Array Slot} {st0 rest As : List Value} {Ts : List Cond} {ws : va_W}
theorem rt_n {w1 : (Nat → Nat) → va_W} {mc ms : Nat} (hx : p.tables.exec = Jvm.exec) (hb : c.code = cc) (hr : meth.sig.returnType = none) (hlocks : meth.locks = false) (u : Nat → Nat) (hP : va_P G.1 vwCl (w1 u) H) (hD : va_D A (w1 u)) (hS : va_S A s.heap H locs) (hc : cells ≤ mc) (hs : slots ≤ ms) (hdg : decode cc pc = .ok (.return_, 1)) :
    W p l e R s m args below meth c H locs cells slots (QN G below args s A mc ms w1) (F0 m pc ls []) :=
  W.widen hc hs (W.vret hx hb hr (fun t ht hW => ⟨⟨u, rfl, trivial, by rw [ht]; exact hP, hD⟩, hS.F ht⟩) hS.2.2 hdg)
theorem sb_new {D : va_G} {cl : List vw_C} {w1 : va_W} {b : Nat} {e0 : va_E} {H1 : Heap} (hP : va_P D cl (ws ++ [(b, e0)]) H) (hD : va_D A (ws ++ [(b, e0)])) (hk : ∀ q : Nat, q < H.size → ¬ va_A [(b, e0)] H.size q → H1[q]? = H[q]?) (hF : ∀ q, va_A [(b, e0)] H.size q → A q) (hP1 : va_P D cl w1 H1) (hD1 : va_D (va_A [(b, e0)] H.size) w1) : va_P D cl (ws ++ w1) H1 ∧ va_D A (ws ++ w1) := by
  have hl : ∀ (k : Nat) (q : Nat × va_E), ws[k]? = some q → (ws ++ [(b, e0)])[k]? = some q := fun k q h => by
    rw [List.getElem?_append_left (by rcases Nat.lt_or_ge k ws.length with h9 | h9; exact h9; rw [List.getElem?_eq_none h9] at h; cases h)]; exact h
  have hlast : (ws ++ [(b, e0)])[ws.length]? = some (b, e0) := by simp
  have hPw : va_P D cl ws H := fun k q h => hP k q (hl k q h)
  have hDw : va_D A ws := ⟨fun i j p q h1 h2 h3 => hD.1 i j p q (hl i p h1) (hl j q h2) h3, fun k q h => hD.2 k q (hl k q h)⟩
  have hne : ∀ (k : Nat) (q : Nat × va_E), ws[k]? = some q → ¬ va_A [(b, e0)] H.size q.1 := fun k q h => by
    rintro (⟨j, e, hj⟩ | hge)
    · have hjb : q.1 = b := by
        cases j with
        | zero => simp at hj; exact hj.1.symm
        | succ j => simp at hj
      have := hD.1 k ws.length q (b, e0) (hl k q h) hlast hjb
      subst this
      rw [List.getElem?_eq_none (Nat.le_refl _)] at h
      cases h
    · exact absurd (hPw k q h).lt (Nat.not_lt.mpr hge)
  refine ⟨va_P.app (hPw.kept (fun k q h => hk q.1 (hPw k q h).lt (hne k q h))) hP1, va_D.app hDw ⟨hD1.1, fun k q h => hF _ (hD1.2 k q h)⟩ (fun i j p q h1 h2 he => ?_)⟩
  have := hD1.2 j q h2
  rw [← he] at this
  exact hne i p h1 this
end SN
