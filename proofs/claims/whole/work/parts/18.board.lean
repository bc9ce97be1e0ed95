/-! ===== the board: its world, its constructor ===== -/
section SB1
def CS {S : Type} (l : Launch) (y : MethodName) (wsY : List Cond) (rm : Room) (G : GT) (As : List Value) (w0 : va_W) (mc ms : Nat) (w1 : S → va_W) : Prop := ∀ sz, Met l y wsY rm (va_Pc As (Pre1 G w0 sz)) (va_Qv (fun (_ : S) => True) (fun (u : S) (t : State) => va_P G.1 vwCl (w1 u) t.heap ∧ va_D (va_A w0 sz) (w1 u)) (va_A w0 sz)) mc ms (va_A w0 sz)
def QS {S : Type} (G : GT) (below : List Frame) (args : Array Value) (s : State) (A : Nat → Prop) (mc ms : Nat) (w1 : S → va_W) : State → Prop := MQ below (va_Qv (fun (_ : S) => True) (fun (u : S) (t : State) => va_P G.1 vwCl (w1 u) t.heap ∧ va_D A (w1 u)) A) args s mc ms A
theorem en_s {S : Type} {l : Launch} {G : GT} {y : MethodName} {wsY ws' : List Cond} {rm : Room} {As : List Value} {w0 : va_W} {w1 : S → va_W} {mc ms : Nat} {cc : ByteArray} {maxL : Nat} {own : String} (hy : plainName y.cls = true) (hw : wsY = Cond.code y cc maxL none :: ws') (ho : y.cls = own) (hyn : y.name = "<init>") (hn : (lg_sl As).length ≤ maxL)
    (body : ∀ (p : Program) (e : Env) (s : State) (m : MethodId) (below : List Frame) (meth : Method) (c : Code) (A : Nat → Prop) (ls : Array Slot), meth.name = "<init>" → va_AO RX0 s → va_AO RX2 s → p.tables.exec = Jvm.exec → c.code = cc → meth.sig.returnType = none → (∀ w ∈ wsY, w.before As.toArray s = true) → s.vm.findClass own = some m.cls → c.maxLocals = maxL → meth.locks = false → (∀ q : Nat, s.heap.size ≤ q → A q) → va_K G.1 vwCl (gT G) s → Ev G A s s.heap → va_P G.1 vwCl w0 s.heap → va_D A w0 → va_S A s.heap s.heap [] → lv_has ls maxL (lv_args 0 As) →
      W p l e rm s m As.toArray below meth c s.heap [] 0 0 (QS G below As.toArray s A mc ms w1) (F0 m 0 ls [])) : CS l y wsY rm G As w0 mc ms w1 := by
  intro sz
  refine Met.ofW (cc := cc) (maxL := maxL) (ret := none) hy hw ?_
  intro p e s m args below meth c s₁ B hml hv
  obtain ⟨rfl, ⟨rfl, hP, hK, hD0, hE⟩, ha1, ha2⟩ := hv
  have hl := lv_entry As (n := maxL) hn
  have hin : meth.name = "<init>" := (name_of_methodNamed B.named B.method).1.trans hyn
  rw [lg_entry_eq]
  exact body p e s m below meth c (va_A w0 s.heap.size) _ hin ha1 ha2 B.exec B.bytes B.returns (atoms_spec (ws := wsY) B.pre) (by rw [← ho]; exact findClass_of_methodNamed B.named) hml B.notSynchronized (fun q h => Or.inr h) hK hE hP (hD0.self (sz := s.heap.size)) va_S.rf hl
variable {p : Program} {l : Launch} {e : Env} {R : Room} {s : State} {m : MethodId} {args : Array Value} {below : List Frame} {meth : Method} {c : Code} {H : Heap} {locs : List Loc} {cells slots : Nat} {Q : State → Prop} {G : GT} {A : Nat → Prop} {cc : ByteArray} {pc : Nat} {ls : Array Slot} {st0 rest As : List Value} {Ts : List Cond} {ws : va_W}
theorem rt_s {S : Type} {w1 : S → va_W} {mc ms : Nat} (hx : p.tables.exec = Jvm.exec) (hb : c.code = cc) (hr : meth.sig.returnType = none) (hlocks : meth.locks = false) (u : S) (hP : va_P G.1 vwCl (w1 u) H) (hD : va_D A (w1 u)) (hS : va_S A s.heap H locs) (hc : cells ≤ mc) (hs : slots ≤ ms) (hdg : decode cc pc = .ok (.return_, 1)) :
    W p l e R s m args below meth c H locs cells slots (QS G below args s A mc ms w1) (F0 m pc ls []) :=
  W.widen hc hs (W.vret hx hb hr (fun t ht hW => ⟨⟨u, rfl, trivial, by rw [ht]; exact hP, hD⟩, hS.F ht⟩) hS.2.2 hdg)
/-- a constructor's call: the new object is the last cell -/
theorem cn_s {S : Type} {own : String} {y : MethodName} {wsY : List Cond} {rm : Room} {w1 : S → va_W} {bytes : ByteArray} {maxL n index nL mc ms b : Nat} {e0 : va_E} (S9 : CallFix p m c cc nL s args Ts own) (hM : CS l y wsY rm G (.ref b :: As) [(b, e0)] mc ms w1) (cw : CallB R s args own index y bytes maxL none wsY rm mc ms n ∧ y.name = "<init>" ∧ (Cond.instanceMethod y).before args s = true) (ha1 : va_AO RX0 s) (ha2 : va_AO RX2 s) (hE : Ev G A s s.heap) (hK : va_K G.1 vwCl (gT G) s) (hP : va_P G.1 vwCl (ws ++ [(b, e0)]) H) (hD : va_D A (ws ++ [(b, e0)])) (hS : va_S A s.heap H locs) (hA : ∀ q : Nat, s.heap.size ≤ q → A q) (hl : ls.size = nL)
    (hn : As.length = n) (hstack : st0 = As.reverse ++ .ref b :: rest) (hW : (rest.map fun v => v.category).sum ≤ 8) (hdg : decode cc pc = .ok (.invokespecial index, 3)) (hf : cells + mc ≤ R.cells ∧ slots + ms ≤ R.slots)
    (kk : ∀ (u : S) (H : Heap) (locs : List Loc), va_P G.1 vwCl (ws ++ w1 u) H → va_D A (ws ++ w1 u) → va_S A s.heap H locs → W p l e R s m args below meth c H locs (cells + mc) (slots + ms) Q (F0 m (pc + 3) ls rest)) : W p l e R s m args below meth c H locs cells slots Q (F0 m pc ls st0) := by
  have hlast : (ws ++ [(b, e0)])[ws.length]? = some (b, e0) := by simp
  have hC : [ws.length].map (fun i => (ws ++ [(b, e0)])[i]?) = [(b, e0)].map some := by simp
  obtain ⟨hp, hF⟩ := sb_pre (w0 := [(b, e0)]) hE hK hP hD hS hA [ws.length] rfl hC
  refine va_callv (va_runI (As := As) (rest := rest) S9 (hM H.size) cw ⟨fun a U g mk h => ⟨h.1, (Pre0.blind G [(b, e0)] H.size _ a U g mk ⟨h.1, h.2.1⟩).2, va_AO.moved (u := U) (U := U.calling g mk a) (Vm.Alike.refl U.vm) h.2.2.1, va_AO.moved (u := U) (U := U.calling g mk a) (Vm.Alike.refl U.vm) h.2.2.2⟩, fun U hU hW => ⟨rfl, hp U hU hW, va_AO.moved hW.alike ha1, va_AO.moved hW.alike ha2⟩⟩ rfl hn hl hstack (lv_room hW) hdg hf) hS (fun q _ h => hF q h) hF (fun u t H1 locs1 ht hvm hw hB hz hk hS1 => ?_)
  obtain ⟨hP2, hD2⟩ := sb_new hP hD hk hF (by rw [← ht]; exact hB.1) hB.2
  exact kk u H1 locs1 hP2 hD2 hS1

end SB1
def brd (G : GT) (ba bw : Nat) (wf : Nat → Option Nat) : va_W := [(ba, .inr (3, [.ref bw])), (bw, .inl (G.2.1 4, 4, .inr (.inr (.inr (.inr wf)))))]
/-- the whole board: its two cells, then four wires -/
def boardW (G : GT) (ba bw : Nat) (U : Nat → Nat → Nat) (V : Nat → WV) : va_W := brd G ba bw (pf4 (U 0 0) (U 1 0) (U 2 0) (U 3 0)) ++ (wireW G 0 (U 0) (V 0) ++ (wireW G 1 (U 1) (V 1) ++ (wireW G 2 (U 2) (V 2) ++ wireW G 3 (U 3) (V 3))))
def U4 (a b c d : Nat → Nat) : Nat → Nat → Nat := fun i => match i with | 0 => a | 1 => b | 2 => c | _ => d
set_option maxHeartbeats 8000000 in
set_option maxRecDepth 100000 in
theorem kX3_init (l : Launch) (G : GT) (ba : Nat) : CS (S := Nat × (Nat → Nat → Nat)) l yX3_init wsX3_init { frames := 3, cells := 97, slots := 960, locals := 54 } G [.ref ba] [(ba, .inr (3, [.null]))] 97 960 (fun u => boardW G ba u.1 u.2 (fun _ => v0)) := by
  refine en_s (cc := cX3_init) (maxL := 2) (own := RX3) (by decide) rfl rfl rfl (Nat.le_of_ble_eq_true rfl) ?_
  intro p e s m below meth c A ls hin ha1 ha2 hx hb hr hts hown hml hlocks hA hK hE hP hD hS hl
  have hl : lv_has ls 2 [(0, .ref ba)] := hl
  refine lv_aload_n hx hb dX3_init_0 rfl (lv_at hl 0 rfl) ?_
  refine W.objInit hx hb hown (hts (.methodLink RX3 1 objectInit) (by decide +kernel)) (hts (.instanceMethod objectInit) (by decide +kernel)) (hts _ (by decide +kernel)) rfl (by rw [hml]; exact hl.1) rfl dX3_init_1 (Nat.le_of_ble_eq_true rfl) (Nat.le_of_ble_eq_true rfl) ?_
  refine W.eq (g2 := F0 m 4 ls []) rfl ?_
  refine lv_aload_n hx hb dX3_init_4 rfl (lv_at hl 0 rfl) ?_
  refine lv_iconst (v := (4:Int32)) hx hb dX3_init_5 (by decide) ?_
  refine nw_q4 (N := 4) hx hb hown (hts (.classLink RX3 9 RX2) (by decide +kernel)) ha2 hK hP hD hS hA (by decide) (by decide) (by decide) (Nat.le_of_ble_eq_true rfl) (Nat.le_of_ble_eq_true rfl) dX3_init_6 (fun q H hP hD hS => ?_)
  have hP : va_P G.1 vwCl [(ba, .inr (3, [.null])), (q, .inl (G.2.1 4, 4, .inr (.inr (.inr (.inr (fun _ => none))))))] H := hP
  have hD : va_D A [(ba, .inr (3, [.null])), (q, .inl (G.2.1 4, 4, .inr (.inr (.inr (.inr (fun _ => none))))))] := hD
  refine va_putF (D := G.1) (ci := 3) (v := .ref q) (ty := .array (.object "PedalBoard$Wire")) (C := RX3) (T := TX3) (N := 1) hx hb hts (by decide +kernel) tyX3 tyX3_ok nmX3 hown hK hP hD hS 0 rfl rfl 0 (by decide) (hts (.fieldLink RX3 11 "PedalBoard" "wires" "[LPedalBoard$Wire;") (by decide +kernel)) (fun _ h9 => h9) rfl hin rfl (by decide +kernel) rfl rfl (Nat.le_of_ble_eq_true rfl) dX3_init_9 (fun H locs hP hD hS => ?_)
  have hP : va_P G.1 vwCl [(ba, .inr (3, [.ref q])), (q, .inl (G.2.1 4, 4, .inr (.inr (.inr (.inr (fun _ => none))))))] H := hP
  have hD : va_D A [(ba, .inr (3, [.ref q])), (q, .inl (G.2.1 4, 4, .inr (.inr (.inr (.inr (fun _ => none))))))] := hD
  refine lv_iconst (v := (0:Int32)) hx hb dX3_init_12 (by decide) ?_
  refine lv_istore_n (lv' := [(1, .int (0:Int32)), (0, .ref ba)]) hx hb dX3_init_13 rfl hl (by decide) rfl (fun ls hl => ?_)
  refine lv_iload_n hx hb dX3_init_14 rfl (lv_at hl 0 rfl) ?_
  refine lv_iconst (v := (4:Int32)) hx hb dX3_init_15 (by decide) ?_
  refine bi_ge (tgt := 43) hx hb dX3_init_16 (by decide) (fun _ => ?_) (fun h9 => absurd (by decide) h9)
  refine lv_aload_n hx hb dX3_init_19 rfl (lv_at hl 1 rfl) ?_
  refine va_get (D := G.1) (ci := 3) (v := .ref q) (C := RX3) (T := TX3) (N := 1) hx hb hts (by decide +kernel) hown hK hP 0 rfl rfl 0 (by decide) (hts (.fieldLink RX3 11 "PedalBoard" "wires" "[LPedalBoard$Wire;") (by decide +kernel)) (fun _ h9 => h9) rfl dX3_init_20 ?_
  refine lv_iload_n hx hb dX3_init_23 rfl (lv_at hl 0 rfl) ?_
  refine va_new (D := G.1) (ci := 2) (fs := [.null, .null, .null, .null, .null, .int 0, .long 0, .long 0, .int 0, .long 0, .long 0]) (C := RX2) (T := TX2) (N := 11) hx hb hts (by decide +kernel) tyX2 tyX2_ok hown (hts (.classLink RX3 9 RX2) (by decide +kernel)) (hts (.instantiable RX2 11) (by decide +kernel)) (hts (.initialized RX2) (by decide +kernel)) hK hP hD hS hA rfl (fun j hj => by rcases (show j = 0 ∨ j = 1 ∨ j = 2 ∨ j = 3 ∨ j = 4 ∨ j = 5 ∨ j = 6 ∨ j = 7 ∨ j = 8 ∨ j = 9 ∨ j = 10 by omega) with rfl | rfl | rfl | rfl | rfl | rfl | rfl | rfl | rfl | rfl | rfl <;> rfl) (Nat.le_of_ble_eq_true rfl) (Nat.le_of_ble_eq_true rfl) dX3_init_24 (fun b0 H hP hD hS => ?_)
  refine lv_dup hx hb dX3_init_27 rfl ?_
  refine va_gets hx hb hE.2.2.2.2.2.1 hS hown (hts (.fieldLink RX3 15 "PedalBoard" "SORTS" "[LPedalBoard$Sort;") (by decide +kernel)) (fun _ h9 => h9) dX3_init_28 ?_
  refine lv_iload_n hx hb dX3_init_31 rfl (lv_at hl 0 rfl) ?_
  refine vb_tq (v := .ref (G.2.2.1 0)) hx hb hE.2.2.2.2.2.2.1 hS (show vp_in (nI 0) 4 from vp_in_nI (by decide) (by decide)) rfl dX3_init_32 ?_
  refine cn_v (As := [.ref (G.2.2.1 0)]) (rest := [.ref b0, .int (0:Int32), .ref q]) (ws := [(ba, .inr (3, [.ref q])), (q, .inl (G.2.1 4, 4, .inr (.inr (.inr (.inr (fun _ => none))))))]) ⟨hx, hb, hml, hown, hts⟩ (kX2_init l G b0 0) (cwI 1 hts gX3_init_X2_init rfl rfl rfl (hts (.initialized RX2) (by decide +kernel)) (hts (.methodLink RX3 19 yX2_init) (by decide +kernel)) (hts (.instanceMethod yX2_init) (by decide +kernel)) rfl (by decide +kernel) ⟨Nat.le_of_ble_eq_true rfl, Nat.le_of_ble_eq_true rfl⟩) ha1 ha2 hE hK hP hD hS hA hl.1 rfl rfl (Nat.le_of_ble_eq_true rfl) dX3_init_33 ⟨Nat.le_of_ble_eq_true rfl, Nat.le_of_ble_eq_true rfl⟩ (fun u0 H locs hP hD hS => ?_)
  have hP : va_P G.1 vwCl ([(ba, .inr (3, [.ref q])), (q, .inl (G.2.1 4, 4, .inr (.inr (.inr (.inr (fun _ => none))))))] ++ wireW G 0 (fun k => if k = 0 then b0 else u0 k) v0) H := hP
  have hD : va_D A ([(ba, .inr (3, [.ref q])), (q, .inl (G.2.1 4, 4, .inr (.inr (.inr (.inr (fun _ => none))))))] ++ wireW G 0 (fun k => if k = 0 then b0 else u0 k) v0) := hD
  refine va_astq (D := G.1) (r := (RX2, TX2, 11)) hx hb hK hP hD hS 1 4 2 2 rfl rfl rfl rfl (show vp_in (nI 0) 4 from vp_in_nI (by decide) (by decide)) dX3_init_36 (fun H locs hP hD hS => ?_)
  have hP : va_P G.1 vwCl ([(ba, .inr (3, [.ref q])), (q, .inl (G.2.1 4, 4, .inr (.inr (.inr (.inr (va_up (fun _ => none) 0 (some b0)))))))] ++ wireW G 0 (fun k => if k = 0 then b0 else u0 k) v0) H := hP
  have hD : va_D A ([(ba, .inr (3, [.ref q])), (q, .inl (G.2.1 4, 4, .inr (.inr (.inr (.inr (va_up (fun _ => none) 0 (some b0)))))))] ++ wireW G 0 (fun k => if k = 0 then b0 else u0 k) v0) := hD
  refine lv_iinc (v := (1:Int32)) (lv' := [(1, .int (1:Int32)), (0, .ref ba)]) hx hb dX3_init_37 hl (k := 0) rfl (by decide) (by decide) rfl (fun ls hl => ?_)
  refine lv_goto (tgt := 14) hx hb dX3_init_40 (by decide) ?_
  refine lv_iload_n hx hb dX3_init_14 rfl (lv_at hl 0 rfl) ?_
  refine lv_iconst (v := (4:Int32)) hx hb dX3_init_15 (by decide) ?_
  refine bi_ge (tgt := 43) hx hb dX3_init_16 (by decide) (fun _ => ?_) (fun h9 => absurd (by decide) h9)
  refine lv_aload_n hx hb dX3_init_19 rfl (lv_at hl 1 rfl) ?_
  refine va_get (D := G.1) (ci := 3) (v := .ref q) (C := RX3) (T := TX3) (N := 1) hx hb hts (by decide +kernel) hown hK hP 0 rfl rfl 0 (by decide) (hts (.fieldLink RX3 11 "PedalBoard" "wires" "[LPedalBoard$Wire;") (by decide +kernel)) (fun _ h9 => h9) rfl dX3_init_20 ?_
  refine lv_iload_n hx hb dX3_init_23 rfl (lv_at hl 0 rfl) ?_
  refine va_new (D := G.1) (ci := 2) (fs := [.null, .null, .null, .null, .null, .int 0, .long 0, .long 0, .int 0, .long 0, .long 0]) (C := RX2) (T := TX2) (N := 11) hx hb hts (by decide +kernel) tyX2 tyX2_ok hown (hts (.classLink RX3 9 RX2) (by decide +kernel)) (hts (.instantiable RX2 11) (by decide +kernel)) (hts (.initialized RX2) (by decide +kernel)) hK hP hD hS hA rfl (fun j hj => by rcases (show j = 0 ∨ j = 1 ∨ j = 2 ∨ j = 3 ∨ j = 4 ∨ j = 5 ∨ j = 6 ∨ j = 7 ∨ j = 8 ∨ j = 9 ∨ j = 10 by omega) with rfl | rfl | rfl | rfl | rfl | rfl | rfl | rfl | rfl | rfl | rfl <;> rfl) (Nat.le_of_ble_eq_true rfl) (Nat.le_of_ble_eq_true rfl) dX3_init_24 (fun b1 H hP hD hS => ?_)
  refine lv_dup hx hb dX3_init_27 rfl ?_
  refine va_gets hx hb hE.2.2.2.2.2.1 hS hown (hts (.fieldLink RX3 15 "PedalBoard" "SORTS" "[LPedalBoard$Sort;") (by decide +kernel)) (fun _ h9 => h9) dX3_init_28 ?_
  refine lv_iload_n hx hb dX3_init_31 rfl (lv_at hl 0 rfl) ?_
  refine vb_tq (v := .ref (G.2.2.1 1)) hx hb hE.2.2.2.2.2.2.1 hS (show vp_in (nI 1) 4 from vp_in_nI (by decide) (by decide)) rfl dX3_init_32 ?_
  refine cn_v (As := [.ref (G.2.2.1 1)]) (rest := [.ref b1, .int (1:Int32), .ref q]) (ws := ([(ba, .inr (3, [.ref q])), (q, .inl (G.2.1 4, 4, .inr (.inr (.inr (.inr (va_up (fun _ => none) 0 (some b0)))))))] ++ wireW G 0 (fun k => if k = 0 then b0 else u0 k) v0)) ⟨hx, hb, hml, hown, hts⟩ (kX2_init l G b1 1) (cwI 1 hts gX3_init_X2_init rfl rfl rfl (hts (.initialized RX2) (by decide +kernel)) (hts (.methodLink RX3 19 yX2_init) (by decide +kernel)) (hts (.instanceMethod yX2_init) (by decide +kernel)) rfl (by decide +kernel) ⟨Nat.le_of_ble_eq_true rfl, Nat.le_of_ble_eq_true rfl⟩) ha1 ha2 hE hK hP hD hS hA hl.1 rfl rfl (Nat.le_of_ble_eq_true rfl) dX3_init_33 ⟨Nat.le_of_ble_eq_true rfl, Nat.le_of_ble_eq_true rfl⟩ (fun u1 H locs hP hD hS => ?_)
  have hP : va_P G.1 vwCl (([(ba, .inr (3, [.ref q])), (q, .inl (G.2.1 4, 4, .inr (.inr (.inr (.inr (va_up (fun _ => none) 0 (some b0)))))))] ++ wireW G 0 (fun k => if k = 0 then b0 else u0 k) v0) ++ wireW G 1 (fun k => if k = 0 then b1 else u1 k) v0) H := hP
  have hD : va_D A (([(ba, .inr (3, [.ref q])), (q, .inl (G.2.1 4, 4, .inr (.inr (.inr (.inr (va_up (fun _ => none) 0 (some b0)))))))] ++ wireW G 0 (fun k => if k = 0 then b0 else u0 k) v0) ++ wireW G 1 (fun k => if k = 0 then b1 else u1 k) v0) := hD
  refine va_astq (D := G.1) (r := (RX2, TX2, 11)) hx hb hK hP hD hS 1 4 26 2 rfl rfl rfl rfl (show vp_in (nI 1) 4 from vp_in_nI (by decide) (by decide)) dX3_init_36 (fun H locs hP hD hS => ?_)
  have hP : va_P G.1 vwCl (([(ba, .inr (3, [.ref q])), (q, .inl (G.2.1 4, 4, .inr (.inr (.inr (.inr (va_up (va_up (fun _ => none) 0 (some b0)) 1 (some b1)))))))] ++ wireW G 0 (fun k => if k = 0 then b0 else u0 k) v0) ++ wireW G 1 (fun k => if k = 0 then b1 else u1 k) v0) H := hP
  have hD : va_D A (([(ba, .inr (3, [.ref q])), (q, .inl (G.2.1 4, 4, .inr (.inr (.inr (.inr (va_up (va_up (fun _ => none) 0 (some b0)) 1 (some b1)))))))] ++ wireW G 0 (fun k => if k = 0 then b0 else u0 k) v0) ++ wireW G 1 (fun k => if k = 0 then b1 else u1 k) v0) := hD
  refine lv_iinc (v := (2:Int32)) (lv' := [(1, .int (2:Int32)), (0, .ref ba)]) hx hb dX3_init_37 hl (k := 0) rfl (by decide) (by decide) rfl (fun ls hl => ?_)
  refine lv_goto (tgt := 14) hx hb dX3_init_40 (by decide) ?_
  refine lv_iload_n hx hb dX3_init_14 rfl (lv_at hl 0 rfl) ?_
  refine lv_iconst (v := (4:Int32)) hx hb dX3_init_15 (by decide) ?_
  refine bi_ge (tgt := 43) hx hb dX3_init_16 (by decide) (fun _ => ?_) (fun h9 => absurd (by decide) h9)
  refine lv_aload_n hx hb dX3_init_19 rfl (lv_at hl 1 rfl) ?_
  refine va_get (D := G.1) (ci := 3) (v := .ref q) (C := RX3) (T := TX3) (N := 1) hx hb hts (by decide +kernel) hown hK hP 0 rfl rfl 0 (by decide) (hts (.fieldLink RX3 11 "PedalBoard" "wires" "[LPedalBoard$Wire;") (by decide +kernel)) (fun _ h9 => h9) rfl dX3_init_20 ?_
  refine lv_iload_n hx hb dX3_init_23 rfl (lv_at hl 0 rfl) ?_
  refine va_new (D := G.1) (ci := 2) (fs := [.null, .null, .null, .null, .null, .int 0, .long 0, .long 0, .int 0, .long 0, .long 0]) (C := RX2) (T := TX2) (N := 11) hx hb hts (by decide +kernel) tyX2 tyX2_ok hown (hts (.classLink RX3 9 RX2) (by decide +kernel)) (hts (.instantiable RX2 11) (by decide +kernel)) (hts (.initialized RX2) (by decide +kernel)) hK hP hD hS hA rfl (fun j hj => by rcases (show j = 0 ∨ j = 1 ∨ j = 2 ∨ j = 3 ∨ j = 4 ∨ j = 5 ∨ j = 6 ∨ j = 7 ∨ j = 8 ∨ j = 9 ∨ j = 10 by omega) with rfl | rfl | rfl | rfl | rfl | rfl | rfl | rfl | rfl | rfl | rfl <;> rfl) (Nat.le_of_ble_eq_true rfl) (Nat.le_of_ble_eq_true rfl) dX3_init_24 (fun b2 H hP hD hS => ?_)
  refine lv_dup hx hb dX3_init_27 rfl ?_
  refine va_gets hx hb hE.2.2.2.2.2.1 hS hown (hts (.fieldLink RX3 15 "PedalBoard" "SORTS" "[LPedalBoard$Sort;") (by decide +kernel)) (fun _ h9 => h9) dX3_init_28 ?_
  refine lv_iload_n hx hb dX3_init_31 rfl (lv_at hl 0 rfl) ?_
  refine vb_tq (v := .ref (G.2.2.1 2)) hx hb hE.2.2.2.2.2.2.1 hS (show vp_in (nI 2) 4 from vp_in_nI (by decide) (by decide)) rfl dX3_init_32 ?_
  refine cn_v (As := [.ref (G.2.2.1 2)]) (rest := [.ref b2, .int (2:Int32), .ref q]) (ws := (([(ba, .inr (3, [.ref q])), (q, .inl (G.2.1 4, 4, .inr (.inr (.inr (.inr (va_up (va_up (fun _ => none) 0 (some b0)) 1 (some b1)))))))] ++ wireW G 0 (fun k => if k = 0 then b0 else u0 k) v0) ++ wireW G 1 (fun k => if k = 0 then b1 else u1 k) v0)) ⟨hx, hb, hml, hown, hts⟩ (kX2_init l G b2 2) (cwI 1 hts gX3_init_X2_init rfl rfl rfl (hts (.initialized RX2) (by decide +kernel)) (hts (.methodLink RX3 19 yX2_init) (by decide +kernel)) (hts (.instanceMethod yX2_init) (by decide +kernel)) rfl (by decide +kernel) ⟨Nat.le_of_ble_eq_true rfl, Nat.le_of_ble_eq_true rfl⟩) ha1 ha2 hE hK hP hD hS hA hl.1 rfl rfl (Nat.le_of_ble_eq_true rfl) dX3_init_33 ⟨Nat.le_of_ble_eq_true rfl, Nat.le_of_ble_eq_true rfl⟩ (fun u2 H locs hP hD hS => ?_)
  have hP : va_P G.1 vwCl ((([(ba, .inr (3, [.ref q])), (q, .inl (G.2.1 4, 4, .inr (.inr (.inr (.inr (va_up (va_up (fun _ => none) 0 (some b0)) 1 (some b1)))))))] ++ wireW G 0 (fun k => if k = 0 then b0 else u0 k) v0) ++ wireW G 1 (fun k => if k = 0 then b1 else u1 k) v0) ++ wireW G 2 (fun k => if k = 0 then b2 else u2 k) v0) H := hP
  have hD : va_D A ((([(ba, .inr (3, [.ref q])), (q, .inl (G.2.1 4, 4, .inr (.inr (.inr (.inr (va_up (va_up (fun _ => none) 0 (some b0)) 1 (some b1)))))))] ++ wireW G 0 (fun k => if k = 0 then b0 else u0 k) v0) ++ wireW G 1 (fun k => if k = 0 then b1 else u1 k) v0) ++ wireW G 2 (fun k => if k = 0 then b2 else u2 k) v0) := hD
  refine va_astq (D := G.1) (r := (RX2, TX2, 11)) hx hb hK hP hD hS 1 4 50 2 rfl rfl rfl rfl (show vp_in (nI 2) 4 from vp_in_nI (by decide) (by decide)) dX3_init_36 (fun H locs hP hD hS => ?_)
  have hP : va_P G.1 vwCl ((([(ba, .inr (3, [.ref q])), (q, .inl (G.2.1 4, 4, .inr (.inr (.inr (.inr (va_up (va_up (va_up (fun _ => none) 0 (some b0)) 1 (some b1)) 2 (some b2)))))))] ++ wireW G 0 (fun k => if k = 0 then b0 else u0 k) v0) ++ wireW G 1 (fun k => if k = 0 then b1 else u1 k) v0) ++ wireW G 2 (fun k => if k = 0 then b2 else u2 k) v0) H := hP
  have hD : va_D A ((([(ba, .inr (3, [.ref q])), (q, .inl (G.2.1 4, 4, .inr (.inr (.inr (.inr (va_up (va_up (va_up (fun _ => none) 0 (some b0)) 1 (some b1)) 2 (some b2)))))))] ++ wireW G 0 (fun k => if k = 0 then b0 else u0 k) v0) ++ wireW G 1 (fun k => if k = 0 then b1 else u1 k) v0) ++ wireW G 2 (fun k => if k = 0 then b2 else u2 k) v0) := hD
  refine lv_iinc (v := (3:Int32)) (lv' := [(1, .int (3:Int32)), (0, .ref ba)]) hx hb dX3_init_37 hl (k := 0) rfl (by decide) (by decide) rfl (fun ls hl => ?_)
  refine lv_goto (tgt := 14) hx hb dX3_init_40 (by decide) ?_
  refine lv_iload_n hx hb dX3_init_14 rfl (lv_at hl 0 rfl) ?_
  refine lv_iconst (v := (4:Int32)) hx hb dX3_init_15 (by decide) ?_
  refine bi_ge (tgt := 43) hx hb dX3_init_16 (by decide) (fun _ => ?_) (fun h9 => absurd (by decide) h9)
  refine lv_aload_n hx hb dX3_init_19 rfl (lv_at hl 1 rfl) ?_
  refine va_get (D := G.1) (ci := 3) (v := .ref q) (C := RX3) (T := TX3) (N := 1) hx hb hts (by decide +kernel) hown hK hP 0 rfl rfl 0 (by decide) (hts (.fieldLink RX3 11 "PedalBoard" "wires" "[LPedalBoard$Wire;") (by decide +kernel)) (fun _ h9 => h9) rfl dX3_init_20 ?_
  refine lv_iload_n hx hb dX3_init_23 rfl (lv_at hl 0 rfl) ?_
  refine va_new (D := G.1) (ci := 2) (fs := [.null, .null, .null, .null, .null, .int 0, .long 0, .long 0, .int 0, .long 0, .long 0]) (C := RX2) (T := TX2) (N := 11) hx hb hts (by decide +kernel) tyX2 tyX2_ok hown (hts (.classLink RX3 9 RX2) (by decide +kernel)) (hts (.instantiable RX2 11) (by decide +kernel)) (hts (.initialized RX2) (by decide +kernel)) hK hP hD hS hA rfl (fun j hj => by rcases (show j = 0 ∨ j = 1 ∨ j = 2 ∨ j = 3 ∨ j = 4 ∨ j = 5 ∨ j = 6 ∨ j = 7 ∨ j = 8 ∨ j = 9 ∨ j = 10 by omega) with rfl | rfl | rfl | rfl | rfl | rfl | rfl | rfl | rfl | rfl | rfl <;> rfl) (Nat.le_of_ble_eq_true rfl) (Nat.le_of_ble_eq_true rfl) dX3_init_24 (fun b3 H hP hD hS => ?_)
  refine lv_dup hx hb dX3_init_27 rfl ?_
  refine va_gets hx hb hE.2.2.2.2.2.1 hS hown (hts (.fieldLink RX3 15 "PedalBoard" "SORTS" "[LPedalBoard$Sort;") (by decide +kernel)) (fun _ h9 => h9) dX3_init_28 ?_
  refine lv_iload_n hx hb dX3_init_31 rfl (lv_at hl 0 rfl) ?_
  refine vb_tq (v := .ref (G.2.2.1 3)) hx hb hE.2.2.2.2.2.2.1 hS (show vp_in (nI 3) 4 from vp_in_nI (by decide) (by decide)) rfl dX3_init_32 ?_
  refine cn_v (As := [.ref (G.2.2.1 3)]) (rest := [.ref b3, .int (3:Int32), .ref q]) (ws := ((([(ba, .inr (3, [.ref q])), (q, .inl (G.2.1 4, 4, .inr (.inr (.inr (.inr (va_up (va_up (va_up (fun _ => none) 0 (some b0)) 1 (some b1)) 2 (some b2)))))))] ++ wireW G 0 (fun k => if k = 0 then b0 else u0 k) v0) ++ wireW G 1 (fun k => if k = 0 then b1 else u1 k) v0) ++ wireW G 2 (fun k => if k = 0 then b2 else u2 k) v0)) ⟨hx, hb, hml, hown, hts⟩ (kX2_init l G b3 3) (cwI 1 hts gX3_init_X2_init rfl rfl rfl (hts (.initialized RX2) (by decide +kernel)) (hts (.methodLink RX3 19 yX2_init) (by decide +kernel)) (hts (.instanceMethod yX2_init) (by decide +kernel)) rfl (by decide +kernel) ⟨Nat.le_of_ble_eq_true rfl, Nat.le_of_ble_eq_true rfl⟩) ha1 ha2 hE hK hP hD hS hA hl.1 rfl rfl (Nat.le_of_ble_eq_true rfl) dX3_init_33 ⟨Nat.le_of_ble_eq_true rfl, Nat.le_of_ble_eq_true rfl⟩ (fun u3 H locs hP hD hS => ?_)
  have hP : va_P G.1 vwCl (((([(ba, .inr (3, [.ref q])), (q, .inl (G.2.1 4, 4, .inr (.inr (.inr (.inr (va_up (va_up (va_up (fun _ => none) 0 (some b0)) 1 (some b1)) 2 (some b2)))))))] ++ wireW G 0 (fun k => if k = 0 then b0 else u0 k) v0) ++ wireW G 1 (fun k => if k = 0 then b1 else u1 k) v0) ++ wireW G 2 (fun k => if k = 0 then b2 else u2 k) v0) ++ wireW G 3 (fun k => if k = 0 then b3 else u3 k) v0) H := hP
  have hD : va_D A (((([(ba, .inr (3, [.ref q])), (q, .inl (G.2.1 4, 4, .inr (.inr (.inr (.inr (va_up (va_up (va_up (fun _ => none) 0 (some b0)) 1 (some b1)) 2 (some b2)))))))] ++ wireW G 0 (fun k => if k = 0 then b0 else u0 k) v0) ++ wireW G 1 (fun k => if k = 0 then b1 else u1 k) v0) ++ wireW G 2 (fun k => if k = 0 then b2 else u2 k) v0) ++ wireW G 3 (fun k => if k = 0 then b3 else u3 k) v0) := hD
  refine va_astq (D := G.1) (r := (RX2, TX2, 11)) hx hb hK hP hD hS 1 4 74 2 rfl rfl rfl rfl (show vp_in (nI 3) 4 from vp_in_nI (by decide) (by decide)) dX3_init_36 (fun H locs hP hD hS => ?_)
  have hP : va_P G.1 vwCl (((([(ba, .inr (3, [.ref q])), (q, .inl (G.2.1 4, 4, .inr (.inr (.inr (.inr (va_up (va_up (va_up (va_up (fun _ => none) 0 (some b0)) 1 (some b1)) 2 (some b2)) 3 (some b3)))))))] ++ wireW G 0 (fun k => if k = 0 then b0 else u0 k) v0) ++ wireW G 1 (fun k => if k = 0 then b1 else u1 k) v0) ++ wireW G 2 (fun k => if k = 0 then b2 else u2 k) v0) ++ wireW G 3 (fun k => if k = 0 then b3 else u3 k) v0) H := hP
  have hD : va_D A (((([(ba, .inr (3, [.ref q])), (q, .inl (G.2.1 4, 4, .inr (.inr (.inr (.inr (va_up (va_up (va_up (va_up (fun _ => none) 0 (some b0)) 1 (some b1)) 2 (some b2)) 3 (some b3)))))))] ++ wireW G 0 (fun k => if k = 0 then b0 else u0 k) v0) ++ wireW G 1 (fun k => if k = 0 then b1 else u1 k) v0) ++ wireW G 2 (fun k => if k = 0 then b2 else u2 k) v0) ++ wireW G 3 (fun k => if k = 0 then b3 else u3 k) v0) := hD
  refine lv_iinc (v := (4:Int32)) (lv' := [(1, .int (4:Int32)), (0, .ref ba)]) hx hb dX3_init_37 hl (k := 0) rfl (by decide) (by decide) rfl (fun ls hl => ?_)
  refine lv_goto (tgt := 14) hx hb dX3_init_40 (by decide) ?_
  refine lv_iload_n hx hb dX3_init_14 rfl (lv_at hl 0 rfl) ?_
  refine lv_iconst (v := (4:Int32)) hx hb dX3_init_15 (by decide) ?_
  refine bi_ge (tgt := 43) hx hb dX3_init_16 (by decide) (fun h9 => absurd h9 (by decide)) (fun _ => ?_)
  rw [List.append_assoc, List.append_assoc, List.append_assoc] at hP hD
  exact rt_s hx hb hr hlocks (q, U4 (fun k => if k = 0 then b0 else u0 k) (fun k => if k = 0 then b1 else u1 k) (fun k => if k = 0 then b2 else u2 k) (fun k => if k = 0 then b3 else u3 k)) hP hD hS (Nat.le_of_ble_eq_true rfl) (Nat.le_of_ble_eq_true rfl) dX3_init_43
