section SN3
variable {p : Program} {l : Launch} {e : Env} {R : Room} {s : State} {m : MethodId} {args : Array Value} {below : List Frame} {meth : Method} {c : Code} {H : Heap} {locs : List Loc} {cells slots : Nat} {Q : State → Prop} {G : GT} {A : Nat → Prop} {cc : ByteArray} {pc : Nat} {ls : Array Slot} {st0 rest As : List Value} {Ts : List Cond} {ws : va_W}
/-- a constructor's call: the new object is the last cell -/
theorem cn_v {own : String} {y : MethodName} {wsY : List Cond} {rm : Room} {w1 : (Nat → Nat) → va_W} {bytes : ByteArray} {maxL n index nL mc ms b : Nat} {e0 : va_E} (S : CallFix p m c cc nL s args Ts own) (hM : CN l y wsY rm G (.ref b :: As) [(b, e0)] mc ms w1) (cw : CallB R s args own index y bytes maxL none wsY rm mc ms n ∧ y.name = "<init>" ∧ (Cond.instanceMethod y).before args s = true) (ha1 : va_AO RX0 s) (ha2 : va_AO RX2 s) (hE : Ev G A s s.heap) (hK : va_K G.1 vwCl (gT G) s) (hP : va_P G.1 vwCl (ws ++ [(b, e0)]) H) (hD : va_D A (ws ++ [(b, e0)])) (hS : va_S A s.heap H locs) (hA : ∀ q : Nat, s.heap.size ≤ q → A q) (hl : ls.size = nL)
    (hn : As.length = n) (hstack : st0 = As.reverse ++ .ref b :: rest) (hW : (rest.map fun v => v.category).sum ≤ 8) (hdg : decode cc pc = .ok (.invokespecial index, 3)) (hf : cells + mc ≤ R.cells ∧ slots + ms ≤ R.slots)
    (kk : ∀ (u : Nat → Nat) (H : Heap) (locs : List Loc), va_P G.1 vwCl (ws ++ w1 u) H → va_D A (ws ++ w1 u) → va_S A s.heap H locs → W p l e R s m args below meth c H locs (cells + mc) (slots + ms) Q (F0 m (pc + 3) ls rest)) : W p l e R s m args below meth c H locs cells slots Q (F0 m pc ls st0) := by
  have hlast : (ws ++ [(b, e0)])[ws.length]? = some (b, e0) := by simp
  have hC : [ws.length].map (fun i => (ws ++ [(b, e0)])[i]?) = [(b, e0)].map some := by simp
  obtain ⟨hp, hF⟩ := sb_pre (w0 := [(b, e0)]) hE hK hP hD hS hA [ws.length] rfl hC
  refine va_callv (va_runI (As := As) (rest := rest) S (hM H.size) cw ⟨fun a U g mk h => ⟨h.1, (Pre0.blind G [(b, e0)] H.size _ a U g mk ⟨h.1, h.2.1⟩).2, va_AO.moved (u := U) (U := U.calling g mk a) (Vm.Alike.refl U.vm) h.2.2.1, va_AO.moved (u := U) (U := U.calling g mk a) (Vm.Alike.refl U.vm) h.2.2.2⟩, fun U hU hW => ⟨rfl, hp U hU hW, va_AO.moved hW.alike ha1, va_AO.moved hW.alike ha2⟩⟩ rfl hn hl hstack (lv_room hW) hdg hf) hS (fun q _ h => hF q h) hF (fun u t H1 locs1 ht hvm hw hB hz hk hS1 => ?_)
  obtain ⟨hP2, hD2⟩ := sb_new hP hD hk hF (by rw [← ht]; exact hB.1) hB.2
  exact kk u H1 locs1 hP2 hD2 hS1
end SN3
