/-! ===== our own rows: shifts by name, branches with one cond each (< or =), compares of longs, joins, reads of a sort's numbers, arrays by a Nat place ===== -/
section SR
def shL (x : Int64) (y : Int32) : Int64 := x <<< (y.toInt64 &&& 63)
def shR (x : Int64) (y : Int32) : Int64 := x >>> (y.toInt64 &&& 63)
def shU (x : Int64) (y : Int32) : Int64 := (x.toUInt64 >>> (y.toInt64.toUInt64 &&& Int64.toUInt64 63)).toInt64
variable {p : Program} {l : Launch} {e : Env} {R : Room} {s : State} {m : MethodId} {args : Array Value} {below : List Frame} {meth : Method} {c : Code} {H : Heap} {locs : List Loc} {cells slots : Nat} {Q : State → Prop} {cc : ByteArray} {pc : Nat} {ls : Array Slot} {rest : List Value}
theorem r_lshl (hx : p.tables.exec = Jvm.exec) (hb : c.code = cc) {x : Int64} {y : Int32} (hdg : decode cc pc = .ok (.lshl, 1)) (k : W p l e R s m args below meth c H locs cells slots Q (F0 m (pc + 1) ls (.long (shL x y) :: rest))) : W p l e R s m args below meth c H locs cells slots Q (F0 m pc ls (.int y :: .long x :: rest)) := lv_lshl hx hb hdg rfl k
theorem r_lshr (hx : p.tables.exec = Jvm.exec) (hb : c.code = cc) {x : Int64} {y : Int32} (hdg : decode cc pc = .ok (.lshr, 1)) (k : W p l e R s m args below meth c H locs cells slots Q (F0 m (pc + 1) ls (.long (shR x y) :: rest))) : W p l e R s m args below meth c H locs cells slots Q (F0 m pc ls (.int y :: .long x :: rest)) := lv_lshr hx hb hdg rfl k
theorem r_lushr (hx : p.tables.exec = Jvm.exec) (hb : c.code = cc) {x : Int64} {y : Int32} (hdg : decode cc pc = .ok (.lushr, 1)) (k : W p l e R s m args below meth c H locs cells slots Q (F0 m (pc + 1) ls (.long (shU x y) :: rest))) : W p l e R s m args below meth c H locs cells slots Q (F0 m pc ls (.int y :: .long x :: rest)) := lv_lushr hx hb hdg rfl k
theorem r_i2l (hx : p.tables.exec = Jvm.exec) (hb : c.code = cc) {x : Int32} (hdg : decode cc pc = .ok (.i2l, 1)) (k : W p l e R s m args below meth c H locs cells slots Q (F0 m (pc + 1) ls (.long x.toInt64 :: rest))) : W p l e R s m args below meth c H locs cells slots Q (F0 m pc ls (.int x :: rest)) := lv_i2l hx hb hdg rfl k
theorem r_l2i (hx : p.tables.exec = Jvm.exec) (hb : c.code = cc) {x : Int64} (hdg : decode cc pc = .ok (.l2i, 1)) (k : W p l e R s m args below meth c H locs cells slots Q (F0 m (pc + 1) ls (.int x.toInt32 :: rest))) : W p l e R s m args below meth c H locs cells slots Q (F0 m pc ls (.long x :: rest)) := lv_l2i hx hb hdg rfl k
theorem i_nlt {x y : Int32} : ¬ x < y ↔ y ≤ x := by rw [Int32.lt_iff_toInt_lt, Int32.le_iff_toInt_le]; omega
theorem i_nle {x y : Int32} : ¬ y ≤ x ↔ x < y := by rw [Int32.lt_iff_toInt_lt, Int32.le_iff_toInt_le]; omega
theorem bi_eq (hx : p.tables.exec = Jvm.exec) (hb : c.code = cc) {x y : Int32} {off : Int} {tgt : Nat} (hdg : decode cc pc = .ok (.if_icmp .eq off, 3)) (ht : (pc : Int) + off = (tgt : Int)) (kt : x = y → W p l e R s m args below meth c H locs cells slots Q (F0 m tgt ls rest)) (kf : ¬ x = y → W p l e R s m args below meth c H locs cells slots Q (F0 m (pc + 3) ls rest)) : W p l e R s m args below meth c H locs cells slots Q (F0 m pc ls (.int y :: .int x :: rest)) := lv_icmp_eq hx hb hdg ht kt kf
theorem bz_eq (hx : p.tables.exec = Jvm.exec) (hb : c.code = cc) {x : Int32} {off : Int} {tgt : Nat} (hdg : decode cc pc = .ok (.ifCond .eq off, 3)) (ht : (pc : Int) + off = (tgt : Int)) (kt : x = 0 → W p l e R s m args below meth c H locs cells slots Q (F0 m tgt ls rest)) (kf : ¬ x = 0 → W p l e R s m args below meth c H locs cells slots Q (F0 m (pc + 3) ls rest)) : W p l e R s m args below meth c H locs cells slots Q (F0 m pc ls (.int x :: rest)) := lv_if_eq hx hb hdg ht kt kf
theorem bi_ne (hx : p.tables.exec = Jvm.exec) (hb : c.code = cc) {x y : Int32} {off : Int} {tgt : Nat} (hdg : decode cc pc = .ok (.if_icmp .ne off, 3)) (ht : (pc : Int) + off = (tgt : Int)) (kt : x = y → W p l e R s m args below meth c H locs cells slots Q (F0 m (pc + 3) ls rest)) (kf : ¬ x = y → W p l e R s m args below meth c H locs cells slots Q (F0 m tgt ls rest)) : W p l e R s m args below meth c H locs cells slots Q (F0 m pc ls (.int y :: .int x :: rest)) := lv_icmp_ne hx hb hdg ht kf kt
theorem bz_ne (hx : p.tables.exec = Jvm.exec) (hb : c.code = cc) {x : Int32} {off : Int} {tgt : Nat} (hdg : decode cc pc = .ok (.ifCond .ne off, 3)) (ht : (pc : Int) + off = (tgt : Int)) (kt : x = 0 → W p l e R s m args below meth c H locs cells slots Q (F0 m (pc + 3) ls rest)) (kf : ¬ x = 0 → W p l e R s m args below meth c H locs cells slots Q (F0 m tgt ls rest)) : W p l e R s m args below meth c H locs cells slots Q (F0 m pc ls (.int x :: rest)) := lv_if_ne hx hb hdg ht kf kt
theorem bi_lt (hx : p.tables.exec = Jvm.exec) (hb : c.code = cc) {x y : Int32} {off : Int} {tgt : Nat} (hdg : decode cc pc = .ok (.if_icmp .lt off, 3)) (ht : (pc : Int) + off = (tgt : Int)) (kt : x < y → W p l e R s m args below meth c H locs cells slots Q (F0 m tgt ls rest)) (kf : ¬ x < y → W p l e R s m args below meth c H locs cells slots Q (F0 m (pc + 3) ls rest)) : W p l e R s m args below meth c H locs cells slots Q (F0 m pc ls (.int y :: .int x :: rest)) := lv_icmp_lt hx hb hdg ht kt kf
theorem bz_lt (hx : p.tables.exec = Jvm.exec) (hb : c.code = cc) {x : Int32} {off : Int} {tgt : Nat} (hdg : decode cc pc = .ok (.ifCond .lt off, 3)) (ht : (pc : Int) + off = (tgt : Int)) (kt : x < 0 → W p l e R s m args below meth c H locs cells slots Q (F0 m tgt ls rest)) (kf : ¬ x < 0 → W p l e R s m args below meth c H locs cells slots Q (F0 m (pc + 3) ls rest)) : W p l e R s m args below meth c H locs cells slots Q (F0 m pc ls (.int x :: rest)) := lv_if_lt hx hb hdg ht kt kf
theorem bi_ge (hx : p.tables.exec = Jvm.exec) (hb : c.code = cc) {x y : Int32} {off : Int} {tgt : Nat} (hdg : decode cc pc = .ok (.if_icmp .ge off, 3)) (ht : (pc : Int) + off = (tgt : Int)) (kt : x < y → W p l e R s m args below meth c H locs cells slots Q (F0 m (pc + 3) ls rest)) (kf : ¬ x < y → W p l e R s m args below meth c H locs cells slots Q (F0 m tgt ls rest)) : W p l e R s m args below meth c H locs cells slots Q (F0 m pc ls (.int y :: .int x :: rest)) := lv_icmp_ge hx hb hdg ht (fun h => kf (i_nlt.mpr h)) (fun h => kt (i_nle.mp h))
theorem bz_ge (hx : p.tables.exec = Jvm.exec) (hb : c.code = cc) {x : Int32} {off : Int} {tgt : Nat} (hdg : decode cc pc = .ok (.ifCond .ge off, 3)) (ht : (pc : Int) + off = (tgt : Int)) (kt : x < 0 → W p l e R s m args below meth c H locs cells slots Q (F0 m (pc + 3) ls rest)) (kf : ¬ x < 0 → W p l e R s m args below meth c H locs cells slots Q (F0 m tgt ls rest)) : W p l e R s m args below meth c H locs cells slots Q (F0 m pc ls (.int x :: rest)) := lv_if_ge hx hb hdg ht (fun h => kf (i_nlt.mpr h)) (fun h => kt (i_nle.mp h))
theorem bi_gt (hx : p.tables.exec = Jvm.exec) (hb : c.code = cc) {x y : Int32} {off : Int} {tgt : Nat} (hdg : decode cc pc = .ok (.if_icmp .gt off, 3)) (ht : (pc : Int) + off = (tgt : Int)) (kt : y < x → W p l e R s m args below meth c H locs cells slots Q (F0 m tgt ls rest)) (kf : ¬ y < x → W p l e R s m args below meth c H locs cells slots Q (F0 m (pc + 3) ls rest)) : W p l e R s m args below meth c H locs cells slots Q (F0 m pc ls (.int y :: .int x :: rest)) := lv_icmp_gt hx hb hdg ht kt kf
theorem bz_gt (hx : p.tables.exec = Jvm.exec) (hb : c.code = cc) {x : Int32} {off : Int} {tgt : Nat} (hdg : decode cc pc = .ok (.ifCond .gt off, 3)) (ht : (pc : Int) + off = (tgt : Int)) (kt : 0 < x → W p l e R s m args below meth c H locs cells slots Q (F0 m tgt ls rest)) (kf : ¬ 0 < x → W p l e R s m args below meth c H locs cells slots Q (F0 m (pc + 3) ls rest)) : W p l e R s m args below meth c H locs cells slots Q (F0 m pc ls (.int x :: rest)) := lv_if_gt hx hb hdg ht kt kf
theorem bi_le (hx : p.tables.exec = Jvm.exec) (hb : c.code = cc) {x y : Int32} {off : Int} {tgt : Nat} (hdg : decode cc pc = .ok (.if_icmp .le off, 3)) (ht : (pc : Int) + off = (tgt : Int)) (kt : y < x → W p l e R s m args below meth c H locs cells slots Q (F0 m (pc + 3) ls rest)) (kf : ¬ y < x → W p l e R s m args below meth c H locs cells slots Q (F0 m tgt ls rest)) : W p l e R s m args below meth c H locs cells slots Q (F0 m pc ls (.int y :: .int x :: rest)) := lv_icmp_le hx hb hdg ht (fun h => kf (i_nlt.mpr h)) (fun h => kt (i_nle.mp h))
theorem bz_le (hx : p.tables.exec = Jvm.exec) (hb : c.code = cc) {x : Int32} {off : Int} {tgt : Nat} (hdg : decode cc pc = .ok (.ifCond .le off, 3)) (ht : (pc : Int) + off = (tgt : Int)) (kt : 0 < x → W p l e R s m args below meth c H locs cells slots Q (F0 m (pc + 3) ls rest)) (kf : ¬ 0 < x → W p l e R s m args below meth c H locs cells slots Q (F0 m tgt ls rest)) : W p l e R s m args below meth c H locs cells slots Q (F0 m pc ls (.int x :: rest)) := lv_if_le hx hb hdg ht (fun h => kf (i_nlt.mpr h)) (fun h => kt (i_nle.mp h))
theorem lc_lt (x y : Int64) : lg_cmp x y < 0 ↔ x < y := by
  unfold lg_cmp
  by_cases h1 : x > y
  · rw [if_pos h1]; exact ⟨fun h => absurd h (by decide), fun h => absurd h (lg_lt_not h1)⟩
  · rw [if_neg h1]
    by_cases h2 : x = y
    · rw [if_pos h2]; subst h2; exact ⟨fun h => absurd h (by decide), fun h => absurd h h1⟩
    · rw [if_neg h2]
      refine ⟨fun _ => ?_, fun _ => by decide⟩
      rw [gt_iff_lt, Int64.lt_iff_toInt_lt] at h1; rw [Int64.lt_iff_toInt_lt]; rw [← Int64.toInt_inj] at h2; omega
theorem lc_gt (x y : Int64) : 0 < lg_cmp x y ↔ y < x := by
  unfold lg_cmp
  by_cases h1 : x > y
  · rw [if_pos h1]; exact ⟨fun _ => h1, fun _ => by decide⟩
  · rw [if_neg h1]
    by_cases h2 : x = y
    · rw [if_pos h2]; exact ⟨fun h => absurd h (by decide), fun h => absurd h h1⟩
    · rw [if_neg h2]; exact ⟨fun h => absurd h (by decide), fun h => absurd h h1⟩
theorem lc_eq (x y : Int64) : lg_cmp x y = 0 ↔ x = y := by
  unfold lg_cmp
  by_cases h1 : x > y
  · rw [if_pos h1]; exact ⟨fun h => absurd h (by decide), fun h => by subst h; exact absurd h1 (lg_lt_not h1)⟩
  · rw [if_neg h1]
    by_cases h2 : x = y
    · rw [if_pos h2]; exact ⟨fun _ => h2, fun _ => rfl⟩
    · rw [if_neg h2]; exact ⟨fun h => absurd h (by decide), fun h => absurd h h2⟩
theorem bl_eq (hx : p.tables.exec = Jvm.exec) (hb : c.code = cc) {x y : Int64} {off : Int} {tgt : Nat} (hd1 : decode cc pc = .ok (.lcmp, 1)) (hdg : decode cc (pc + 1) = .ok (.ifCond .eq off, 3)) (ht : ((pc + 1 : Nat) : Int) + off = (tgt : Int)) (kt : x = y → W p l e R s m args below meth c H locs cells slots Q (F0 m tgt ls rest)) (kf : ¬ x = y → W p l e R s m args below meth c H locs cells slots Q (F0 m (pc + 4) ls rest)) : W p l e R s m args below meth c H locs cells slots Q (F0 m pc ls (.long y :: .long x :: rest)) := W.lcmp hx hb hd1 (bz_eq hx hb hdg ht (fun h => kt ((lc_eq x y).mp h)) (fun h => kf (fun g => h ((lc_eq x y).mpr g))))
theorem bl_ne (hx : p.tables.exec = Jvm.exec) (hb : c.code = cc) {x y : Int64} {off : Int} {tgt : Nat} (hd1 : decode cc pc = .ok (.lcmp, 1)) (hdg : decode cc (pc + 1) = .ok (.ifCond .ne off, 3)) (ht : ((pc + 1 : Nat) : Int) + off = (tgt : Int)) (kt : x = y → W p l e R s m args below meth c H locs cells slots Q (F0 m (pc + 4) ls rest)) (kf : ¬ x = y → W p l e R s m args below meth c H locs cells slots Q (F0 m tgt ls rest)) : W p l e R s m args below meth c H locs cells slots Q (F0 m pc ls (.long y :: .long x :: rest)) := W.lcmp hx hb hd1 (bz_ne hx hb hdg ht (fun h => kt ((lc_eq x y).mp h)) (fun h => kf (fun g => h ((lc_eq x y).mpr g))))
theorem bl_lt (hx : p.tables.exec = Jvm.exec) (hb : c.code = cc) {x y : Int64} {off : Int} {tgt : Nat} (hd1 : decode cc pc = .ok (.lcmp, 1)) (hdg : decode cc (pc + 1) = .ok (.ifCond .lt off, 3)) (ht : ((pc + 1 : Nat) : Int) + off = (tgt : Int)) (kt : x < y → W p l e R s m args below meth c H locs cells slots Q (F0 m tgt ls rest)) (kf : ¬ x < y → W p l e R s m args below meth c H locs cells slots Q (F0 m (pc + 4) ls rest)) : W p l e R s m args below meth c H locs cells slots Q (F0 m pc ls (.long y :: .long x :: rest)) := W.lcmp hx hb hd1 (bz_lt hx hb hdg ht (fun h => kt ((lc_lt x y).mp h)) (fun h => kf (fun g => h ((lc_lt x y).mpr g))))
theorem bl_ge (hx : p.tables.exec = Jvm.exec) (hb : c.code = cc) {x y : Int64} {off : Int} {tgt : Nat} (hd1 : decode cc pc = .ok (.lcmp, 1)) (hdg : decode cc (pc + 1) = .ok (.ifCond .ge off, 3)) (ht : ((pc + 1 : Nat) : Int) + off = (tgt : Int)) (kt : x < y → W p l e R s m args below meth c H locs cells slots Q (F0 m (pc + 4) ls rest)) (kf : ¬ x < y → W p l e R s m args below meth c H locs cells slots Q (F0 m tgt ls rest)) : W p l e R s m args below meth c H locs cells slots Q (F0 m pc ls (.long y :: .long x :: rest)) := W.lcmp hx hb hd1 (bz_ge hx hb hdg ht (fun h => kt ((lc_lt x y).mp h)) (fun h => kf (fun g => h ((lc_lt x y).mpr g))))
theorem bl_gt (hx : p.tables.exec = Jvm.exec) (hb : c.code = cc) {x y : Int64} {off : Int} {tgt : Nat} (hd1 : decode cc pc = .ok (.lcmp, 1)) (hdg : decode cc (pc + 1) = .ok (.ifCond .gt off, 3)) (ht : ((pc + 1 : Nat) : Int) + off = (tgt : Int)) (kt : y < x → W p l e R s m args below meth c H locs cells slots Q (F0 m tgt ls rest)) (kf : ¬ y < x → W p l e R s m args below meth c H locs cells slots Q (F0 m (pc + 4) ls rest)) : W p l e R s m args below meth c H locs cells slots Q (F0 m pc ls (.long y :: .long x :: rest)) := W.lcmp hx hb hd1 (bz_gt hx hb hdg ht (fun h => kt ((lc_gt x y).mp h)) (fun h => kf (fun g => h ((lc_gt x y).mpr g))))
theorem bl_le (hx : p.tables.exec = Jvm.exec) (hb : c.code = cc) {x y : Int64} {off : Int} {tgt : Nat} (hd1 : decode cc pc = .ok (.lcmp, 1)) (hdg : decode cc (pc + 1) = .ok (.ifCond .le off, 3)) (ht : ((pc + 1 : Nat) : Int) + off = (tgt : Int)) (kt : y < x → W p l e R s m args below meth c H locs cells slots Q (F0 m (pc + 4) ls rest)) (kf : ¬ y < x → W p l e R s m args below meth c H locs cells slots Q (F0 m tgt ls rest)) : W p l e R s m args below meth c H locs cells slots Q (F0 m pc ls (.long y :: .long x :: rest)) := W.lcmp hx hb hd1 (bz_le hx hb hdg ht (fun h => kt ((lc_gt x y).mp h)) (fun h => kf (fun g => h ((lc_gt x y).mpr g))))
theorem jn_1 {T : Type} {g : JFrame} (G : GT) (A : Nat → Prop) (E : T) (ws' : va_W) (nL : Nat) (lv : T → List (Nat × Value)) (st : T → List Value) (tgt : Nat) (k : ∀ (y : T), y = E → ∀ (H : Heap) (locs : List Loc) (ls : Array Slot), va_P G.1 vwCl ws' H → va_D A ws' → va_S A s.heap H locs → lv_has ls nL (lv y) → W p l e R s m args below meth c H locs cells slots Q (F0 m tgt ls (st y))) (b : (∀ (y : T), y = E → ∀ (H : Heap) (locs : List Loc) (ls : Array Slot), va_P G.1 vwCl ws' H → va_D A ws' → va_S A s.heap H locs → lv_has ls nL (lv y) → W p l e R s m args below meth c H locs cells slots Q (F0 m tgt ls (st y))) → W p l e R s m args below meth c H locs cells slots Q g) : W p l e R s m args below meth c H locs cells slots Q g := b k
theorem lp_1 {T : Type} (G : GT) (A : Nat → Prop) (N : Nat) (inv : Nat → T → Prop) (ws' : Nat → T → va_W) (nL : Nat) (lv : Nat → T → List (Nat × Value)) (tgt : Nat) (body : ∀ (k : Nat) (y : T), k ≤ N → inv k y → (k < N → ∀ y' : T, inv (k + 1) y' → ∀ (H : Heap) (locs : List Loc) (ls : Array Slot), va_P G.1 vwCl (ws' (k + 1) y') H → va_D A (ws' (k + 1) y') → va_S A s.heap H locs → lv_has ls nL (lv (k + 1) y') → W p l e R s m args below meth c H locs cells slots Q (F0 m tgt ls [])) → ∀ (H : Heap) (locs : List Loc) (ls : Array Slot), va_P G.1 vwCl (ws' k y) H → va_D A (ws' k y) → va_S A s.heap H locs → lv_has ls nL (lv k y) → W p l e R s m args below meth c H locs cells slots Q (F0 m tgt ls [])) (k0 : Nat) (y0 : T) (hk0 : k0 ≤ N) (hi0 : inv k0 y0) : ∀ (H : Heap) (locs : List Loc) (ls : Array Slot), va_P G.1 vwCl (ws' k0 y0) H → va_D A (ws' k0 y0) → va_S A s.heap H locs → lv_has ls nL (lv k0 y0) → W p l e R s m args below meth c H locs cells slots Q (F0 m tgt ls []) := by
  have key : ∀ (n k : Nat) (y : T), k + n = N → inv k y → ∀ (H : Heap) (locs : List Loc) (ls : Array Slot), va_P G.1 vwCl (ws' k y) H → va_D A (ws' k y) → va_S A s.heap H locs → lv_has ls nL (lv k y) → W p l e R s m args below meth c H locs cells slots Q (F0 m tgt ls []) := by
    intro n
    induction n with
    | zero => intro k y hk hi; exact body k y (by omega) hi (fun h => absurd h (by omega))
    | succ n ih => intro k y hk hi; exact body k y (by omega) hi (fun _ y' hi' => ih (k + 1) y' (by omega) hi')
  exact key (N - k0) k0 y0 (by omega) hi0
end SR
section SS
variable {p : Program} {l : Launch} {e : Env} {R : Room} {s : State} {m : MethodId} {args : Array Value} {below : List Frame} {meth : Method} {c : Code} {H : Heap} {locs : List Loc} {cells slots : Nat} {Q : State → Prop} {cc : ByteArray} {pc : Nat} {ls : Array Slot} {rest : List Value} {G : GT} {A : Nat → Prop} {i index : Nat} {own : String}
theorem sg_bits (hx : p.tables.exec = Jvm.exec) (hb : c.code = cc) (hE : Ev G A s s.heap) (hi : i < 4) (hS : va_S A s.heap H locs) (hown : s.vm.findClass own = some m.cls) (hlink : (Cond.fieldLink own index "PedalBoard$Sort" "bits" "I").before args s = true) (hdg : decode cc pc = .ok (.getfield index, 3)) (kk : W p l e R s m args below meth c H locs cells slots Q (F0 m (pc + 3) ls (.int (so_bits i) :: rest))) : W p l e R s m args below meth c H locs cells slots Q (F0 m pc ls (.ref (G.2.2.1 i) :: rest)) := va_getX hx hb hE.2.1 hi hS hown hlink (fun _ h9 => h9) hdg kk
theorem sg_fraction (hx : p.tables.exec = Jvm.exec) (hb : c.code = cc) (hE : Ev G A s s.heap) (hi : i < 4) (hS : va_S A s.heap H locs) (hown : s.vm.findClass own = some m.cls) (hlink : (Cond.fieldLink own index "PedalBoard$Sort" "fraction" "I").before args s = true) (hdg : decode cc pc = .ok (.getfield index, 3)) (kk : W p l e R s m args below meth c H locs cells slots Q (F0 m (pc + 3) ls (.int (so_frac i) :: rest))) : W p l e R s m args below meth c H locs cells slots Q (F0 m pc ls (.ref (G.2.2.1 i) :: rest)) := va_getX hx hb hE.2.2.1 hi hS hown hlink (fun _ h9 => h9) hdg kk
theorem sg_bias (hx : p.tables.exec = Jvm.exec) (hb : c.code = cc) (hE : Ev G A s s.heap) (hi : i < 4) (hS : va_S A s.heap H locs) (hown : s.vm.findClass own = some m.cls) (hlink : (Cond.fieldLink own index "PedalBoard$Sort" "bias" "I").before args s = true) (hdg : decode cc pc = .ok (.getfield index, 3)) (kk : W p l e R s m args below meth c H locs cells slots Q (F0 m (pc + 3) ls (.int (so_bias i) :: rest))) : W p l e R s m args below meth c H locs cells slots Q (F0 m pc ls (.ref (G.2.2.1 i) :: rest)) := va_getX hx hb hE.2.2.2.1 hi hS hown hlink (fun _ h9 => h9) hdg kk
theorem sg_sizeMask (hx : p.tables.exec = Jvm.exec) (hb : c.code = cc) (hE : Ev G A s s.heap) (hi : i < 4) (hS : va_S A s.heap H locs) (hown : s.vm.findClass own = some m.cls) (hlink : (Cond.fieldLink own index "PedalBoard$Sort" "sizeMask" "J").before args s = true) (hdg : decode cc pc = .ok (.getfield index, 3)) (kk : W p l e R s m args below meth c H locs cells slots Q (F0 m (pc + 3) ls (.long (so_mask i) :: rest))) : W p l e R s m args below meth c H locs cells slots Q (F0 m pc ls (.ref (G.2.2.1 i) :: rest)) := va_getX hx hb hE.2.2.2.2.1 hi hS hown hlink (fun _ h9 => h9) hdg kk
theorem so_rec (hE : Ev G A s s.heap) (hi : i < 4) (hS : va_S A s.heap H locs) : ∃ cell : Cell, H[G.2.2.1 i]? = some cell ∧ cell.vm.isStatics = false ∧ s.vm.findClass RX1 = some cell.cls := by
  obtain ⟨cell, h1, h2, h3, -⟩ := (hE.1 i hi).kept hS.2.1
  exact ⟨cell, h1, h2, h3⟩
end SS
section SA
variable {p : Program} {l : Launch} {e : Env} {R : Room} {s : State} {m : MethodId} {args : Array Value} {below : List Frame} {meth : Method} {c : Code} {H : Heap} {locs : List Loc} {cells slots : Nat} {Q : State → Prop} {cc : ByteArray} {pc : Nat} {ls : Array Slot} {rest : List Value} {G : GT} {A : Nat → Prop} {ws : va_W} {a N n : Nat} {i : Int32}
theorem ar_ild (hx : p.tables.exec = Jvm.exec) (hb : c.code = cc) (hK : va_K G.1 vwCl (gT G) s) (hP : va_P G.1 vwCl ws H) (q0 : Nat) {f : Nat → Int32} (ha : ws[q0]? = some (a, .inl (G.2.1 0, N, .inl f))) (n : Nat) (hi : i = nI n) (hn : n < N) (hN : N < 2 ^ 31) (hdg : decode cc pc = .ok (.iaload, 1)) (kk : W p l e R s m args below meth c H locs cells slots Q (F0 m (pc + 1) ls (.int (f n) :: rest))) : W p l e R s m args below meth c H locs cells slots Q (F0 m pc ls (.int i :: .ref a :: rest)) := by
  have hc : (nI n).toNatClampNeg = n := nI_clamp (Nat.lt_trans hn hN)
  subst hi
  refine va_iald hx hb hK hP q0 0 ha rfl (vp_in_nI hn hN) hdg ?_
  rw [hc]
  exact kk
theorem ar_zld (hx : p.tables.exec = Jvm.exec) (hb : c.code = cc) (hK : va_K G.1 vwCl (gT G) s) (hP : va_P G.1 vwCl ws H) (q0 : Nat) {f : Nat → Int32} (ha : ws[q0]? = some (a, .inl (G.2.1 2, N, .inl f))) (n : Nat) (hi : i = nI n) (hn : n < N) (hN : N < 2 ^ 31) (hdg : decode cc pc = .ok (.baload, 1)) (kk : W p l e R s m args below meth c H locs cells slots Q (F0 m (pc + 1) ls (.int (f n) :: rest))) : W p l e R s m args below meth c H locs cells slots Q (F0 m pc ls (.int i :: .ref a :: rest)) := by
  have hc : (nI n).toNatClampNeg = n := nI_clamp (Nat.lt_trans hn hN)
  subst hi
  refine va_zald hx hb hK hP q0 2 ha rfl (vp_in_nI hn hN) hdg ?_
  rw [hc]
  exact kk
theorem ar_lld (hx : p.tables.exec = Jvm.exec) (hb : c.code = cc) (hK : va_K G.1 vwCl (gT G) s) (hP : va_P G.1 vwCl ws H) (q0 : Nat) {f : Nat → Int64} (ha : ws[q0]? = some (a, .inl (G.2.1 1, N, .inr (.inl f)))) (n : Nat) (hi : i = nI n) (hn : n < N) (hN : N < 2 ^ 31) (hdg : decode cc pc = .ok (.laload, 1)) (kk : W p l e R s m args below meth c H locs cells slots Q (F0 m (pc + 1) ls (.long (f n) :: rest))) : W p l e R s m args below meth c H locs cells slots Q (F0 m pc ls (.int i :: .ref a :: rest)) := by
  have hc : (nI n).toNatClampNeg = n := nI_clamp (Nat.lt_trans hn hN)
  subst hi
  refine va_lald hx hb hK hP q0 1 ha rfl (vp_in_nI hn hN) hdg ?_
  rw [hc]
  exact kk
theorem ar_ist (hx : p.tables.exec = Jvm.exec) (hb : c.code = cc) (hK : va_K G.1 vwCl (gT G) s) (hP : va_P G.1 vwCl ws H) (hD : va_D A ws) (hS : va_S A s.heap H locs) (q0 : Nat) {f : Nat → Int32} {x : Int32} (ha : ws[q0]? = some (a, .inl (G.2.1 0, N, .inl f))) (n : Nat) (hi : i = nI n) (hn : n < N) (hN : N < 2 ^ 31) (hdg : decode cc pc = .ok (.iastore, 1)) (kk : ∀ (H1 : Heap) (locs1 : List Loc), va_P G.1 vwCl (ws.set q0 (a, .inl (G.2.1 0, N, .inl (upd f n x)))) H1 → va_D A (ws.set q0 (a, .inl (G.2.1 0, N, .inl (upd f n x)))) → va_S A s.heap H1 locs1 → W p l e R s m args below meth c H1 locs1 cells slots Q (F0 m (pc + 1) ls rest)) : W p l e R s m args below meth c H locs cells slots Q (F0 m pc ls (.int x :: .int i :: .ref a :: rest)) := by
  have hc : (nI n).toNatClampNeg = n := nI_clamp (Nat.lt_trans hn hN)
  subst hi
  refine va_iast hx hb hK hP hD hS q0 0 ha rfl (vp_in_nI hn hN) hdg (fun H1 locs1 hP1 hD1 hS1 => ?_)
  rw [hc] at hP1 hD1
  exact kk H1 locs1 hP1 hD1 hS1
theorem ar_zst (hx : p.tables.exec = Jvm.exec) (hb : c.code = cc) (hK : va_K G.1 vwCl (gT G) s) (hP : va_P G.1 vwCl ws H) (hD : va_D A ws) (hS : va_S A s.heap H locs) (q0 : Nat) {f : Nat → Int32} {x : Int32} (ha : ws[q0]? = some (a, .inl (G.2.1 2, N, .inl f))) (n : Nat) (hi : i = nI n) (hn : n < N) (hN : N < 2 ^ 31) (hx2 : x = 0 ∨ x = 1) (hdg : decode cc pc = .ok (.bastore, 1)) (kk : ∀ (H1 : Heap) (locs1 : List Loc), va_P G.1 vwCl (ws.set q0 (a, .inl (G.2.1 2, N, .inl (upd f n x)))) H1 → va_D A (ws.set q0 (a, .inl (G.2.1 2, N, .inl (upd f n x)))) → va_S A s.heap H1 locs1 → W p l e R s m args below meth c H1 locs1 cells slots Q (F0 m (pc + 1) ls rest)) : W p l e R s m args below meth c H locs cells slots Q (F0 m pc ls (.int x :: .int i :: .ref a :: rest)) := by
  have hc : (nI n).toNatClampNeg = n := nI_clamp (Nat.lt_trans hn hN)
  have hnar : vp_nar .boolean x = x := by rcases hx2 with h | h <;> subst h <;> decide
  subst hi
  refine va_zast hx hb hK hP hD hS q0 2 ha rfl (vp_in_nI hn hN) hdg (fun H1 locs1 hP1 hD1 hS1 => ?_)
  rw [hc] at hP1 hD1
  rw [hnar] at hP1 hD1
  exact kk H1 locs1 hP1 hD1 hS1
theorem ar_lst (hx : p.tables.exec = Jvm.exec) (hb : c.code = cc) (hK : va_K G.1 vwCl (gT G) s) (hP : va_P G.1 vwCl ws H) (hD : va_D A ws) (hS : va_S A s.heap H locs) (q0 : Nat) {f : Nat → Int64} {x : Int64} (ha : ws[q0]? = some (a, .inl (G.2.1 1, N, .inr (.inl f)))) (n : Nat) (hi : i = nI n) (hn : n < N) (hN : N < 2 ^ 31) (hdg : decode cc pc = .ok (.lastore, 1)) (kk : ∀ (H1 : Heap) (locs1 : List Loc), va_P G.1 vwCl (ws.set q0 (a, .inl (G.2.1 1, N, .inr (.inl (vp_updL f n x))))) H1 → va_D A (ws.set q0 (a, .inl (G.2.1 1, N, .inr (.inl (vp_updL f n x))))) → va_S A s.heap H1 locs1 → W p l e R s m args below meth c H1 locs1 cells slots Q (F0 m (pc + 1) ls rest)) : W p l e R s m args below meth c H locs cells slots Q (F0 m pc ls (.long x :: .int i :: .ref a :: rest)) := by
  have hc : (nI n).toNatClampNeg = n := nI_clamp (Nat.lt_trans hn hN)
  subst hi
  refine va_last hx hb hK hP hD hS q0 1 ha rfl (vp_in_nI hn hN) hdg (fun H1 locs1 hP1 hD1 hS1 => ?_)
  rw [hc] at hP1 hD1
  exact kk H1 locs1 hP1 hD1 hS1
end SA
section SZ
theorem z_nar {x : Int32} (h : x = 0 ∨ x = 1) : narrow .boolean (.int x) = .int x := by rcases h with h | h <;> subst h <;> decide
theorem z_fit {x : Int32} (h : x = 0 ∨ x = 1) : fits .boolean (.int x) = true := by rcases h with h | h <;> subst h <;> decide
theorem ep2_inj {α β : Type} {a a' : α} {b b' : β} (h : (a, b) = (a', b')) : a = a' ∧ b = b' := Prod.mk.inj h
theorem ep3_inj {α β γ : Type} {a a' : α} {b b' : β} {c c' : γ} (h : (a, b, c) = (a', b', c')) : a = a' ∧ b = b' ∧ c = c' := ⟨(Prod.mk.inj h).1, (Prod.mk.inj (Prod.mk.inj h).2).1, (Prod.mk.inj (Prod.mk.inj h).2).2⟩
theorem sw_out4 {x : Int32} (h0 : ¬ x = 0) (h1 : ¬ x = 1) (h2 : ¬ x = 2) (h3 : ¬ x = 3) : x.toInt < 0 ∨ 3 < x.toInt := by
  have g0 : x.toInt ≠ 0 := fun h => h0 (Int32.toInt_inj.mp h)
  have g1 : x.toInt ≠ 1 := fun h => h1 (Int32.toInt_inj.mp h)
  have g2 : x.toInt ≠ 2 := fun h => h2 (Int32.toInt_inj.mp h)
  have g3 : x.toInt ≠ 3 := fun h => h3 (Int32.toInt_inj.mp h)
  omega
theorem sw_out8 {x : Int32} (h0 : ¬ x = 0) (h1 : ¬ x = 1) (h2 : ¬ x = 2) (h3 : ¬ x = 3) (h4 : ¬ x = 4) (h5 : ¬ x = 5) (h6 : ¬ x = 6) (h7 : ¬ x = 7) : x.toInt < 0 ∨ 7 < x.toInt := by
  have g0 : x.toInt ≠ 0 := fun h => h0 (Int32.toInt_inj.mp h)
  have g1 : x.toInt ≠ 1 := fun h => h1 (Int32.toInt_inj.mp h)
  have g2 : x.toInt ≠ 2 := fun h => h2 (Int32.toInt_inj.mp h)
  have g3 : x.toInt ≠ 3 := fun h => h3 (Int32.toInt_inj.mp h)
  have g4 : x.toInt ≠ 4 := fun h => h4 (Int32.toInt_inj.mp h)
  have g5 : x.toInt ≠ 5 := fun h => h5 (Int32.toInt_inj.mp h)
  have g6 : x.toInt ≠ 6 := fun h => h6 (Int32.toInt_inj.mp h)
  have g7 : x.toInt ≠ 7 := fun h => h7 (Int32.toInt_inj.mp h)
  omega
theorem sw_out9 {x : Int32} (h0 : ¬ x = 0) (h1 : ¬ x = 1) (h2 : ¬ x = 2) (h3 : ¬ x = 3) (h4 : ¬ x = 4) (h5 : ¬ x = 5) (h6 : ¬ x = 6) (h7 : ¬ x = 7) (h8 : ¬ x = 8) : x.toInt < 0 ∨ 8 < x.toInt := by
  have g0 : x.toInt ≠ 0 := fun h => h0 (Int32.toInt_inj.mp h)
  have g1 : x.toInt ≠ 1 := fun h => h1 (Int32.toInt_inj.mp h)
  have g2 : x.toInt ≠ 2 := fun h => h2 (Int32.toInt_inj.mp h)
  have g3 : x.toInt ≠ 3 := fun h => h3 (Int32.toInt_inj.mp h)
  have g4 : x.toInt ≠ 4 := fun h => h4 (Int32.toInt_inj.mp h)
  have g5 : x.toInt ≠ 5 := fun h => h5 (Int32.toInt_inj.mp h)
  have g6 : x.toInt ≠ 6 := fun h => h6 (Int32.toInt_inj.mp h)
  have g7 : x.toInt ≠ 7 := fun h => h7 (Int32.toInt_inj.mp h)
  have g8 : x.toInt ≠ 8 := fun h => h8 (Int32.toInt_inj.mp h)
  omega
theorem sw_out14 {x : Int32} (h0 : ¬ x = 0) (h1 : ¬ x = 1) (h2 : ¬ x = 2) (h3 : ¬ x = 3) (h4 : ¬ x = 4) (h5 : ¬ x = 5) (h6 : ¬ x = 6) (h7 : ¬ x = 7) (h8 : ¬ x = 8) (h9 : ¬ x = 9) (h10 : ¬ x = 10) (h11 : ¬ x = 11) (h12 : ¬ x = 12) (h13 : ¬ x = 13) : x.toInt < 0 ∨ 13 < x.toInt := by
  have g0 : x.toInt ≠ 0 := fun h => h0 (Int32.toInt_inj.mp h)
  have g1 : x.toInt ≠ 1 := fun h => h1 (Int32.toInt_inj.mp h)
  have g2 : x.toInt ≠ 2 := fun h => h2 (Int32.toInt_inj.mp h)
  have g3 : x.toInt ≠ 3 := fun h => h3 (Int32.toInt_inj.mp h)
  have g4 : x.toInt ≠ 4 := fun h => h4 (Int32.toInt_inj.mp h)
  have g5 : x.toInt ≠ 5 := fun h => h5 (Int32.toInt_inj.mp h)
  have g6 : x.toInt ≠ 6 := fun h => h6 (Int32.toInt_inj.mp h)
  have g7 : x.toInt ≠ 7 := fun h => h7 (Int32.toInt_inj.mp h)
  have g8 : x.toInt ≠ 8 := fun h => h8 (Int32.toInt_inj.mp h)
  have g9 : x.toInt ≠ 9 := fun h => h9 (Int32.toInt_inj.mp h)
  have g10 : x.toInt ≠ 10 := fun h => h10 (Int32.toInt_inj.mp h)
  have g11 : x.toInt ≠ 11 := fun h => h11 (Int32.toInt_inj.mp h)
  have g12 : x.toInt ≠ 12 := fun h => h12 (Int32.toInt_inj.mp h)
  have g13 : x.toInt ≠ 13 := fun h => h13 (Int32.toInt_inj.mp h)
  omega
variable {p : Program} {l : Launch} {e : Env} {R : Room} {s : State} {m : MethodId} {args : Array Value} {below : List Frame} {meth : Method} {c : Code} {H : Heap} {locs : List Loc} {cells slots : Nat} {Q : State → Prop} {cc : ByteArray} {pc : Nat} {ls : Array Slot} {rest : List Value}
theorem sw_in (hx : p.tables.exec = Jvm.exec) (hb : c.code = cc) {dflt lo hi : Int} {offs : Array Int} {len : Nat} {x v : Int32} {off : Int} {tgt : Nat} (hdg : decode cc pc = .ok (.tableswitch dflt lo hi offs, len)) (hv : x = v) (h1 : ¬ v.toInt < lo) (h2 : ¬ hi < v.toInt) (ho : offs[(v.toInt - lo).toNat]? = some off) (ht : (pc : Int) + off = (tgt : Int)) (k : W p l e R s m args below meth c H locs cells slots Q (F0 m tgt ls rest)) : W p l e R s m args below meth c H locs cells slots Q (F0 m pc ls (.int x :: rest)) := by
  subst hv
  exact lv_tableIn hx hb hdg h1 h2 ho ht k
end SZ
