section PS
/-- where the sign stands: float, double -/
def bB : Nat → Nat := fun i => match i with | 2 => 2147483648 | _ => 9223372036854775808
/-- a code out of its sign and its size -/
def sg (i : Nat) (b : Bool) (m : Nat) : Int64 := lN (if b then m + (18446744073709551616 - bB i) else m)
theorem or_add {k m n : Nat} (h : m < 2 ^ k) : m ||| (2 ^ k * n) = m + 2 ^ k * n := by
  rw [Nat.or_comm, ← Nat.two_pow_add_eq_or_of_lt h, Nat.add_comm]
theorem xor_add {k m n : Nat} (h : m < 2 ^ k) : m ^^^ (2 ^ k * n) = m + 2 ^ k * n := by
  apply Nat.eq_of_testBit_eq
  intro j
  rw [Nat.add_comm m, Nat.testBit_xor, Nat.testBit_two_pow_mul, Nat.testBit_two_pow_mul_add _ h]
  by_cases hj : j < k
  · simp [hj, Nat.not_le.mpr hj]
  · rw [Nat.testBit_lt_two_pow (Nat.lt_of_lt_of_le h (Nat.pow_le_pow_right (by decide) (Nat.le_of_not_lt hj)))]
    simp [hj, Nat.le_of_not_lt hj]
theorem sg_c2 : ((2147483647:Int64) ^^^ (-1:Int64)) = lN (2 ^ 31 * 8589934591) := by decide +kernel
theorem sg_c3 : ((9223372036854775807:Int64) ^^^ (-1:Int64)) = lN (2 ^ 63 * 1) := by decide +kernel
theorem sg_and {i m : Nat} {b : Bool} (hi : i = 2 ∨ i = 3) (hm : m < bB i) : sg i b m &&& so_mask i = lN m := by
  rcases hi with rfl | rfl
  · have h1 : m < 2147483648 := hm
    show lN _ &&& lN (2 ^ 31 - 1) = _
    cases b
    · rw [if_neg (by decide), lN_and (by omega) (by decide), Nat.and_two_pow_sub_one_eq_mod, Nat.mod_eq_of_lt h1]
    · rw [if_pos rfl, show (18446744073709551616 - bB 2) = 18446744071562067968 from rfl, lN_and (by omega) (by decide), Nat.and_two_pow_sub_one_eq_mod, show (m + 18446744071562067968) % 2 ^ 31 = m by omega]
  · have h1 : m < 9223372036854775808 := hm
    show lN _ &&& lN (2 ^ 63 - 1) = _
    cases b
    · rw [if_neg (by decide), lN_and (by omega) (by decide), Nat.and_two_pow_sub_one_eq_mod, Nat.mod_eq_of_lt h1]
    · rw [if_pos rfl, show (18446744073709551616 - bB 3) = 9223372036854775808 from rfl, lN_and (by omega) (by decide), Nat.and_two_pow_sub_one_eq_mod, show (m + 9223372036854775808) % 2 ^ 63 = m by omega]
theorem sg_neg {i m : Nat} {b : Bool} (hi : i = 2 ∨ i = 3) (hm : m < bB i) : sg i b m < 0 ↔ b = true := by
  rcases hi with rfl | rfl
  · have h1 : m < 2147483648 := hm
    unfold sg
    cases b
    · rw [if_neg (by decide), lN_neg (by omega)]; exact ⟨fun h => absurd h (by omega), fun h => by cases h⟩
    · rw [if_pos rfl, show (18446744073709551616 - bB 2) = 18446744071562067968 from rfl, lN_neg (by omega)]; exact ⟨fun _ => rfl, fun _ => by omega⟩
  · have h1 : m < 9223372036854775808 := hm
    unfold sg
    cases b
    · rw [if_neg (by decide), lN_neg (by omega)]; exact ⟨fun h => absurd h (by omega), fun h => by cases h⟩
    · rw [if_pos rfl, show (18446744073709551616 - bB 3) = 9223372036854775808 from rfl, lN_neg (by omega)]; exact ⟨fun _ => rfl, fun _ => by omega⟩
theorem sg_or {i x : Nat} (hi : i = 2 ∨ i = 3) (hx : x < bB i) : lN x ||| (so_mask i ^^^ (-1:Int64)) = sg i true x := by
  rcases hi with rfl | rfl
  · have h1 : x < 2 ^ 31 := hx
    show lN x ||| ((2147483647:Int64) ^^^ (-1:Int64)) = _
    rw [sg_c2, lN_or (by omega) (by decide), or_add h1]; rfl
  · have h1 : x < 2 ^ 63 := hx
    show lN x ||| ((9223372036854775807:Int64) ^^^ (-1:Int64)) = _
    rw [sg_c3, lN_or (by omega) (by decide), or_add h1]; rfl
theorem sg_mk {i x : Nat} (hi : i = 2 ∨ i = 3) (hx : x < bB i) : lN x &&& so_mask i = lN x := sg_and (b := false) hi hx
theorem sg_with {i x : Nat} {sd : Int64} (hi : i = 2 ∨ i = 3) (hx : x < bB i) : fX1_withSignOf i sd (lN x) = sg i (decide (sd < 0)) x := by
  unfold fX1_withSignOf
  rw [sg_mk hi hx]
  by_cases h : sd < 0
  · rw [if_pos h, sg_or hi hx]; simp [h]
  · rw [if_neg h, Int64.or_zero]; simp [h, sg]
theorem sg_xor {i m : Nat} {b : Bool} (hi : i = 2 ∨ i = 3) (hm : m < bB i) : sg i b m ^^^ (so_mask i ^^^ (-1:Int64)) = sg i (!b) m := by
  have key : lN m ^^^ (so_mask i ^^^ (-1:Int64)) = sg i true m := by
    rcases hi with rfl | rfl
    · have h1 : m < 2 ^ 31 := hm
      show lN m ^^^ ((2147483647:Int64) ^^^ (-1:Int64)) = _
      rw [sg_c2, lN_xor (by omega) (by decide), xor_add h1]; rfl
    · have h1 : m < 2 ^ 63 := hm
      show lN m ^^^ ((9223372036854775807:Int64) ^^^ (-1:Int64)) = _
      rw [sg_c3, lN_xor (by omega) (by decide), xor_add h1]; rfl
  cases b
  · exact key
  · rw [← key, Int64.xor_assoc, Int64.xor_self, Int64.xor_zero]; rfl
theorem sg_inj {i m m' : Nat} {b b' : Bool} (hi : i = 2 ∨ i = 3) (hm : m < bB i) (hm' : m' < bB i) : sg i b m = sg i b' m' ↔ b = b' ∧ m = m' := by
  constructor
  · intro h
    have h1 : lN m = lN m' := by rw [← sg_and (b := b) hi hm, ← sg_and (b := b') hi hm', h]
    have hB : bB i ≤ 2 ^ 63 := by rcases hi with rfl | rfl <;> decide
    refine ⟨?_, (lN_inj (by omega) (by omega)).mp h1⟩
    have h2 := sg_neg (b := b) hi hm
    have h3 := sg_neg (b := b') hi hm'
    rw [h] at h2
    have h4 : b = true ↔ b' = true := h2.symm.trans h3
    cases b <;> cases b' <;> simp_all
  · rintro ⟨rfl, rfl⟩; rfl
/-- the reference's view -/
theorem sg_size {i m : Nat} {b : Bool} (hi : i = 2 ∨ i = 3) (hm : m < bB i) : fX4_size (nI i) (sg i b m) = lN m := by
  rw [← sg_and (b := b) hi hm]
  rcases hi with rfl | rfl
  · show (sg 2 b m &&& (4294967295:Int64)) &&& ((2147483648:Int64) ^^^ (-1:Int64)) = sg 2 b m &&& (2147483647:Int64)
    rw [Int64.and_assoc]
    congr 1
  · show (sg 3 b m) &&& ((-9223372036854775808:Int64) ^^^ (-1:Int64)) = sg 3 b m &&& (9223372036854775807:Int64)
    congr 1
theorem sg_below {i m : Nat} {b : Bool} (hi : i = 2 ∨ i = 3) (hm : m < bB i) : fX4_below (nI i) (sg i b m) = if b then 1 else 0 := by
  have hbit : ∀ (k n : Nat), n &&& 2 ^ k = if n.testBit k then 2 ^ k else 0 := by
    intro k n
    apply Nat.eq_of_testBit_eq
    intro j
    rw [Nat.testBit_and, Nat.testBit_two_pow]
    by_cases hj : k = j
    · subst hj
      cases h : n.testBit k
      · simp
      · simp [Nat.testBit_two_pow]
    · cases h : n.testBit k
      · simp [hj]
      · simp [hj, Nat.testBit_two_pow]
  rcases hi with rfl | rfl
  · have h1 : m < 2147483648 := hm
    show (if (sg 2 b m &&& (2147483648:Int64)) = 0 then _ else _) = _
    cases b
    · have e : sg 2 false m &&& (2147483648:Int64) = 0 := by
        show lN m &&& lN (2 ^ 31) = lN 0
        rw [lN_and (by omega) (by decide), hbit, Nat.testBit_lt_two_pow h1]; rfl
      rw [if_pos e]; rfl
    · have e : sg 2 true m &&& (2147483648:Int64) = lN (2 ^ 31) := by
        show lN (m + 18446744071562067968) &&& lN (2 ^ 31) = _
        rw [lN_and (by omega) (by decide), hbit, show m + 18446744071562067968 = 2 ^ 31 * 8589934591 + m by omega, Nat.testBit_two_pow_mul_add _ h1, if_neg (Nat.lt_irrefl 31), if_pos (by decide)]
      rw [e, if_neg (by decide)]; rfl
  · have h1 : m < 9223372036854775808 := hm
    show (if (sg 3 b m &&& (-9223372036854775808:Int64)) = 0 then _ else _) = _
    cases b
    · have e : sg 3 false m &&& (-9223372036854775808:Int64) = 0 := by
        show lN m &&& lN (2 ^ 63) = lN 0
        rw [lN_and (by omega) (by decide), hbit, Nat.testBit_lt_two_pow h1]; rfl
      rw [if_pos e]; rfl
    · have e : sg 3 true m &&& (-9223372036854775808:Int64) = lN (2 ^ 63) := by
        show lN (m + 9223372036854775808) &&& lN (2 ^ 63) = _
        rw [lN_and (by omega) (by decide), hbit, show m + 9223372036854775808 = 2 ^ 63 * 1 + m by omega, Nat.testBit_two_pow_mul_add _ h1, if_neg (Nat.lt_irrefl 63), if_pos (by decide)]
      rw [e, if_neg (by decide)]; rfl
theorem lN_32 (n k : Nat) (h : n < 2 ^ 31) : (lN (n + 2 ^ 32 * k)).toInt32.toInt64 = lN n := by
  rw [lN_i, show nI (n + 2 ^ 32 * k) = nI n from ?_, nI_l h]
  unfold nI
  apply Int32.toBitVec_inj.mp
  rw [Int32.toBitVec_ofNat', Int32.toBitVec_ofNat']
  apply BitVec.eq_of_toNat_eq
  simp [Nat.add_mul_mod_self_left]
theorem lN_32n (n k : Nat) (h : n < 2 ^ 31) : (lN (n + 2147483648 + 2 ^ 32 * k)).toInt32.toInt64 = sg 2 true n := by
  rw [lN_i]
  apply Int64.toInt_inj.mp
  show _ = (lN (n + 18446744071562067968)).toInt
  rw [Int32.toInt_toInt64, lN_tI (by omega), if_neg (by omega)]
  show (Int32.ofNat _).toBitVec.toInt = _
  rw [Int32.toBitVec_ofNat', BitVec.toInt_eq_toNat_cond, BitVec.toNat_ofNat, show (n + 2147483648 + 2 ^ 32 * k) % 2 ^ 32 = n + 2147483648 by omega, if_neg (by omega)]
  omega
theorem sg_asC {i x : Nat} {b : Bool} (hi : i = 2 ∨ i = 3) (hx : x < bB i) : fX4_asCode (nI i) (sg i b x) = sg i b x := by
  rcases hi with rfl | rfl
  · have h1 : x < 2147483648 := hx
    show (sg 2 b x).toInt32.toInt64 = _
    cases b
    · exact lN_32 x 0 h1
    · show (lN (x + 18446744071562067968)).toInt32.toInt64 = _
      rw [show x + 18446744071562067968 = x + 2147483648 + 2 ^ 32 * 4294967295 by omega, lN_32n _ _ h1]
  · rfl
theorem sg_asS {i x : Nat} {b : Bool} (hi : i = 2 ∨ i = 3) (hx : x < bB i) : fX4_asCode (nI i) ((if b then fX4_signBit (nI i) else 0) ||| lN x) = sg i b x := by
  cases b
  · rw [if_neg (by decide), Int64.zero_or]; exact sg_asC (b := false) hi hx
  · rw [if_pos rfl]
    rcases hi with rfl | rfl
    · have h1 : x < 2 ^ 31 := hx
      have e1 : fX4_signBit (nI 2) = lN (2 ^ 31 * 1) := by decide +kernel
      have e2 : ∀ v, fX4_asCode (nI 2) v = v.toInt32.toInt64 := fun _ => rfl
      rw [e1, e2, Int64.or_comm, lN_or (by omega) (by decide), or_add h1, show x + 2 ^ 31 * 1 = x + 2147483648 + 2 ^ 32 * 0 by omega, lN_32n _ _ h1]
    · have h1 : x < 2 ^ 63 := hx
      have e1 : fX4_signBit (nI 3) = lN (2 ^ 63 * 1) := by decide +kernel
      have e2 : ∀ v, fX4_asCode (nI 3) v = v := fun _ => rfl
      rw [e1, e2, Int64.or_comm, lN_or (by omega) (by decide), or_add h1]; rfl
/-- a code that its sort can hold -/
def Vd (i : Nat) (v : Int64) : Prop := fX1_fitted i v = v ∧ fX1_isIll i v = 0
def bI : Nat → Nat := fun i => match i with | 2 => 2139095040 | _ => 9218868437227405312
theorem bI_lt {i : Nat} : bI i < bB i := by unfold bI bB; split <;> decide
theorem inf_lN {i : Nat} (hi : i = 2 ∨ i = 3) : fX1_infinite i = lN (bI i) := by rcases hi with rfl | rfl <;> decide +kernel
theorem sg_ex {i : Nat} {v : Int64} (hi : i = 2 ∨ i = 3) (h : fX1_fitted i v = v) : ∃ (b : Bool) (m : Nat), m < bB i ∧ v = sg i b m := by
  rcases hi with rfl | rfl
  · have h1 : v.toInt32.toInt64 = v := h
    have e := lNv v
    generalize v.toBitVec.toNat % 2 ^ 32 = n at *
    have h2 : v = (nI v.toBitVec.toNat).toInt64 := by rw [← lN_i, ← e]; exact h1.symm
    have hn : v.toBitVec.toNat % 2 ^ 32 < 2 ^ 32 := Nat.mod_lt _ (by decide)
    generalize hq : v.toBitVec.toNat = q at *
    rw [← lN_i] at h2
    by_cases h3 : q % 2 ^ 32 < 2 ^ 31
    · refine ⟨false, q % 2 ^ 32, h3, ?_⟩
      rw [h2, show q = q % 2 ^ 32 + 2 ^ 32 * (q / 2 ^ 32) by omega, lN_32 _ _ h3]
      show _ = lN _
      rw [show (q % 2 ^ 32 + 2 ^ 32 * (q / 2 ^ 32)) % 2 ^ 32 = q % 2 ^ 32 by omega]; rfl
    · refine ⟨true, q % 2 ^ 32 - 2 ^ 31, by show _ < 2147483648; omega, ?_⟩
      have h4 : q % 2 ^ 32 - 2 ^ 31 < 2 ^ 31 := by omega
      rw [h2]
      conv => lhs; rw [show q = (q % 2 ^ 32 - 2 ^ 31) + 2147483648 + 2 ^ 32 * (q / 2 ^ 32) by omega]
      exact lN_32n _ _ h4
  · have e := lNv v
    have hq := v.toBitVec.isLt
    generalize v.toBitVec.toNat = q at *
    by_cases h3 : q < 2 ^ 63
    · exact ⟨false, q, h3, e⟩
    · refine ⟨true, q - 2 ^ 63, by show _ < 9223372036854775808; omega, ?_⟩
      rw [e]
      show lN q = lN (q - 2 ^ 63 + 9223372036854775808)
      rw [show q - 2 ^ 63 + 9223372036854775808 = q by omega]
end PS
