section PW
def fF : Nat → Nat := fun i => match i with | 2 => 23 | _ => 52
def fB : Nat → Nat := fun i => match i with | 2 => 127 | _ => 1023
theorem fF_e {i : Nat} (hi : i = 2 ∨ i = 3) : so_frac i = nI (fF i) ∧ fX4_fractionBits (nI i) = nI (fF i) ∧ so_bias i = nI (fB i) := by rcases hi with rfl | rfl <;> decide
theorem fF_n {i : Nat} (hi : i = 2 ∨ i = 3) : 23 ≤ fF i ∧ fF i ≤ 52 ∧ 127 ≤ fB i ∧ fB i ≤ 1023 := by rcases hi with rfl | rfl <;> decide
theorem nI_tI {n : Nat} (h : n < 2 ^ 31) : (nI n).toInt = (n : Int) := nI_toInt h
theorem nI_s {a b : Nat} (ha : a < 2 ^ 30) (hb : b < 2 ^ 30) : (nI a - nI b).toInt = (a : Int) - b := by
  rw [Int32.toInt_sub, nI_tI (by omega), nI_tI (by omega), Int.bmod_eq_of_le (by omega) (by omega)]
theorem nI_slt {a b c : Nat} (ha : a < 2 ^ 30) (hb : b < 2 ^ 30) (hc : c < 2 ^ 30) : nI a - nI b < nI c ↔ a < b + c := by
  rw [Int32.lt_iff_toInt_lt, nI_s ha hb, nI_tI (by omega)]
  omega
theorem nI_slt0 {a b : Nat} (ha : a < 2 ^ 30) (hb : b < 2 ^ 30) : nI a - nI b < 0 ↔ a < b := nI_slt (c := 0) ha hb (by decide)
theorem nI_ss {a b c : Nat} (ha : a < 2 ^ 30) (hb : b < 2 ^ 30) (hc : c < 2 ^ 30) (h : a ≤ b + c) : nI c - (nI a - nI b) = nI (c + b - a) := by
  apply Int32.toInt_inj.mp
  rw [Int32.toInt_sub, nI_s ha hb, nI_tI (by omega), nI_tI (by omega), Int.bmod_eq_of_le (by omega) (by omega)]
  omega
theorem lN_z {n : Nat} (h : n < 2 ^ 64) : lN n = 0 ↔ n = 0 := lN_inj (b := 0) h (by decide)
/-- sizes brought to whole numbers, in Nat -/
def wA (i : Nat) (kd : Int32) (b : Bool) : Bool := if kd = 3 then b else !b
def wK (i m : Nat) : Nat := fF i + fB i - m / 2 ^ fF i
def wN (k m : Nat) : Bool := decide (2 ^ (k - 1) < m % 2 ^ k) || (decide (m % 2 ^ k = 2 ^ (k - 1)) && decide ((m / 2 ^ k) % 2 = 1))
def wS (i : Nat) (kd : Int32) (b : Bool) (m : Nat) : Nat :=
  if m = 0 then m else if m / 2 ^ fF i < fB i + fF i then
    (if m / 2 ^ fF i < fB i then (if (if kd = 5 then decide ((fB i - 1) * 2 ^ fF i < m) else wA i kd b) = true then fB i * 2 ^ fF i else 0)
     else if m % 2 ^ wK i m = 0 then m else if (if kd = 5 then wN (wK i m) m else wA i kd b) = true then m - m % 2 ^ wK i m + 2 ^ wK i m else m - m % 2 ^ wK i m)
  else m
theorem grows {i m : Nat} {b : Bool} {kd : Int32} (hi : i = 2 ∨ i = 3) (hm : m < bB i) : fX1_growsAway kd (sg i b m) = if wA i kd b = true then 1 else 0 := by
  unfold fX1_growsAway wA
  have h := sg_neg (b := b) hi hm
  by_cases hk : kd = 3
  · rw [if_pos hk, if_pos hk]; cases b <;> simp [h]
  · rw [if_neg hk, if_neg hk]; cases b <;> simp [h]
theorem mF {i m : Nat} (hi : i = 2 ∨ i = 3) (hm : m < bB i) : m / 2 ^ fF i < 2 ^ 12 := by
  rcases hi with rfl | rfl
  · have h1 : m < 2147483648 := hm
    show m / 8388608 < _
    omega
  · have h1 : m < 9223372036854775808 := hm
    show m / 4503599627370496 < _
    omega
theorem unit_e {i m : Nat} (hi : i = 2 ∨ i = 3) (hm : m < bB i) (h1 : m / 2 ^ fF i < fB i + fF i) (h2 : ¬ m / 2 ^ fF i < fB i) : shL (1:Int64) (nI (fF i) - (nI (m / 2 ^ fF i) - nI (fB i))) = lN (2 ^ wK i m) ∧ 1 ≤ wK i m ∧ wK i m ≤ fF i := by
  have h3 := mF hi hm
  have h4 := fF_n hi
  rw [nI_ss (by omega) (by omega) (by omega) (by omega)]
  have hk : 1 ≤ wK i m ∧ wK i m ≤ fF i := by unfold wK; omega
  refine ⟨?_, hk⟩
  show shL (lN 1) (nI (wK i m)) = _
  rw [shL_lN (by omega), Nat.one_mul]
theorem rest_e {k m : Nat} (hk : k ≤ 52) (hm : m < 2 ^ 63) : lN m &&& (lN (2 ^ k) - 1) = lN (m % 2 ^ k) := by
  have h1 : 2 ^ k ≤ 2 ^ 52 := Nat.pow_le_pow_right (by decide) hk
  have h2 : 0 < 2 ^ k := Nat.two_pow_pos k
  rw [show lN (2 ^ k) - 1 = lN (2 ^ k - 1) from lN_sub (b := 1) h2, lN_and (by omega) (by omega), Nat.and_two_pow_sub_one_eq_mod]
theorem sz_e {i m : Nat} (hi : i = 2 ∨ i = 3) (hm : m < bB i) : shR (lN m) (nI (fF i)) = lN (m / 2 ^ fF i) := by
  have hB := bB_le (i := i)
  have h4 := fF_n hi
  exact shR_lN (by omega) (by omega)
theorem near_e {k m : Nat} (hk1 : 1 ≤ k) (hk : k ≤ 52) (hm : m < 2 ^ 63) : fX1_isNearerAway (lN (m - m % 2 ^ k)) (lN (m % 2 ^ k)) (lN (2 ^ k)) = if wN k m = true then 1 else 0 := by
  have h1 : 2 ^ k ≤ 2 ^ 52 := Nat.pow_le_pow_right (by decide) hk
  have h2 : 0 < 2 ^ k := Nat.two_pow_pos k
  have h3 : m % 2 ^ k < 2 ^ k := Nat.mod_lt _ h2
  have hh : shR (lN (2 ^ k)) (1:Int32) = lN (2 ^ (k - 1)) := by
    show shR (lN (2 ^ k)) (nI 1) = _
    rw [shR_lN (by omega) (by decide)]
    congr 1
    obtain ⟨j, rfl⟩ : ∃ j, k = j + 1 := ⟨k - 1, by omega⟩
    rw [Nat.pow_succ, Nat.pow_one, Nat.mul_div_cancel _ (by decide)]; rfl
  have h4 : 2 ^ (k - 1) ≤ 2 ^ k := Nat.pow_le_pow_right (by decide) (by omega)
  have ho : (lN (m - m % 2 ^ k) &&& lN (2 ^ k)) = 0 ↔ ¬ (m / 2 ^ k) % 2 = 1 := by
    rw [lN_and (by omega) (by omega), show (0:Int64) = lN 0 from rfl, lN_inj (by exact Nat.and_lt_two_pow _ (by omega)) (by decide)]
    have hb : (m - m % 2 ^ k) = 2 ^ k * (m / 2 ^ k) := by
      have := Nat.div_add_mod m (2 ^ k)
      omega
    have e1 : (2 ^ k * (m / 2 ^ k)) &&& 2 ^ k = if (m / 2 ^ k) % 2 = 1 then 2 ^ k else 0 := by
      apply Nat.eq_of_testBit_eq
      intro j
      rw [Nat.testBit_and, Nat.testBit_two_pow, Nat.testBit_two_pow_mul]
      by_cases hj : k = j
      · subst hj
        have : Nat.testBit (m / 2 ^ k) 0 = decide ((m / 2 ^ k) % 2 = 1) := by rw [Nat.testBit_zero]
        rw [Nat.sub_self, this]
        by_cases h9 : (m / 2 ^ k) % 2 = 1
        · simp [h9, Nat.testBit_two_pow]
        · simp [h9]
      · split <;> simp [hj, Nat.testBit_two_pow]
    rw [hb, e1]
    split
    · rename_i h9; exact ⟨fun g => absurd g (by omega), fun g => absurd h9 g⟩
    · rename_i h9; exact ⟨fun _ => h9, fun _ => rfl⟩
  unfold fX1_isNearerAway wN
  rw [hh]
  by_cases c1 : 2 ^ (k - 1) < m % 2 ^ k
  · rw [if_pos ((lN_lt63 (by omega) (by omega)).mpr c1)]; simp [c1]
  · rw [if_neg (fun g => c1 ((lN_lt63 (by omega) (by omega)).mp g))]
    by_cases c2 : m % 2 ^ k = 2 ^ (k - 1)
    · rw [if_pos (by rw [c2])]
      by_cases c3 : (m / 2 ^ k) % 2 = 1
      · rw [if_neg (fun g => (ho.mp g) c3)]; simp [c2, c3]
      · rw [if_pos (ho.mpr c3)]; simp [c2, c3]
    · rw [if_neg (fun g => c2 ((lN_inj (by omega) (by omega)).mp g))]; simp [c1, c2]
theorem q_ws {i m : Nat} {b : Bool} {kd : Int32} (hi : i = 2 ∨ i = 3) (hm : m < bB i) : fX1_wholeSize i kd (sg i b m) = lN (wS i kd b m) := by
  have hB := bB_le (i := i)
  have h4 := fF_n hi
  have h3 := mF hi hm
  obtain ⟨f1, f2, f3⟩ := fF_e hi
  unfold fX1_wholeSize fX1_wholeSize_75 fX1_wholeSize_150 wS
  rw [sg_and hi hm, f1, f3, sz_e hi hm, lN_i]
  by_cases c0 : m = 0
  · subst c0; rw [if_pos (show lN 0 = (0:Int64) from rfl), if_pos rfl]
  rw [if_neg (fun g => c0 ((lN_z (by omega)).mp g)), if_neg c0]
  by_cases c1 : m / 2 ^ fF i < fB i + fF i
  · rw [if_pos ((nI_slt (by omega) (by omega) (by omega)).mpr c1), if_pos c1]
    by_cases c2 : m / 2 ^ fF i < fB i
    · rw [if_pos ((nI_slt0 (by omega) (by omega)).mpr c2), if_pos c2]
      have eo : fX1_one i = lN (fB i * 2 ^ fF i) := by rcases hi with rfl | rfl <;> decide +kernel
      have eh : fX1_oneHalf i = lN ((fB i - 1) * 2 ^ fF i) := by rcases hi with rfl | rfl <;> decide +kernel
      have lh : (fB i - 1) * 2 ^ fF i < 2 ^ 63 := by rcases hi with rfl | rfl <;> decide
      rw [eo, eh, grows hi hm]
      by_cases ck : kd = 5
      · rw [if_pos ck, if_pos ck]
        by_cases c3 : (fB i - 1) * 2 ^ fF i < m
        · rw [if_pos ((lN_lt63 lh (by omega)).mpr c3)]; simp [c3]
        · rw [if_neg (fun g => c3 ((lN_lt63 lh (by omega)).mp g))]; simp [c3]; rfl
      · rw [if_neg ck, if_neg ck]
        cases wA i kd b <;> simp <;> rfl
    · rw [if_neg (fun g => c2 ((nI_slt0 (by omega) (by omega)).mp g)), if_neg c2]
      obtain ⟨u1, u2, u3⟩ := unit_e hi hm c1 c2
      generalize wK i m = k at *
      rw [u1, rest_e (by omega) (by omega)]
      have hr : m % 2 ^ k ≤ m := Nat.mod_le _ _
      by_cases c4 : m % 2 ^ k = 0
      · rw [if_pos (by rw [c4]; rfl), if_pos c4]
      · rw [if_neg (fun g => c4 ((lN_z (by omega)).mp g)), if_neg c4]
        rw [lN_sub hr, near_e u2 (by omega) (by omega), grows hi hm, lN_add]
        by_cases ck : kd = 5
        · rw [if_pos ck, if_pos ck]; cases wN k m <;> simp
        · rw [if_neg ck, if_neg ck]; cases wA i kd b <;> simp
  · rw [if_neg (fun g => c1 ((nI_slt (by omega) (by omega) (by omega)).mp g)), if_neg c1]
end PW
