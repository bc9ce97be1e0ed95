section PX
/-- the odd bit -/
theorem odd_e {k m : Nat} (hk : k ≤ 52) (hm : m < 2 ^ 63) : (lN m &&& lN (2 ^ k)) = 0 ↔ ¬ (m / 2 ^ k) % 2 = 1 := by
  have h1 : 2 ^ k ≤ 2 ^ 52 := Nat.pow_le_pow_right (by decide) hk
  have h2 : 0 < 2 ^ k := Nat.two_pow_pos k
  rw [lN_and (by omega) (by omega), lN_z (Nat.and_lt_two_pow _ (by omega))]
  have e1 : m &&& 2 ^ k = if (m / 2 ^ k) % 2 = 1 then 2 ^ k else 0 := by
    apply Nat.eq_of_testBit_eq
    intro j
    rw [Nat.testBit_and, Nat.testBit_two_pow]
    by_cases hj : k = j
    · subst hj
      have : Nat.testBit m k = decide ((m / 2 ^ k) % 2 = 1) := by rw [Nat.testBit_eq_decide_div_mod_eq]
      rw [this]
      by_cases h9 : (m / 2 ^ k) % 2 = 1
      · simp [h9, Nat.testBit_two_pow]
      · simp [h9]
    · split <;> simp [hj, Nat.testBit_two_pow]
  rw [e1]
  split
  · rename_i h9; exact ⟨fun g => absurd g (by omega), fun g => absurd h9 g⟩
  · rename_i h9; exact ⟨fun _ => h9, fun _ => rfl⟩
theorem wS_lt {i m : Nat} {b : Bool} {kd : Int32} (hi : i = 2 ∨ i = 3) (hm : m < bB i) : wS i kd b m < bB i ∧ (m ≤ bI i → wS i kd b m ≤ bI i) := by
  unfold wS
  have h1 : fB i * 2 ^ fF i ≤ bI i := by rcases hi with rfl | rfl <;> decide
  have h2 := bI_lt (i := i)
  generalize (if kd = 5 then decide ((fB i - 1) * 2 ^ fF i < m) else wA i kd b) = b1
  generalize (if kd = 5 then wN (wK i m) m else wA i kd b) = b2
  split
  · exact ⟨hm, fun h => h⟩
  split
  · rename_i c1
    split
    · split
      · exact ⟨by omega, fun _ => h1⟩
      · exact ⟨by omega, fun _ => Nat.zero_le _⟩
    · rename_i c2
      split
      · exact ⟨hm, fun h => h⟩
      split
      · have hk : wK i m ≤ fF i := by unfold wK; omega
        have e1 : 2 ^ wK i m ≤ 2 ^ fF i := Nat.pow_le_pow_right (by decide) hk
        have e2 : m < (fB i + fF i) * 2 ^ fF i := by
          rw [Nat.div_lt_iff_lt_mul (Nat.two_pow_pos _)] at c1
          exact c1
        have e3 : (fB i + fF i) * 2 ^ fF i + 2 ^ fF i ≤ bI i := by rcases hi with rfl | rfl <;> decide
        constructor
        · omega
        · intro _; omega
      · exact ⟨by omega, fun h => by omega⟩
  · exact ⟨hm, fun h => h⟩
theorem q_whole {i m : Nat} {b : Bool} {kd : Int32} (hi : i = 2 ∨ i = 3) (hm : m < bB i) : fX4_whole (nI i) (sg i b m) kd = sg i b (wS i kd b m) := by
  have hB := bB_le (i := i)
  have h4 := fF_n hi
  have h3 := mF hi hm
  have hw := (wS_lt (b := b) (kd := kd) hi hm).1
  obtain ⟨f1, f2, f3⟩ := fF_e hi
  have e1 : (if nI i = (2:Int32) then (127:Int32) else (1023:Int32)) = nI (fB i) := by rcases hi with rfl | rfl <;> decide
  have e2 : (if nI i = (2:Int32) then (1065353216:Int64) else (4607182418800017408:Int64)) = lN (fB i * 2 ^ fF i) := by rcases hi with rfl | rfl <;> decide +kernel
  have e3 : (if (if b then (1:Int32) else 0) = 0 then (0:Int64) else fX4_signBit (nI i)) = (if b then fX4_signBit (nI i) else 0) := by cases b <;> simp
  have e4 : shL (1:Int64) (nI (fF i)) = lN (2 ^ fF i) := by show shL (lN 1) _ = _; rw [shL_lN (by omega), Nat.one_mul]
  have e5 : lN (fB i * 2 ^ fF i) - lN (2 ^ fF i) = lN ((fB i - 1) * 2 ^ fF i) := by rcases hi with rfl | rfl <;> decide +kernel
  have e6 : (if (if b then (1:Int32) else 0) = (if kd = 3 then (1:Int32) else 0) then (1:Int32) else 0) = if wA i kd b = true then 1 else 0 := by
    unfold wA
    by_cases hk : kd = 3
    · rw [if_pos hk, if_pos hk]; cases b <;> simp
    · rw [if_neg hk, if_neg hk]; cases b <;> simp
  unfold fX4_whole fX4_whole_32 fX4_whole_71 fX4_whole_87 fX4_whole_207 fX4_whole_271 fX4_whole_144
  rw [sg_size hi hm, sg_below hi hm, f2, sz_e hi hm, lN_i, e1, e2, e3, e4, e5, e6]
  have hs : ∀ x, x < bB i → fX4_asCode (nI i) ((if b then fX4_signBit (nI i) else 0) ||| lN x) = sg i b x := fun x hx => sg_asS hi hx
  unfold wS at hw ⊢
  by_cases c0 : m = 0
  · subst c0; rw [if_pos (show lN 0 = (0:Int64) from rfl), if_pos rfl]
  rw [if_neg (fun g => c0 ((lN_z (by omega)).mp g)), if_neg c0]
  rw [if_neg c0] at hw
  by_cases c1 : m / 2 ^ fF i < fB i + fF i
  · rw [if_pos ((nI_slt (by omega) (by omega) (by omega)).mpr c1), if_pos c1]
    rw [if_pos c1] at hw
    by_cases c2 : m / 2 ^ fF i < fB i
    · rw [if_pos ((nI_slt0 (by omega) (by omega)).mpr c2), if_pos c2]
      rw [if_pos c2] at hw
      have lh : (fB i - 1) * 2 ^ fF i < 2 ^ 63 := by rcases hi with rfl | rfl <;> decide
      have lo : fB i * 2 ^ fF i < bB i := by rcases hi with rfl | rfl <;> decide
      have l0 : 0 < bB i := by omega
      have h0 := hs 0 l0
      have h1 := hs _ lo
      rw [h1, show (0:Int64) = lN 0 from rfl, show (if b = true then fX4_signBit (nI i) else lN 0) = (if b = true then fX4_signBit (nI i) else 0) from rfl, h0]
      by_cases ck : kd = 5
      · rw [if_pos ck, if_pos ck]
        by_cases c3 : (fB i - 1) * 2 ^ fF i < m
        · rw [if_pos ((lN_lt63 lh (by omega)).mpr c3)]; simp [c3]
        · rw [if_neg (fun g => c3 ((lN_lt63 lh (by omega)).mp g))]; simp [c3]
      · rw [if_neg ck, if_neg ck]
        cases wA i kd b <;> simp
    · rw [if_neg (fun g => c2 ((nI_slt0 (by omega) (by omega)).mp g)), if_neg c2]
      rw [if_neg c2] at hw
      obtain ⟨u1, u2, u3⟩ := unit_e hi hm c1 c2
      generalize wK i m = k at *
      have p1 : 2 ^ k ≤ 2 ^ 52 := Nat.pow_le_pow_right (by decide) (by omega)
      have p2 : 0 < 2 ^ k := Nat.two_pow_pos k
      rw [u1, rest_e (by omega) (by omega)]
      have hr : m % 2 ^ k ≤ m := Nat.mod_le _ _
      have hr2 : m % 2 ^ k < 2 ^ k := Nat.mod_lt _ p2
      by_cases c4 : m % 2 ^ k = 0
      · rw [if_pos (by rw [c4]; rfl), if_pos c4]
      · rw [if_neg (fun g => c4 ((lN_z (by omega)).mp g)), if_neg c4]
        rw [if_neg c4] at hw
        rw [lN_sub hr, lN_add, show (2:Int64) = lN 2 from rfl, lN_mul, show lN (m - m % 2 ^ k) + (0:Int64) = lN (m - m % 2 ^ k) from Int64.add_zero _]
        have hx1 : m - m % 2 ^ k < bB i := by omega
        rw [hs _ hx1]
        have hd : 2 ^ k = 2 * 2 ^ (k - 1) := by
          obtain ⟨j, rfl⟩ : ∃ j, k = j + 1 := ⟨k - 1, by omega⟩
          rw [Nat.pow_succ, Nat.mul_comm]; rfl
        have hg : (if lN (2 ^ k) < lN (2 * (m % 2 ^ k)) then (1:Int32) else if lN (2 * (m % 2 ^ k)) = lN (2 ^ k) then (if (if (lN m &&& lN (2 ^ k)) = (0:Int64) then (0:Int32) else 1) = 0 then (0:Int32) else 1) else 0) = if wN k m = true then 1 else 0 := by
          unfold wN
          by_cases d1 : 2 ^ (k - 1) < m % 2 ^ k
          · rw [if_pos ((lN_lt63 (by omega) (by omega)).mpr (by omega))]; simp [d1]
          · rw [if_neg (fun g => d1 (by have := (lN_lt63 (by omega) (by omega)).mp g; omega))]
            by_cases d2 : m % 2 ^ k = 2 ^ (k - 1)
            · rw [if_pos (by rw [d2, ← hd])]
              by_cases d3 : (m / 2 ^ k) % 2 = 1
              · rw [if_neg (fun g => ((odd_e (by omega) (by omega)).mp g) d3)]; simp [d2, d3]
              · rw [if_pos ((odd_e (by omega) (by omega)).mpr d3)]; simp [d2, d3]
            · rw [if_neg (fun g => d2 (by have := (lN_inj (by omega) (by omega)).mp g; omega))]; simp [d1, d2]
        rw [hg]
        by_cases ck : kd = 5
        · rw [if_pos ck, if_pos ck]
          rw [if_pos ck] at hw
          cases h9 : wN k m
          · simp
          · rw [h9, if_pos rfl] at hw
            rw [if_pos rfl, if_neg (by decide), if_pos rfl, hs _ hw]
        · rw [if_neg ck, if_neg ck]
          rw [if_neg ck] at hw
          cases h9 : wA i kd b
          · simp
          · rw [h9, if_pos rfl] at hw
            rw [if_pos rfl, if_neg (by decide), if_pos rfl, hs _ hw]
  · rw [if_neg (fun g => c1 ((nI_slt (by omega) (by omega) (by omega)).mp g)), if_neg c1]
end PX
