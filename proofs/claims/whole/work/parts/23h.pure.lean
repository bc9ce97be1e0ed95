section PN
theorem bit_e {m k : Nat} (hm : m < 2 ^ 64) (hk : k < 64) : ((shU (lN m) (nI k)) &&& (1:Int64)) = (1:Int64) ↔ (m / 2 ^ k) % 2 = 1 := by
  rw [shU_lN hm hk, show (1:Int64) = lN (2 ^ 1 - 1) from rfl]
  have hq : m / 2 ^ k < 2 ^ 64 := Nat.lt_of_le_of_lt (Nat.div_le_self _ _) hm
  rw [lN_and hq (by decide), Nat.and_two_pow_sub_one_eq_mod, lN_inj (by omega) (by decide)]
theorem bO_e {m b : Nat} (hb : 1 ≤ b) (h1 : 2 ^ (b - 1) ≤ m) (h2 : m < 2 ^ b) : ∀ K, b ≤ K → K ≤ 64 → bO (lN m) K = nI b
  | 0, hK, _ => by omega
  | K + 1, hK, hK2 => by
    have hm : m < 2 ^ 64 := Nat.lt_of_lt_of_le h2 (Nat.pow_le_pow_right (by decide) (by omega))
    rw [bO]
    by_cases c : b = K + 1
    · have e : m / 2 ^ K = 1 := by
        have h3 : 2 ^ K ≤ m := by rw [c] at h1; exact h1
        have h4 : m < 2 ^ K * 2 := by rw [c, Nat.pow_succ] at h2; exact h2
        rw [Nat.div_eq_iff (Nat.two_pow_pos _)]
        omega
      rw [if_pos ((bit_e hm (by omega)).mpr (by rw [e])), c]
      exact nI_1 K
    · have e : m / 2 ^ K = 0 := Nat.div_eq_of_lt (Nat.lt_of_lt_of_le h2 (Nat.pow_le_pow_right (by decide) (by omega)))
      rw [if_neg (fun g => by have := (bit_e hm (by omega)).mp g; rw [e] at this; omega)]
      exact bO_e hb h1 h2 K (by omega) (by omega)
theorem bits_e {m b : Nat} (hb : 1 ≤ b) (hb2 : b ≤ 64) (h1 : 2 ^ (b - 1) ≤ m) (h2 : m < 2 ^ b) : fX4_bitsOf (lN m) = nI b := bO_e hb h1 h2 64 hb2 (Nat.le_refl _)
theorem wN_mul {m c d : Nat} (hd : 1 ≤ d) : wN (c + d) (m * 2 ^ c) = wN d m := by
  unfold wN
  have e1 : m * 2 ^ c / 2 ^ (c + d) = m / 2 ^ d := by rw [Nat.pow_add, Nat.mul_comm m, Nat.mul_div_mul_left _ _ (Nat.two_pow_pos c)]
  have e2 : m * 2 ^ c % 2 ^ (c + d) = 2 ^ c * (m % 2 ^ d) := by rw [Nat.pow_add, Nat.mul_comm m, Nat.mul_mod_mul_left]
  have e3 : 2 ^ (c + d - 1) = 2 ^ c * 2 ^ (d - 1) := by rw [← Nat.pow_add, show c + (d - 1) = c + d - 1 by omega]
  have hp : 0 < 2 ^ c := Nat.two_pow_pos c
  rw [e1, e2, e3]
  have g1 : decide (2 ^ c * 2 ^ (d - 1) < 2 ^ c * (m % 2 ^ d)) = decide (2 ^ (d - 1) < m % 2 ^ d) := decide_eq_decide.mpr (Nat.mul_lt_mul_left hp)
  have g2 : decide (2 ^ c * (m % 2 ^ d) = 2 ^ c * 2 ^ (d - 1)) = decide (m % 2 ^ d = 2 ^ (d - 1)) := decide_eq_decide.mpr (Nat.mul_right_inj (Nat.ne_of_gt hp))
  rw [g1, g2]
theorem rN_hi {m c d : Nat} (hd : 1 ≤ d) : rN (m * 2 ^ c) (c + d) = rN m d := by
  unfold rN
  rw [wN_mul hd, Nat.pow_add, Nat.mul_comm m, Nat.mul_div_mul_left _ _ (Nat.two_pow_pos c)]
theorem rN_lo {m c d : Nat} (hd : 1 ≤ d) (h : d ≤ c) : rN (m * 2 ^ c) d = m * 2 ^ (c - d) := by
  have e : m * 2 ^ c = 2 ^ d * (m * 2 ^ (c - d)) := by
    rw [Nat.mul_left_comm, ← Nat.pow_add, show d + (c - d) = c by omega]
  unfold rN wN
  rw [e, Nat.mul_div_cancel_left _ (Nat.two_pow_pos d), Nat.mul_mod_right]
  have hp : 0 < 2 ^ (d - 1) := Nat.two_pow_pos _
  rw [if_neg]
  · rfl
  · simp; omega
theorem rN_z {m d : Nat} (hd : 1 ≤ d) (h : m < 2 ^ (d - 1)) : rN m d = 0 := by
  have hp : 2 ^ (d - 1) ≤ 2 ^ d := Nat.pow_le_pow_right (by decide) (by omega)
  have hm : m < 2 ^ d := by omega
  unfold rN wN
  rw [Nat.div_eq_of_lt hm, Nat.mod_eq_of_lt hm, if_neg]
  simp; omega
def lW (j : Nat) : Int := 1 - fB j - fF j
theorem near_fin {j n M : Nat} {neg : Bool} (hj : j = 2 ∨ j = 3) (hn : n ≤ 2 ^ (fF j + 1)) (hM : M ≤ 2045) (hl : 0 < M → 2 ^ fF j ≤ n) : fX4_near_171 (nI j) (if neg then fX4_signBit (nI j) else 0) (iZ (lW j)) (iZ (lW j + M)) (lN n) = sg j neg (min (n + M * 2 ^ fF j) (bI j)) := by
  obtain ⟨f1, f2, f3⟩ := fF_e hj
  have f4 := fF_n hj
  have hp : 2 ^ (fF j + 1) = 2 ^ fF j * 2 := Nat.pow_succ ..
  have hp2 : 2 ^ fF j ≤ 2 ^ 52 := Nat.pow_le_pow_right (by decide) (by omega)
  have hp0 : 0 < 2 ^ fF j := Nat.two_pow_pos _
  have hb : bI j = (2 * fB j + 1) * 2 ^ fF j := by rcases hj with rfl | rfl <;> decide
  have hbl := bI_lt (i := j)
  have g1 : shL (1:Int64) (fX4_fractionBits (nI j) + (1:Int32)) = lN (2 ^ (fF j + 1)) := by
    rw [f2, nI_1, show (1:Int64) = lN 1 from rfl, shL_lN (by omega), Nat.one_mul]
  have g2 : fX4_fractionBits (nI j) + (1:Int32) - (1:Int32) = nI (fF j) := by rw [f2, nI_1, nI_pred]
  have g3 : (if nI j = (2:Int32) then (104:Int32) else (971:Int32)) = iZ (lW j + (2 * fB j - 1 : Int)) := by rcases hj with rfl | rfl <;> decide
  have g4 : shL (1:Int64) (nI (fF j)) = lN (2 ^ fF j) := by show shL (lN 1) _ = _; rw [shL_lN (by omega), Nat.one_mul]
  have g5 : shR (lN n) (1:Int32) = lN (n / 2) := by
    rw [show (1:Int32) = nI 1 from rfl, shR_lN (by omega) (by decide), Nat.pow_one]
  have fin : ∀ n' M' : Nat, n' < 2 ^ (fF j + 1) → M' ≤ 2046 → (0 < M' → 2 ^ fF j ≤ n') → fX4_near_205 (nI j) (if neg then fX4_signBit (nI j) else 0) (iZ (lW j)) (iZ (lW j + M')) (lN n') (iZ (lW j + (2 * fB j - 1 : Int))) = sg j neg (min (n' + M' * 2 ^ fF j) (bI j)) := by
    intro n' M' h1 h2 h3
    have hlw : -2000 ≤ lW j ∧ lW j ≤ 0 := by unfold lW; omega
    unfold fX4_near_205
    rw [g2, g4]
    have q1 : iZ (lW j + (2 * fB j - 1 : Int)) < iZ (lW j + M') ↔ 2 * fB j ≤ M' := by
      rw [iZ_lt (by omega) (by omega) (by omega) (by omega)]; omega
    by_cases c1 : 2 * fB j ≤ M'
    · rw [if_pos (q1.mpr c1), end_lN hj, sg_asS hj hbl]
      congr 1
      have h4 := h3 (by omega)
      have h5 : 2 * fB j * 2 ^ fF j ≤ M' * 2 ^ fF j := Nat.mul_le_mul_right _ c1
      rw [Nat.min_eq_right]
      rw [hb, Nat.add_mul]; omega
    · rw [if_neg (fun g => c1 (q1.mp g))]
      have h5 : M' * 2 ^ fF j ≤ (2 * fB j - 1) * 2 ^ fF j := Nat.mul_le_mul_right _ (by omega)
      have h6 : n' + M' * 2 ^ fF j < bI j := by
        have e9 : (2 * fB j + 1) * 2 ^ fF j = (2 * fB j - 1) * 2 ^ fF j + 2 ^ fF j * 2 := by
          rw [show 2 * fB j + 1 = (2 * fB j - 1) + 2 by omega, Nat.add_mul]; omega
        rw [hb, e9]; omega
      rw [Nat.min_eq_left (by omega)]
      by_cases c2 : n' < 2 ^ fF j
      · have hz : M' = 0 := by
          rcases Nat.eq_zero_or_pos M' with h | h
          · exact h
          · have := h3 h; omega
        subst hz
        rw [if_pos ((lN_lt63 (by omega) (by omega)).mpr c2), sg_asS hj (by omega), Nat.zero_mul, Nat.add_zero]
      · rw [if_neg (fun g => c2 ((lN_lt63 (by omega) (by omega)).mp g))]
        have e1 : iZ (lW j + M') - iZ (lW j) + (1:Int32) = nI (M' + 1) := by
          rw [iZ_sub, show (1:Int32) = iZ 1 from rfl, iZ_add, iZ_n]; congr 1; omega
        have h7 : (M' + 1) * 2 ^ fF j + (n' - 2 ^ fF j) = n' + M' * 2 ^ fF j := by rw [Nat.add_mul]; omega
        have h8 : (M' + 1) * 2 ^ fF j < 2 ^ 63 := by
          have := bB_le (i := j); omega
        rw [e1, nI_l (by omega), shL_lN (by omega), lN_sub (by omega), Int64.or_assoc, Int64.or_comm (lN ((M' + 1) * 2 ^ fF j)), lN_or (by omega) (by omega), Nat.mul_comm (M' + 1), or_add (by omega), Nat.mul_comm (2 ^ fF j), Nat.add_comm, h7, sg_asS hj (by omega)]
  unfold fX4_near_171 fX4_near_190
  rw [g1, g3, g5]
  by_cases c : n = 2 ^ (fF j + 1)
  · have c' : lN n = lN (2 ^ (fF j + 1)) := by rw [c]
    rw [if_pos c', if_pos c', show iZ (lW j + M) + (1:Int32) = iZ (lW j + ((M + 1 : Nat) : Int)) by rw [show (1:Int32) = iZ 1 from rfl, iZ_add]; congr 1; omega, fin _ _ (by omega) (by omega) (fun _ => by omega)]
    congr 2
    rw [Nat.add_mul]; omega
  · have c' : ¬ lN n = lN (2 ^ (fF j + 1)) := fun g => c ((lN_inj (by omega) (by omega)).mp g)
    rw [if_neg c', if_neg c', fin _ _ (by omega) (by omega) hl]
set_option maxHeartbeats 1000000 in
theorem q_near {j m b : Nat} {sc fld : Int} {neg : Bool} (hj : j = 2 ∨ j = 3) (hb : 1 ≤ b) (hb2 : b ≤ 64) (h1 : 2 ^ (b - 1) ≤ m) (h2 : m < 2 ^ b) (hf : fld = sc + b - 1 + fB j) (hlo : -3000 ≤ fld) (hhi : fld ≤ 2046) (h64 : b ≤ 63 ∨ 1 ≤ fld) : fX4_near (nI j) (if neg then 1 else 0) (lN m) (iZ sc) = sg j neg (rS j (m * 2 ^ (64 - b)) fld) := by
  obtain ⟨f1, f2, f3⟩ := fF_e hj
  have f4 := fF_n hj
  have hm0 : 0 < m := Nat.lt_of_lt_of_le (Nat.two_pow_pos _) h1
  have hm64 : m < 2 ^ 64 := Nat.lt_of_lt_of_le h2 (Nat.pow_le_pow_right (by decide) hb2)
  have ht : m * 2 ^ (64 - b) < 2 ^ 64 := by
    have : 2 ^ b * 2 ^ (64 - b) = 2 ^ 64 := by rw [← Nat.pow_add, show b + (64 - b) = 64 by omega]
    rw [← this]
    exact Nat.mul_lt_mul_of_pos_right h2 (Nat.two_pow_pos _)
  have ht2 : 2 ^ 63 ≤ m * 2 ^ (64 - b) := by
    have : 2 ^ (b - 1) * 2 ^ (64 - b) = 2 ^ 63 := by rw [← Nat.pow_add, show b - 1 + (64 - b) = 63 by omega]
    rw [← this]
    exact Nat.mul_le_mul_right _ h1
  have e1 : (if (if neg then (1:Int32) else 0) = 0 then (0:Int64) else fX4_signBit (nI j)) = (if neg then fX4_signBit (nI j) else 0) := by cases neg <;> simp
  have e2 : (if nI j = (2:Int32) then (-149:Int32) else (-1074:Int32)) = iZ (lW j) := by rcases hj with rfl | rfl <;> decide
  have hlw : -2000 ≤ lW j ∧ lW j ≤ 0 := by unfold lW; omega
  have eq0 : (iZ sc + fX4_bitsOf (lN m)) - (fX4_fractionBits (nI j) + (1:Int32)) = iZ (sc + b - (fF j + 1)) := by
    rw [bits_e hb hb2 h1 h2, f2, nI_1, iZ_n, iZ_n, iZ_add, iZ_sub]; congr 1
  have eq : (if iZ (sc + b - (fF j + 1)) < iZ (lW j) then iZ (lW j) else iZ (sc + b - (fF j + 1))) = iZ (lW j + (rM fld : Nat)) := by
    have q1 := iZ_lt (a := sc + b - (fF j + 1)) (b := lW j) (by omega) (by omega) (by omega) (by omega)
    by_cases c : sc + b - (fF j + 1) < lW j
    · rw [if_pos (q1.mpr c)]; congr 1; unfold rM; unfold lW at c ⊢; omega
    · rw [if_neg (fun g => c (q1.mp g))]; congr 1; unfold rM; unfold lW at c ⊢; omega
  have hM : rM fld ≤ 2045 := by unfold rM; omega
  unfold fX4_near fX4_near_12 fX4_near_49
  rw [e1, e2, if_neg (fun g => by have := (lN_z hm64).mp g; omega), eq0, eq]
  unfold fX4_near_74
  have hd1 : 63 - fF j ≤ rD j fld := by unfold rD; omega
  have hrn := rN_le (F := fF j) ht (by omega) hd1
  have hl : 0 < rM fld → 2 ^ fF j ≤ rN (m * 2 ^ (64 - b)) (rD j fld) := by
    intro h9
    have : rD j fld = 63 - fF j := by unfold rD; unfold rM at h9; omega
    rw [this]
    unfold rN
    have : 2 ^ fF j ≤ m * 2 ^ (64 - b) / 2 ^ (63 - fF j) := by
      rw [Nat.le_div_iff_mul_le (Nat.two_pow_pos _), ← Nat.pow_add, show fF j + (63 - fF j) = 63 by omega]
      exact ht2
    omega
  have key : ∀ n, n = rN (m * 2 ^ (64 - b)) (rD j fld) → fX4_near_171 (nI j) (if neg then fX4_signBit (nI j) else 0) (iZ (lW j)) (iZ (lW j + (rM fld : Nat))) (lN n) = sg j neg (rS j (m * 2 ^ (64 - b)) fld) := by
    intro n hn
    subst hn
    rw [near_fin hj hrn hM hl]
    congr 1
    unfold rS
    by_cases c : 64 < rD j fld
    · rw [if_pos c]
      have hz : rM fld = 0 := by unfold rD at c; unfold rM; omega
      have hr : rN (m * 2 ^ (64 - b)) (rD j fld) = 0 := by
        apply rN_z (by omega)
        exact Nat.lt_of_lt_of_le ht (Nat.pow_le_pow_right (by decide) (by omega))
      rw [hz, hr]; simp
    · rw [if_neg c]
  by_cases cD : sc < lW j + (rM fld : Nat)
  · obtain ⟨d, hd, hdd⟩ : ∃ d : Nat, lW j + (rM fld : Nat) - sc = (d : Int) ∧ rD j fld = (64 - b) + d := by
      refine ⟨(lW j + (rM fld : Nat) - sc).toNat, by omega, ?_⟩
      unfold lW rM rD at *
      omega
    have hd0 : 1 ≤ d := by omega
    have hd2 : d ≤ 4000 := by unfold rD at hdd; omega
    rw [if_pos ((iZ_lt (by omega) (by omega) (by omega) (by omega)).mpr cD), iZ_sub, hd, show iZ (d : Int) = nI d from (iZ_n d).symm]
    have hrn' : rN (m * 2 ^ (64 - b)) (rD j fld) = rN m d := by rw [hdd, rN_hi hd0]
    by_cases c63 : 63 < d
    · rw [if_pos (show (63:Int32) < nI d from nI_lt (a := 63) c63 (by omega))]
      have : (0:Int64) = lN 0 := rfl
      rw [this]
      refine key 0 ?_
      rw [hrn', rN_z hd0]
      rcases h64 with h | h
      · exact Nat.lt_of_lt_of_le h2 (Nat.pow_le_pow_right (by decide) (by omega))
      · exfalso
        unfold rD at hdd
        omega
    · rw [if_neg (show ¬ (63:Int32) < nI d from nI_nlt (a := 63) (by omega) (by decide))]
      have p1 : 2 ^ d ≤ 2 ^ 63 := Nat.pow_le_pow_right (by decide) (by omega)
      have p0 : 0 < 2 ^ d := Nat.two_pow_pos d
      have pr : m % 2 ^ d < 2 ^ d := Nat.mod_lt _ p0
      have ph : 2 ^ (d - 1) < 2 ^ d := Nat.pow_lt_pow_right (by decide) (by omega)
      have u1 : shL (1:Int64) (nI d) = lN (2 ^ d) := by show shL (lN 1) _ = _; rw [shL_lN (by omega), Nat.one_mul]
      have u2 : shL (1:Int64) (nI d - (1:Int32)) = lN (2 ^ (d - 1)) := by
        rw [show nI d - (1:Int32) = nI (d - 1) by obtain ⟨d', rfl⟩ : ∃ d', d = d' + 1 := ⟨d - 1, by omega⟩; exact nI_pred d']
        show shL (lN 1) _ = _; rw [shL_lN (by omega), Nat.one_mul]
      have u3 : lN m &&& (lN (2 ^ d) - (1:Int64)) = lN (m % 2 ^ d) := by
        rw [show lN (2 ^ d) - 1 = lN (2 ^ d - 1) from lN_sub (b := 1) p0, lN_and hm64 (by omega), Nat.and_two_pow_sub_one_eq_mod]
      have hq : m / 2 ^ d < 2 ^ 64 := Nat.lt_of_le_of_lt (Nat.div_le_self _ _) hm64
      have u4 : (lN (m / 2 ^ d) &&& (1:Int64)) = (1:Int64) ↔ (m / 2 ^ d) % 2 = 1 := by
        rw [show (1:Int64) = lN (2 ^ 1 - 1) from rfl, lN_and hq (by decide), Nat.and_two_pow_sub_one_eq_mod, lN_inj (by omega) (by decide)]
      rw [u1, u2, u3, shU_lN hm64 (by omega), lN_1]
      have hn : (if lN (2 ^ (d - 1)) < lN (m % 2 ^ d) then lN (m / 2 ^ d + 1) else if lN (m % 2 ^ d) = lN (2 ^ (d - 1)) then (if (lN (m / 2 ^ d) &&& (1:Int64)) = (1:Int64) then lN (m / 2 ^ d + 1) else lN (m / 2 ^ d)) else lN (m / 2 ^ d)) = lN (rN m d) := by
        unfold rN wN
        by_cases d1 : 2 ^ (d - 1) < m % 2 ^ d
        · rw [if_pos ((lN_lt63 (by omega) (by omega)).mpr d1)]; simp [d1]
        · rw [if_neg (fun g => d1 ((lN_lt63 (by omega) (by omega)).mp g))]
          by_cases d2 : m % 2 ^ d = 2 ^ (d - 1)
          · rw [if_pos (by rw [d2])]
            by_cases d3 : (m / 2 ^ d) % 2 = 1
            · rw [if_pos (u4.mpr d3)]; simp [d2, d3]
            · rw [if_neg (fun g => d3 (u4.mp g))]; simp [d2, d3]
          · rw [if_neg (fun g => d2 ((lN_inj (by omega) (by omega)).mp g))]; simp [d1, d2]
      rw [hn]
      exact key _ hrn'.symm
  · obtain ⟨d, hd, hdd⟩ : ∃ d : Nat, sc - (lW j + (rM fld : Nat)) = (d : Int) ∧ rD j fld + d = (64 - b) := by
      refine ⟨(sc - (lW j + (rM fld : Nat))).toNat, by omega, ?_⟩
      unfold lW rM rD at *
      omega
    rw [if_neg (fun g => cD ((iZ_lt (by omega) (by omega) (by omega) (by omega)).mp g)), iZ_sub, hd, show iZ (d : Int) = nI d from (iZ_n d).symm, shL_lN (by omega)]
    refine key _ ?_
    rw [rN_lo (by omega) (by omega), show 64 - b - rD j fld = d by omega]
end PN
