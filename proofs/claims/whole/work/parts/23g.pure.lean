section PR
def iZ (z : Int) : Int32 := Int32.ofInt z
theorem iZ_n (n : Nat) : nI n = iZ (n : Int) := (Int32.ofInt_eq_ofNat (n := n)).symm
theorem iZ_add (a b : Int) : iZ a + iZ b = iZ (a + b) := (Int32.ofInt_add a b).symm
theorem iZ_sub (a b : Int) : iZ a - iZ b = iZ (a - b) := (Int32.ofInt_sub a b).symm
theorem iZ_t {a : Int} (h1 : -2 ^ 31 ≤ a) (h2 : a < 2 ^ 31) : (iZ a).toInt = a := Int32.toInt_ofInt_of_le h1 h2
theorem iZ_lt {a b : Int} (h1 : -2 ^ 31 ≤ a) (h2 : a < 2 ^ 31) (h3 : -2 ^ 31 ≤ b) (h4 : b < 2 ^ 31) : iZ a < iZ b ↔ a < b := by
  rw [Int32.lt_iff_toInt_lt, iZ_t h1 h2, iZ_t h3 h4]
theorem iZ_eq {a b : Int} (h1 : -2 ^ 31 ≤ a) (h2 : a < 2 ^ 31) (h3 : -2 ^ 31 ≤ b) (h4 : b < 2 ^ 31) : iZ a = iZ b ↔ a = b := by
  rw [← Int32.toInt_inj, iZ_t h1 h2, iZ_t h3 h4]
theorem lpR_e : ∀ (c n t : Nat) (e : Int), c ≤ n → 2 ^ 63 ≤ t * 2 ^ c → t * 2 ^ c < 2 ^ 64 → lpR n (lN t) (iZ e) = (lN (t * 2 ^ c), iZ (e - c))
  | 0, n, t, e, _, h1, h2 => by
    have h3 : ¬ (0:Int64) < lN t := by
      have h9 : lN t < 0 := (lN_neg (by omega)).mpr (by omega)
      intro g
      rw [Int64.lt_iff_toInt_lt] at g h9
      omega
    rw [lpR_end2 h3]
    simp
  | c + 1, 0, t, e, hc, _, _ => by omega
  | c + 1, n + 1, t, e, hc, h1, h2 => by
    have hp : t * 2 ^ (c + 1) = (t * 2) * 2 ^ c := by rw [Nat.pow_succ]; rw [Nat.mul_assoc, Nat.mul_comm 2]
    have hc1 : 1 ≤ 2 ^ c := Nat.two_pow_pos c
    have ht : t * 2 < 2 ^ 64 := by
      rw [hp] at h2
      exact Nat.lt_of_le_of_lt (Nat.le_mul_of_pos_right _ hc1) h2
    have ht0 : 0 < t := by
      rcases Nat.eq_zero_or_pos t with h | h
      · subst h; simp at h1
      · exact h
    have h3 : (0:Int64) < lN t := by
      show lN 0 < lN t
      exact (lN_lt63 (by decide) (by omega)).mpr ht0
    rw [lpR, if_pos h3]
    have e1 : shL (lN t) (1:Int32) = lN (t * 2) := by rw [show (1:Int32) = nI 1 from rfl, shL_lN (by decide), Nat.pow_one]
    have e2 : iZ e + (-1:Int32) = iZ (e + -1) := by rw [show (-1:Int32) = iZ (-1) by decide +kernel, iZ_add]
    rw [e1, e2, lpR_e c n (t * 2) (e + -1) (by omega) (by rw [← hp]; exact h1) (by rw [← hp]; exact h2), ← hp]
    congr 2
    omega
def rD (j : Nat) (fld : Int) : Nat := 63 - fF j + (1 - fld).toNat
def rM (fld : Int) : Nat := (fld - 1).toNat
def rN (top dr : Nat) : Nat := top / 2 ^ dr + (if wN dr top = true then 1 else 0)
def rS (j top : Nat) (fld : Int) : Nat := if 64 < rD j fld then 0 else min (rN top (rD j fld) + rM fld * 2 ^ fF j) (bI j)
theorem rN_le {top dr F : Nat} (ht : top < 2 ^ 64) (hF : F ≤ 52) (hd : 63 - F ≤ dr) : rN top dr ≤ 2 ^ (F + 1) := by
  have h1 : top / 2 ^ dr < 2 ^ (F + 1) := by
    rw [Nat.div_lt_iff_lt_mul (Nat.two_pow_pos _), ← Nat.pow_add]
    exact Nat.lt_of_lt_of_le ht (Nat.pow_le_pow_right (by decide) (by omega))
  unfold rN
  split <;> omega
theorem rest_half {top dr : Nat} (hd : 1 ≤ dr) (hd2 : dr ≤ 64) : shL (lN top) (nI (64 - dr)) = lN (top % 2 ^ dr * 2 ^ (64 - dr)) ∧ top % 2 ^ dr * 2 ^ (64 - dr) < 2 ^ 64 ∧ 2 ^ (dr - 1) * 2 ^ (64 - dr) = 2 ^ 63 := by
  have hp : 2 ^ dr * 2 ^ (64 - dr) = 2 ^ 64 := by rw [← Nat.pow_add, show dr + (64 - dr) = 64 by omega]
  refine ⟨?_, ?_, ?_⟩
  · rw [shL_lN (by omega), ← lN_mod]
    congr 1
    conv => lhs; rw [← Nat.div_add_mod top (2 ^ dr)]
    rw [Nat.add_mul, Nat.mul_right_comm, hp, Nat.mul_add_mod]
    apply Nat.mod_eq_of_lt
    rw [← hp]
    exact Nat.mul_lt_mul_of_pos_right (Nat.mod_lt _ (Nat.two_pow_pos _)) (Nat.two_pow_pos _)
  · rw [← hp]
    exact Nat.mul_lt_mul_of_pos_right (Nat.mod_lt _ (Nat.two_pow_pos _)) (Nat.two_pow_pos _)
  · rw [← Nat.pow_add, show dr - 1 + (64 - dr) = 63 by omega]
theorem lt_mul_r {a b c : Nat} (hc : 0 < c) : a * c < b * c ↔ a < b := Nat.mul_lt_mul_right hc
theorem one_e {n : Nat} (h : n < 2 ^ 64) : (lN n &&& (1:Int64)) = 0 ↔ ¬ n % 2 = 1 := by
  rw [show (1:Int64) = lN (2 ^ 1 - 1) from rfl, lN_and h (by decide), Nat.and_two_pow_sub_one_eq_mod, lN_z (by omega)]
  omega
theorem ovh {n : Nat} (h : n < 2 ^ 64) : fX1_isOverHalf (lN n) = (if 2 ^ 63 < n then 1 else 0) ∧ (lN n = (-9223372036854775808:Int64) ↔ n = 2 ^ 63) := by
  have e : (-9223372036854775808:Int64) = lN (2 ^ 63) := by decide +kernel
  have h2 : lN n = (-9223372036854775808:Int64) ↔ n = 2 ^ 63 := by rw [e, lN_inj h (by decide)]
  refine ⟨?_, h2⟩
  unfold fX1_isOverHalf
  by_cases c : 2 ^ 63 ≤ n
  · rw [if_pos ((lN_neg h).mpr c)]
    by_cases c2 : n = 2 ^ 63
    · rw [if_pos (h2.mpr c2), if_neg (by omega)]
    · rw [if_neg (fun g => c2 (h2.mp g)), if_pos (by omega)]
  · rw [if_neg (fun g => c ((lN_neg h).mp g)), if_neg (by omega)]
set_option maxHeartbeats 1000000 in
theorem q_round {j m c : Nat} {sc fld : Int} (hj : j = 2 ∨ j = 3) (hc : c ≤ 63) (h1 : 2 ^ 63 ≤ m * 2 ^ c) (h2 : m * 2 ^ c < 2 ^ 64) (hf : fld = sc + 63 - c + fB j) (hlo : -3000 ≤ fld) (hhi : fld ≤ 2046) : fX1_rounded j (lN m) (iZ sc) = lN (rS j (m * 2 ^ c) fld) := by
  obtain ⟨f1, f2, f3⟩ := fF_e hj
  have f4 := fF_n hj
  have e1 : iZ sc + (63:Int32) = iZ (sc + 63) := iZ_add sc 63
  unfold fX1_rounded
  rw [e1, lpR_e c 63 m (sc + 63) hc h1 h2]
  generalize m * 2 ^ c = top at *
  show fX1_rounded_41 j (lN top) (iZ (sc + 63 - c)) = _
  have ef : iZ (sc + 63 - c) + so_bias j = iZ fld := by rw [f3, iZ_n, iZ_add, hf]
  have ed : ((63:Int32) - so_frac j) + (if (0:Int32) < ((1:Int32) - iZ fld) then ((1:Int32) - iZ fld) else (0:Int32)) = nI (rD j fld) := by
    have g1 : (1:Int32) - iZ fld = iZ (1 - fld) := iZ_sub 1 fld
    have g2 : ((63:Int32) - so_frac j) = iZ (63 - fF j) := by rw [f1, iZ_n]; exact iZ_sub 63 _
    have g3 : (0:Int32) < iZ (1 - fld) ↔ 0 < 1 - fld := iZ_lt (a := 0) (by omega) (by omega) (by omega) (by omega)
    rw [g1, g2, iZ_n]
    unfold rD
    by_cases c9 : 0 < 1 - fld
    · rw [if_pos (g3.mpr c9), iZ_add]; congr 1; omega
    · rw [if_neg (fun g => c9 (g3.mp g)), show (0:Int32) = iZ 0 from rfl, iZ_add]; congr 1; omega
  have hdlo : 63 - fF j ≤ rD j fld := by unfold rD; omega
  have hdhi : rD j fld ≤ 4000 := by unfold rD; omega
  unfold fX1_rounded_41 fX1_rounded_93 fX1_rounded_137
  rw [ef, ed]
  unfold rS
  generalize rD j fld = dr at *
  by_cases c0 : 64 < dr
  · rw [if_pos (show (64:Int32) < nI dr from nI_lt (a := 64) c0 (by omega)), if_pos c0]; rfl
  · rw [if_neg (show ¬ (64:Int32) < nI dr from nI_nlt (a := 64) (by omega) (by decide)), if_neg c0]
    have hk : (if nI dr = (64:Int32) then (0:Int64) else shU (lN top) (nI dr)) = lN (top / 2 ^ dr) := by
      by_cases c1 : dr = 64
      · subst c1; rw [if_pos (show nI 64 = (64:Int32) from rfl), Nat.div_eq_of_lt h2]; rfl
      · have : ¬ nI dr = (64:Int32) := by
          intro g
          have g2 := congrArg Int32.toInt g
          rw [nI_tI (by omega), show (64:Int32).toInt = 64 from rfl] at g2
          omega
        rw [if_neg this, shU_lN h2 (by omega)]
    have hsub : (64:Int32) - nI dr = nI (64 - dr) := by
      rw [iZ_n, iZ_n, show (64:Int32) = iZ 64 from rfl, iZ_sub]; congr 1; omega
    obtain ⟨r1, r2, r3⟩ := rest_half (top := top) (dr := dr) (by omega) (by omega)
    have hpp : 0 < 2 ^ (64 - dr) := Nat.two_pow_pos _
    obtain ⟨o1, o2⟩ := ovh r2
    have hq : top / 2 ^ dr < 2 ^ 63 := by
      have : top / 2 ^ dr ≤ top / 2 ^ 1 := Nat.div_le_div_left (Nat.pow_le_pow_right (by decide) (by omega)) (by decide)
      omega
    have hy : (if fX1_isOverHalf (lN (top % 2 ^ dr * 2 ^ (64 - dr))) = 0 then (if lN (top % 2 ^ dr * 2 ^ (64 - dr)) = (-9223372036854775808:Int64) then (if (lN (top / 2 ^ dr) &&& (1:Int64)) = (0:Int64) then lN (top / 2 ^ dr) else lN (top / 2 ^ dr) + (1:Int64)) else lN (top / 2 ^ dr)) else lN (top / 2 ^ dr) + (1:Int64)) = lN (rN top dr) := by
      rw [lN_1, o1]
      unfold rN wN
      rw [← r3]
      by_cases d1 : 2 ^ (dr - 1) < top % 2 ^ dr
      · rw [if_pos ((lt_mul_r hpp).mpr d1), if_neg (by decide)]; simp [d1]
      · rw [if_neg (fun g => d1 ((lt_mul_r hpp).mp g)), if_pos rfl]
        have o3 : lN (top % 2 ^ dr * 2 ^ (64 - dr)) = (-9223372036854775808:Int64) ↔ top % 2 ^ dr = 2 ^ (dr - 1) := by
          rw [o2, ← r3]
          exact ⟨fun g => Nat.eq_of_mul_eq_mul_right hpp g, fun g => by rw [g]⟩
        by_cases d2 : top % 2 ^ dr = 2 ^ (dr - 1)
        · rw [if_pos (o3.mpr d2)]
          by_cases d3 : top / 2 ^ dr % 2 = 1
          · rw [if_neg (fun g => (one_e (by omega)).mp g d3)]; simp [d2, d3]
          · rw [if_pos ((one_e (by omega)).mpr d3)]; simp [d2, d3]
        · rw [if_neg (fun g => d2 (o3.mp g))]; simp [d1, d2]
    rw [hk, hsub, r1, hy]
    have hfl : (if iZ fld < (1:Int32) then (1:Int32) else iZ fld).toInt64 - (1:Int64) = lN (rM fld) := by
      have g3 : iZ fld < (1:Int32) ↔ fld < 1 := iZ_lt (b := 1) (by omega) (by omega) (by omega) (by omega)
      unfold rM
      by_cases c9 : fld < 1
      · rw [if_pos (g3.mpr c9), show (fld - 1).toNat = 0 by omega]; rfl
      · rw [if_neg (fun g => c9 (g3.mp g))]
        obtain ⟨k, hk⟩ : ∃ k : Nat, fld = (k : Int) + 1 := ⟨(fld - 1).toNat, by omega⟩
        subst hk
        rw [show iZ ((k : Int) + 1) = nI (k + 1) by rw [iZ_n]; rfl, nI_l (by omega), show (1:Int64) = lN 1 from rfl, lN_sub (by omega)]
        congr 1
        omega
    rw [hfl, f1, shL_lN (by omega), lN_add, inf_lN hj]
    have hrn := rN_le (F := fF j) h2 (by omega) hdlo
    have hM : rN top dr + rM fld * 2 ^ fF j < 2 ^ 63 := by
      have hr : rM fld ≤ 2045 := by unfold rM; omega
      have : rM fld * 2 ^ fF j ≤ 2045 * 2 ^ fF j := Nat.mul_le_mul_right _ hr
      have h9 : 2045 * 2 ^ fF j + 2 ^ (fF j + 1) < 2 ^ 63 := by rcases hj with rfl | rfl <;> decide
      omega
    have hbI : bI j < 2 ^ 63 := Nat.lt_of_lt_of_le bI_lt bB_le
    by_cases c5 : bI j < rN top dr + rM fld * 2 ^ fF j
    · rw [if_pos ((lN_lt63 hbI hM).mpr c5), Nat.min_eq_right (by omega)]
    · rw [if_neg (fun g => c5 ((lN_lt63 hbI hM).mp g)), Nat.min_eq_left (by omega)]
end PR
