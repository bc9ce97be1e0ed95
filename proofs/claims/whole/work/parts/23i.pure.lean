section PC
theorem blen {m : Nat} (h : 0 < m) : 1 ≤ Nat.log2 m + 1 ∧ 2 ^ (Nat.log2 m + 1 - 1) ≤ m ∧ m < 2 ^ (Nat.log2 m + 1) := by
  refine ⟨by omega, ?_, Nat.lt_log2_self⟩
  exact Nat.log2_self_le (by omega)
theorem blen_le {m k : Nat} (h : 0 < m) (hk : m < 2 ^ k) : Nat.log2 m + 1 ≤ k := by
  have := (Nat.log2_lt (by omega)).mpr hk
  omega
theorem rS_le {j top : Nat} {fld : Int} : rS j top fld ≤ bI j := by
  unfold rS
  split
  · omega
  · exact Nat.min_le_right _ _
theorem top_b {m b : Nat} (hb : 1 ≤ b) (hb2 : b ≤ 64) (h1 : 2 ^ (b - 1) ≤ m) (h2 : m < 2 ^ b) : 2 ^ 63 ≤ m * 2 ^ (64 - b) ∧ m * 2 ^ (64 - b) < 2 ^ 64 := by
  constructor
  · have : 2 ^ (b - 1) * 2 ^ (64 - b) = 2 ^ 63 := by rw [← Nat.pow_add, show b - 1 + (64 - b) = 63 by omega]
    rw [← this]
    exact Nat.mul_le_mul_right _ h1
  · have : 2 ^ b * 2 ^ (64 - b) = 2 ^ 64 := by rw [← Nat.pow_add, show b + (64 - b) = 64 by omega]
    rw [← this]
    exact Nat.mul_lt_mul_of_pos_right h2 (Nat.two_pow_pos _)
/-- both roundings at once -/
theorem q_both {j m : Nat} {sc : Int} {neg : Bool} (hj : j = 2 ∨ j = 3) (hm : 0 < m) (hm2 : m < 2 ^ 64) (hlo : -2000 ≤ sc) (hhi : sc + Nat.log2 m + fB j ≤ 2046) (h64 : m < 2 ^ 63 ∨ 0 ≤ sc) :
    fX1_rounded j (lN m) (iZ sc) = lN (rS j (m * 2 ^ (64 - (Nat.log2 m + 1))) (sc + Nat.log2 m + fB j)) ∧ fX4_near (nI j) (if neg then 1 else 0) (lN m) (iZ sc) = sg j neg (rS j (m * 2 ^ (64 - (Nat.log2 m + 1))) (sc + Nat.log2 m + fB j)) := by
  obtain ⟨b1, b2, b3⟩ := blen hm
  have b4 := blen_le hm hm2
  have f4 := fF_n hj
  obtain ⟨t1, t2⟩ := top_b b1 b4 b2 b3
  constructor
  · exact q_round hj (by omega) t1 t2 (by omega) (by omega) hhi
  · refine q_near hj b1 b4 b2 b3 (by omega) (by omega) hhi ?_
    rcases h64 with h | h
    · left; exact blen_le hm h
    · right; omega
theorem abs_lN {v : Int64} (h : ¬ v = 0) : ∃ m : Nat, 0 < m ∧ m ≤ 2 ^ 63 ∧ (if v < 0 then -v else v) = lN m ∧ (v < 0 ∨ m < 2 ^ 63) := by
  have e := lNv v
  have hq := v.toBitVec.isLt
  generalize v.toBitVec.toNat = q at *
  have hq0 : 0 < q := by
    rcases Nat.eq_zero_or_pos q with h9 | h9
    · subst h9; exact absurd e h
    · exact h9
  subst e
  by_cases c : q < 2 ^ 63
  · refine ⟨q, hq0, by omega, ?_, Or.inr c⟩
    rw [if_neg (fun g => by have := (lN_neg hq).mp g; omega)]
  · refine ⟨2 ^ 64 - q, by omega, by omega, ?_, Or.inl ((lN_neg hq).mpr (by omega))⟩
    rw [if_pos ((lN_neg hq).mpr (by omega))]
    have : lN q + lN (2 ^ 64 - q) = 0 := by
      rw [lN_add, show q + (2 ^ 64 - q) = 2 ^ 64 by omega]; decide +kernel
    have h2 : -lN q = -lN q + (lN q + lN (2 ^ 64 - q)) := by rw [this, Int64.add_zero]
    rw [h2, ← Int64.add_assoc, Int64.add_left_neg, Int64.zero_add]
/-- whole to float or double -/
theorem q_wf {j : Nat} {v : Int64} (hj : j = 2 ∨ j = 3) : fX4_castTo_46 (nI j) v (if v < (0:Int64) then (1:Int32) else (0:Int32)) = fX1_roundedWhole j v ∧ Vd j (fX1_roundedWhole j v) := by
  have hb := bI_lt (i := j)
  have f4 := fF_n hj
  unfold fX4_castTo_46 fX1_roundedWhole
  by_cases c0 : v = 0
  · subst c0
    rw [if_neg (by decide), if_neg (by decide), if_pos rfl]
    have hs := sg_asS (b := false) hj (x := 0) (by omega)
    have hv := vd_sg (b := false) hj (Nat.zero_le (bI j))
    refine ⟨?_, hv⟩
    unfold fX4_near fX4_near_12
    rw [if_pos rfl, if_pos rfl]
    rw [if_neg (by decide), Int64.zero_or] at hs
    exact hs
  · rw [if_neg c0]
    obtain ⟨m, m1, m2, m3, m4⟩ := abs_lN c0
    by_cases c1 : v < 0
    · rw [if_pos c1, if_pos c1, if_pos c1]
      rw [if_pos c1] at m3
      have hl : Nat.log2 m + 1 ≤ 64 := blen_le m1 (by omega)
      obtain ⟨q1, q2⟩ := q_both (neg := true) (sc := 0) hj m1 (by omega) (by omega) (by omega) (Or.inr (by omega))
      have hle := rS_le (j := j) (top := m * 2 ^ (64 - (Nat.log2 m + 1))) (fld := 0 + Nat.log2 m + fB j)
      rw [m3, show (0:Int32) = iZ 0 from rfl, q1, sg_with hj (by omega)]
      rw [if_pos rfl] at q2
      have hd : decide (v < 0) = true := by simp [c1]
      rw [q2, hd]
      exact ⟨rfl, vd_sg hj hle⟩
    · rw [if_neg c1, if_neg c1, if_neg c1]
      rw [if_neg c1] at m3
      have hl : Nat.log2 m + 1 ≤ 64 := blen_le m1 (by omega)
      obtain ⟨q1, q2⟩ := q_both (neg := false) (sc := 0) hj m1 (by omega) (by omega) (by omega) (Or.inr (by omega))
      have hle := rS_le (j := j) (top := m * 2 ^ (64 - (Nat.log2 m + 1))) (fld := 0 + Nat.log2 m + fB j)
      rw [if_neg (by decide)] at q2
      have e0 : (if v < 0 then (1:Int32) else 0) = 0 := if_neg c1
      have hd : decide (v < 0) = false := by simp [c1]
      have e1 : fX1_rounded j v (0:Int32) = fX1_rounded j (lN m) (iZ 0) := by rw [m3]; rfl
      have e2 : fX4_near (nI j) 0 v 0 = fX4_near (nI j) 0 (lN m) (iZ 0) := by rw [m3]; rfl
      rw [e1, e2, q1, q2, sg_with hj (by omega), hd]
      exact ⟨rfl, vd_sg hj hle⟩
/-- digits and scale of a float or double -/
def dG (i m : Nat) : Nat := if m / 2 ^ fF i = 0 then m else m % 2 ^ fF i + 2 ^ fF i
def dS (i m : Nat) : Int := max ((m / 2 ^ fF i : Nat) : Int) 1 - fB i - fF i
theorem dig_e {i m : Nat} (hi : i = 2 ∨ i = 3) (hm : m < bB i) : ((lN m &&& (shL (1:Int64) (nI (fF i)) - (1:Int64))) ||| shL (1:Int64) (nI (fF i))) = lN (m % 2 ^ fF i + 2 ^ fF i) ∧ lN m - shL ((nI (m / 2 ^ fF i)).toInt64) (nI (fF i)) + shL (1:Int64) (nI (fF i)) = lN (m % 2 ^ fF i + 2 ^ fF i) := by
  have f4 := fF_n hi
  have h3 := mF hi hm
  have hB := bB_le (i := i)
  have g4 : shL (1:Int64) (nI (fF i)) = lN (2 ^ fF i) := by show shL (lN 1) _ = _; rw [shL_lN (by omega), Nat.one_mul]
  have hp2 : 2 ^ fF i ≤ 2 ^ 52 := Nat.pow_le_pow_right (by decide) (by omega)
  have hp0 : 0 < 2 ^ fF i := Nat.two_pow_pos _
  have hr : m % 2 ^ fF i < 2 ^ fF i := Nat.mod_lt _ hp0
  have hdm := Nat.div_add_mod m (2 ^ fF i)
  constructor
  · rw [g4, rest_e (by omega) (by omega), lN_or (by omega) (by omega)]
    have := or_add (k := fF i) (m := m % 2 ^ fF i) (n := 1) hr
    rw [Nat.mul_one] at this
    rw [this]
  · rw [g4, nI_l (by omega), shL_lN (by omega), lN_sub (by rw [Nat.mul_comm]; omega), lN_add]
    congr 1
    rw [Nat.mul_comm]
    omega
theorem fld_0 {i m : Nat} (hi : i = 2 ∨ i = 3) (hm : m < bB i) : nI (m / 2 ^ fF i) = 0 ↔ m / 2 ^ fF i = 0 := by
  have h3 := mF hi hm
  constructor
  · intro h
    have h2 := congrArg Int32.toInt h
    rw [nI_tI (by omega), show (0:Int32).toInt = 0 from rfl] at h2
    omega
  · intro h; rw [h]; rfl
theorem dG_lt {i m : Nat} : dG i m < 2 ^ (fF i + 1) := by
  unfold dG
  have hp0 : 0 < 2 ^ fF i := Nat.two_pow_pos _
  have hr : m % 2 ^ fF i < 2 ^ fF i := Nat.mod_lt _ hp0
  rw [Nat.pow_succ]
  split
  · rename_i h
    have := (Nat.div_eq_zero_iff_lt hp0).mp h
    omega
  · omega
theorem dG_pos {i m : Nat} (h : ¬ m = 0) : 0 < dG i m := by
  unfold dG
  have hp0 : 0 < 2 ^ fF i := Nat.two_pow_pos _
  split <;> omega
/-- what the class and the reference take of a float or double -/
theorem cl_dig {i m : Nat} (hi : i = 2 ∨ i = 3) (hm : m < bB i) : (if nI (m / 2 ^ fF i) = 0 then lN m else ((lN m &&& (shL (1:Int64) (nI (fF i)) - (1:Int64))) ||| shL (1:Int64) (nI (fF i)))) = lN (dG i m) ∧ (if nI (m / 2 ^ fF i) = 0 then lN m else (lN m - shL ((nI (m / 2 ^ fF i)).toInt64) (nI (fF i)) + shL (1:Int64) (nI (fF i)))) = lN (dG i m) := by
  obtain ⟨d1, d2⟩ := dig_e hi hm
  unfold dG
  rw [d1, d2]
  by_cases c : m / 2 ^ fF i = 0
  · rw [if_pos ((fld_0 hi hm).mpr c), if_pos c]; exact ⟨rfl, rfl⟩
  · rw [if_neg (fun g => c ((fld_0 hi hm).mp g)), if_neg c]; exact ⟨rfl, rfl⟩
theorem cl_sc {i m : Nat} (hi : i = 2 ∨ i = 3) (hm : m < bB i) : ((if nI (m / 2 ^ fF i) < (1:Int32) then (1:Int32) else nI (m / 2 ^ fF i)) - nI (fB i)) - nI (fF i) = iZ (dS i m) ∧ (if nI (m / 2 ^ fF i) = 0 then iZ (lW i) else ((iZ (lW i) + nI (m / 2 ^ fF i)) - (1:Int32))) = iZ (dS i m) := by
  have h3 := mF hi hm
  have f4 := fF_n hi
  have hz := fld_0 hi hm
  unfold dS lW
  generalize m / 2 ^ fF i = x at *
  constructor
  · have q : nI (x) < (1:Int32) ↔ x < 1 := by
      rw [Int32.lt_iff_toInt_lt, nI_tI (by omega), show (1:Int32).toInt = 1 from rfl]; omega
    by_cases c : x < 1
    · rw [if_pos (q.mpr c), iZ_n, iZ_n, show (1:Int32) = iZ 1 from rfl, iZ_sub, iZ_sub]; congr 1; omega
    · rw [if_neg (fun g => c (q.mp g)), iZ_n, iZ_n, iZ_n, iZ_sub, iZ_sub]; congr 1; omega
  · by_cases c : x = 0
    · rw [if_pos (hz.mpr c)]; congr 1; omega
    · rw [if_neg (fun g => c (hz.mp g)), iZ_n, show (1:Int32) = iZ 1 from rfl, iZ_add, iZ_sub]; congr 1; omega
theorem rS_self {i m : Nat} (hi : i = 2 ∨ i = 3) (hm0 : ¬ m = 0) (hm : m < bI i) : rS i (dG i m * 2 ^ (64 - (Nat.log2 (dG i m) + 1))) (dS i m + Nat.log2 (dG i m) + fB i) = m := by
  have hb := bI_lt (i := i)
  have f4 := fF_n hi
  have h3 := mF hi (show m < bB i by omega)
  have hp0 : 0 < 2 ^ fF i := Nat.two_pow_pos _
  have hdm := Nat.div_add_mod m (2 ^ fF i)
  have hr : m % 2 ^ fF i < 2 ^ fF i := Nat.mod_lt _ hp0
  have hd0 := dG_pos (i := i) hm0
  obtain ⟨b1, b2, b3⟩ := blen hd0
  have b4 := blen_le hd0 (dG_lt (i := i) (m := m))
  unfold rS rD rM
  by_cases c : m / 2 ^ fF i = 0
  · have e1 : dG i m = m := by unfold dG; rw [if_pos c]
    have e2 : dS i m = 1 - fB i - fF i := by unfold dS; rw [c]; omega
    rw [e1, e2] at *
    have hlt : m < 2 ^ fF i := (Nat.div_eq_zero_iff_lt hp0).mp c
    have b5 := blen_le (by omega) hlt
    generalize Nat.log2 m = lg at *
    have r1 : 63 - fF i + (1 - ((1 : Int) - fB i - fF i + lg + fB i)).toNat = 64 - (lg + 1) := by omega
    have r2 : ((1 : Int) - fB i - fF i + lg + fB i - 1).toNat = 0 := by omega
    rw [r1, r2, if_neg (by omega), rN_lo (by omega) (Nat.le_refl _), Nat.sub_self, Nat.pow_zero, Nat.mul_one, Nat.zero_mul, Nat.add_zero, Nat.min_eq_left (by omega)]
  · have e1 : dG i m = m % 2 ^ fF i + 2 ^ fF i := by unfold dG; rw [if_neg c]
    have e2 : dS i m = (m / 2 ^ fF i : Nat) - fB i - fF i := by
      unfold dS
      generalize m / 2 ^ fF i = x at *
      omega
    have hlg : Nat.log2 (dG i m) = fF i := by
      have : fF i ≤ Nat.log2 (dG i m) := (Nat.le_log2 (by omega)).mpr (by rw [e1]; omega)
      omega
    rw [hlg, e2]
    have r1 : 63 - fF i + (1 - (((m / 2 ^ fF i : Nat) : Int) - fB i - fF i + fF i + fB i)).toNat = 63 - fF i := by
      generalize m / 2 ^ fF i = x at *
      omega
    have r2 : (((m / 2 ^ fF i : Nat) : Int) - fB i - fF i + fF i + fB i - 1).toNat = m / 2 ^ fF i - 1 := by
      generalize m / 2 ^ fF i = x at *
      omega
    rw [r1, r2, if_neg (by omega), show 64 - (fF i + 1) = 63 - fF i by omega, rN_lo (by omega) (Nat.le_refl _), Nat.sub_self, Nat.pow_zero, Nat.mul_one, e1]
    have hmul : (m / 2 ^ fF i - 1) * 2 ^ fF i + 2 ^ fF i = m / 2 ^ fF i * 2 ^ fF i := by
      obtain ⟨k, hk⟩ : ∃ k, m / 2 ^ fF i = k + 1 := ⟨m / 2 ^ fF i - 1, by omega⟩
      rw [hk, Nat.add_mul, Nat.one_mul]; rfl
    rw [Nat.mul_comm] at hdm
    have : m % 2 ^ fF i + 2 ^ fF i + (m / 2 ^ fF i - 1) * 2 ^ fF i = m := by omega
    rw [this, Nat.min_eq_left (by omega)]
theorem dS_b {i m : Nat} (hi : i = 2 ∨ i = 3) (hm : m < bI i) : -1100 ≤ dS i m ∧ dS i m + fF i ≤ fB i := by
  have f4 := fF_n hi
  have : m / 2 ^ fF i < 2 * fB i + 1 := by
    rw [Nat.div_lt_iff_lt_mul (Nat.two_pow_pos _)]
    have hb : bI i = (2 * fB i + 1) * 2 ^ fF i := by rcases hi with rfl | rfl <;> decide
    omega
  unfold dS
  generalize m / 2 ^ fF i = x at *
  omega
theorem q_refit {i j m : Nat} {b : Bool} (hi : i = 2 ∨ i = 3) (hj : j = 2 ∨ j = 3) (hm : m ≤ bI i) :
    fX4_castTo_97 (nI i) (nI j) (sg i b m) (iZ (lW i)) = fX1_refit i j (sg i b m) ∧ Vd j (fX1_refit i j (sg i b m)) ∧ (i = j → fX1_refit i j (sg i b m) = sg i b m) := by
  have hb := bI_lt (i := i)
  have hbj := bI_lt (i := j)
  have hm' : m < bB i := by omega
  have hB := bB_le (i := i)
  have h3 := mF hi hm'
  have f4 := fF_n hi
  have f4j := fF_n hj
  obtain ⟨f1, f2, f3⟩ := fF_e hi
  have hn := sg_neg (b := b) hi hm'
  have hdec : decide (sg i b m < 0) = b := by cases b <;> simp_all
  have hj1 : (1:Int32) < nI j := by rcases hj with rfl | rfl <;> decide
  unfold fX4_castTo_97 fX4_castTo_181 fX4_castTo_200 fX1_refit fX1_refit_80
  rw [sg_size hi hm', sg_and hi hm', sg_below hi hm', f1, f2, f3, sz_e hi hm', lN_i, end_lN hi, inf_lN hi, inf_lN hj, end_lN hj, if_pos hj1, if_pos hj1]
  by_cases c0 : m = bI i
  · subst c0
    have hnz : ¬ lN (bI i) = 0 := by rcases hi with rfl | rfl <;> decide +kernel
    rw [if_pos (show lN (bI i) = lN (bI i) from rfl), if_neg hnz, if_pos (show lN (bI i) = lN (bI i) from rfl), sg_with hj hbj, hdec]
    refine ⟨?_, vd_sg hj (Nat.le_refl _), fun h => by rw [h]⟩
    rw [← sg_asS (b := b) hj hbj]
    cases b
    · simp
    · rw [if_pos rfl, if_neg (by decide), Int64.or_comm]; simp
  · have hlt : m < bI i := by omega
    rw [if_neg (fun g => c0 ((lN_inj (by omega) (by omega)).mp g)), if_neg (fun g => c0 ((lN_inj (by omega) (by omega)).mp g))]
    obtain ⟨g1, g2⟩ := cl_dig hi hm'
    obtain ⟨s1, s2⟩ := cl_sc hi hm'
    rw [g1, g2, s1, s2]
    by_cases c1 : m = 0
    · subst c1
      have hz : dG i 0 = 0 := by unfold dG; simp
      rw [if_pos (show lN 0 = (0:Int64) from rfl), hz, show (0:Int64) = lN 0 from rfl, sg_with hj (by omega), hdec]
      refine ⟨?_, vd_sg hj (Nat.zero_le _), fun h => by rw [h]⟩
      unfold fX4_near fX4_near_12
      rw [if_pos (show lN 0 = (0:Int64) from rfl), ← sg_asS (b := b) hj (x := 0) (by omega), show lN 0 = (0:Int64) from rfl, Int64.or_zero]
      cases b <;> simp
    · rw [if_neg (fun g => c1 ((lN_z (by omega)).mp g))]
      have hd0 := dG_pos (i := i) c1
      have hdl := dG_lt (i := i) (m := m)
      have hp2 : 2 ^ (fF i + 1) ≤ 2 ^ 53 := Nat.pow_le_pow_right (by decide) (by omega)
      have b4 := blen_le hd0 hdl
      obtain ⟨z1, z2⟩ := dS_b hi hlt
      obtain ⟨q1, q2⟩ := q_both (neg := b) (sc := dS i m) hj hd0 (by omega) (by omega) (by omega) (Or.inl (by omega))
      have hle := rS_le (j := j) (top := dG i m * 2 ^ (64 - (Nat.log2 (dG i m) + 1))) (fld := dS i m + Nat.log2 (dG i m) + fB j)
      rw [q1, q2, sg_with hj (by omega), hdec]
      refine ⟨rfl, vd_sg hj hle, ?_⟩
      rintro rfl
      rw [rS_self hi c1 hlt]
end PC
