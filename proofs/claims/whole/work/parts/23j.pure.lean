section PH
/-- whole sorts: how many bits their size has -/
def hW : Nat → Nat := fun j => match j with | 0 => 31 | _ => 63
theorem hW_e {j : Nat} (hj : j < 2) : so_bits j - (1:Int32) = nI (hW j) ∧ so_mask j = lN (2 ^ hW j - 1) ∧ (if nI j = 0 then (2147483647:Int64) else (9223372036854775807:Int64)) = lN (2 ^ hW j - 1) ∧ so_mask j ^^^ (-1:Int64) = (-lN (2 ^ hW j - 1)) - (1:Int64) ∧ fX1_isWhole j = 1 := by
  rcases (show j = 0 ∨ j = 1 by omega) with rfl | rfl <;> decide +kernel
theorem hW_n {j : Nat} : 31 ≤ hW j ∧ hW j ≤ 63 ∧ (hW j = 31 ∨ hW j = 63) := by unfold hW; split <;> decide
/-- what stays of a size, cut -/
def cT (i m : Nat) : Nat := if m / 2 ^ fF i < fB i + fF i then (m % 2 ^ fF i + 2 ^ fF i) / 2 ^ (fF i + fB i - m / 2 ^ fF i) else (m % 2 ^ fF i + 2 ^ fF i) * 2 ^ (m / 2 ^ fF i - fB i - fF i)
/-- the answer of a cut -/
def cR (i j : Nat) (b : Bool) (m : Nat) : Int64 := if m / 2 ^ fF i < fB i then 0 else if m / 2 ^ fF i < fB i + hW j then (if b then -lN (cT i m) else lN (cT i m)) else (if b then (-lN (2 ^ hW j - 1)) - (1:Int64) else lN (2 ^ hW j - 1))
theorem iZ_neg (a : Int) : -(iZ a) = iZ (-a) := (Int32.ofInt_neg (a := a)).symm
theorem cT_b {i m : Nat} (hi : i = 2 ∨ i = 3) (hm : m < bB i) (h1 : fB i ≤ m / 2 ^ fF i) (h2 : m / 2 ^ fF i < fB i + 63) : 2 ^ (m / 2 ^ fF i - fB i) ≤ cT i m ∧ cT i m < 2 ^ (m / 2 ^ fF i - fB i + 1) := by
  have f4 := fF_n hi
  have hp0 : 0 < 2 ^ fF i := Nat.two_pow_pos _
  have hr : m % 2 ^ fF i < 2 ^ fF i := Nat.mod_lt _ hp0
  have hs : 2 ^ (fF i + 1) = 2 ^ fF i * 2 := Nat.pow_succ ..
  unfold cT
  generalize m / 2 ^ fF i = x at *
  generalize m % 2 ^ fF i = r at *
  split
  · rename_i c
    have e : fF i = (fF i + fB i - x) + (x - fB i) := by omega
    constructor
    · rw [Nat.le_div_iff_mul_le (Nat.two_pow_pos _), ← Nat.pow_add, show x - fB i + (fF i + fB i - x) = fF i by omega]; omega
    · rw [Nat.div_lt_iff_lt_mul (Nat.two_pow_pos _), ← Nat.pow_add, show x - fB i + 1 + (fF i + fB i - x) = fF i + 1 by omega]; omega
  · rename_i c
    constructor
    · rw [show x - fB i = fF i + (x - fB i - fF i) by omega, Nat.pow_add, show fF i + (x - fB i - fF i) - fF i = x - fB i - fF i by omega]
      exact Nat.mul_le_mul_right _ (by omega)
    · rw [show x - fB i + 1 = (fF i + 1) + (x - fB i - fF i) by omega, Nat.pow_add]
      exact Nat.mul_lt_mul_of_pos_right (by omega) (Nat.two_pow_pos _)
set_option maxHeartbeats 1000000 in
theorem q_cut {i j m : Nat} {b : Bool} (hi : i = 2 ∨ i = 3) (hj : j < 2) (hm : m < bB i) : fX1_cutTo i j (sg i b m) = cR i j b m := by
  obtain ⟨f1, f2, f3⟩ := fF_e hi
  have f4 := fF_n hi
  have h3 := mF hi hm
  obtain ⟨w1, w2, w3, w4, w5⟩ := hW_e hj
  have w6 := hW_n (j := j)
  have hn := sg_neg (b := b) hi hm
  have hp2 : 2 ^ fF i ≤ 2 ^ 52 := Nat.pow_le_pow_right (by decide) (by omega)
  have hp0 : 0 < 2 ^ fF i := Nat.two_pow_pos _
  have hr : m % 2 ^ fF i < 2 ^ fF i := Nat.mod_lt _ hp0
  obtain ⟨d1, d2⟩ := dig_e hi hm
  have hif : ∀ x y : Int64, (if sg i b m < 0 then x else y) = if b = true then x else y := by
    intro x y
    cases b
    · rw [if_neg (fun g => by cases hn.mp g), if_neg (by decide)]
    · rw [if_pos (hn.mpr rfl), if_pos rfl]
  unfold fX1_cutTo fX1_cutTo_111 cR
  rw [sg_and hi hm, f1, f3, sz_e hi hm, lN_i, w1, d1, w4, w2, hif, hif]
  by_cases c1 : m / 2 ^ fF i < fB i
  · rw [if_pos ((nI_slt0 (by omega) (by omega)).mpr c1), if_pos c1]
  · rw [if_neg (fun g => c1 ((nI_slt0 (by omega) (by omega)).mp g)), if_neg c1]
    by_cases c2 : m / 2 ^ fF i < fB i + hW j
    · rw [if_pos ((nI_slt (by omega) (by omega) (by omega)).mpr c2), if_pos c2]
      have e : (if (nI (m / 2 ^ fF i) - nI (fB i)) - nI (fF i) < 0 then shR (lN (m % 2 ^ fF i + 2 ^ fF i)) (-((nI (m / 2 ^ fF i) - nI (fB i)) - nI (fF i))) else shL (lN (m % 2 ^ fF i + 2 ^ fF i)) ((nI (m / 2 ^ fF i) - nI (fB i)) - nI (fF i))) = lN (cT i m) := by
        unfold cT
        generalize m / 2 ^ fF i = x at *
        generalize m % 2 ^ fF i = r at *
        have ex : (nI x - nI (fB i)) - nI (fF i) = iZ ((x : Int) - fB i - fF i) := by rw [iZ_n, iZ_n, iZ_n, iZ_sub, iZ_sub]
        rw [ex]
        have q : iZ ((x : Int) - fB i - fF i) < 0 ↔ (x : Int) - fB i - fF i < 0 := iZ_lt (b := 0) (by omega) (by omega) (by omega) (by omega)
        by_cases c3 : x < fB i + fF i
        · rw [if_pos (q.mpr (by omega)), if_pos c3, iZ_neg, show iZ (-((x : Int) - fB i - fF i)) = nI (fF i + fB i - x) by rw [iZ_n]; congr 1; omega, shR_lN (by omega) (by omega)]
        · rw [if_neg (fun g => c3 (by have := q.mp g; omega)), if_neg c3, show iZ ((x : Int) - fB i - fF i) = nI (x - fB i - fF i) by rw [iZ_n]; congr 1; omega, shL_lN (by omega)]
      rw [e]
    · rw [if_neg (fun g => c2 ((nI_slt (by omega) (by omega) (by omega)).mp g)), if_neg c2]
theorem cR_fit {i j m : Nat} {b : Bool} (hi : i = 2 ∨ i = 3) (hj : j < 2) (hm : m < bB i) : Vd j (cR i j b m) := by
  apply vd_small hj
  rcases (show j = 0 ∨ j = 1 by omega) with rfl | rfl
  · rw [fit32 (by decide)]
    have key : ∀ y, y < 2 ^ 31 → (lN y).toInt32.toInt64 = lN y ∧ (-lN y).toInt32.toInt64 = -lN y := by
      intro y hy
      have h1 : (lN y).toInt32.toInt64 = lN y := lN_32 y 0 hy
      refine ⟨h1, ?_⟩
      apply Int64.toInt_inj.mp
      have t1 : (lN y).toInt = y := by rw [lN_tI (by omega), if_pos (by omega)]
      rw [Int32.toInt_toInt64, Int64.toInt32_neg, Int32.toInt_neg, Int64.toInt_neg, t1, lN_i, nI_tI hy, Int.bmod_eq_of_le (by omega) (by omega), Int.bmod_eq_of_le (by omega) (by omega)]
    unfold cR
    split
    · decide +kernel
    split
    · rename_i c1 c2
      have hb := (cT_b hi hm (by omega) (by have := hW_n (j := 0); omega)).2
      have hp : 2 ^ (m / 2 ^ fF i - fB i + 1) ≤ 2 ^ 31 := Nat.pow_le_pow_right (by decide) (by have : hW 0 = 31 := rfl; omega)
      obtain ⟨k1, k2⟩ := key (cT i m) (by omega)
      split
      · exact k2
      · exact k1
    · split <;> decide +kernel
  · exact fit64 (by decide) _
set_option maxHeartbeats 1000000 in
theorem q_held {i j m : Nat} {b : Bool} (hi : i = 2 ∨ i = 3) (hj : j < 2) (hm : m ≤ bI i) : fX4_castTo_97 (nI i) (nI j) (sg i b m) (iZ (lW i)) = cR i j b m := by
  have hb := bI_lt (i := i)
  have hm' : m < bB i := by omega
  have hB := bB_le (i := i)
  obtain ⟨f1, f2, f3⟩ := fF_e hi
  have f4 := fF_n hi
  have h3 := mF hi hm'
  obtain ⟨w1, w2, w3, w4, w5⟩ := hW_e hj
  have w6 := hW_n (j := j)
  have hp2 : 2 ^ fF i ≤ 2 ^ 52 := Nat.pow_le_pow_right (by decide) (by omega)
  have hp0 : 0 < 2 ^ fF i := Nat.two_pow_pos _
  have hr : m % 2 ^ fF i < 2 ^ fF i := Nat.mod_lt _ hp0
  have hs : 2 ^ (fF i + 1) = 2 ^ fF i * 2 := Nat.pow_succ ..
  have hj1 : ¬ (1:Int32) < nI j := by rcases (show j = 0 ∨ j = 1 by omega) with rfl | rfl <;> decide
  have hbb : ∀ x y : Int64, (if (if b then (1:Int32) else 0) = 0 then x else y) = if b = true then y else x := by intro x y; cases b <;> simp
  have hpw : 2 ^ hW j ≤ 2 ^ 63 := Nat.pow_le_pow_right (by decide) (by omega)
  have hpw0 : 0 < 2 ^ hW j := Nat.two_pow_pos _
  unfold fX4_castTo_97 fX4_castTo_181 fX4_castTo_200 fX4_held fX4_held_13 fX4_held_37 fX4_held_77
  rw [sg_size hi hm', sg_below hi hm', f2, sz_e hi hm', lN_i, end_lN hi, if_neg hj1, if_neg hj1, w3]
  obtain ⟨g1, g2⟩ := cl_dig hi hm'
  obtain ⟨s1, s2⟩ := cl_sc hi hm'
  rw [g2, s2]
  unfold cR
  have sat : ¬ m / 2 ^ fF i < fB i → ¬ m / 2 ^ fF i < fB i + hW j → (if m / 2 ^ fF i < fB i then (0:Int64) else if m / 2 ^ fF i < fB i + hW j then (if b then -lN (cT i m) else lN (cT i m)) else (if b then (-lN (2 ^ hW j - 1)) - (1:Int64) else lN (2 ^ hW j - 1))) = (if b then (-lN (2 ^ hW j - 1)) - (1:Int64) else lN (2 ^ hW j - 1)) := by
    intro x1 x2; rw [if_neg x1, if_neg x2]
  by_cases c0 : m = bI i
  · have hx : m / 2 ^ fF i = 2 * fB i + 1 := by subst c0; rcases hi with rfl | rfl <;> decide
    rw [sat (by omega) (by rcases hi with rfl | rfl <;> (have : fB 2 = 127 := rfl; have : fB 3 = 1023 := rfl; omega)), if_pos (by rw [c0])]
    have e1 : (if (0:Int32) < (100:Int32) then (if (63:Int32) < fX4_bitsOf 1 + (100:Int32) then (1:Int32) else 0) else 0) = 1 := by decide +kernel
    rw [e1, hbb]
    cases b
    · simp
    · simp
  · rw [if_neg (fun g => c0 ((lN_inj (by omega) (by omega)).mp g))]
    by_cases c1 : m / 2 ^ fF i < fB i
    · rw [if_pos c1]
      have hz : dS i m ≤ -(fF i : Int) - 1 ∧ -1100 ≤ dS i m := by
        unfold dS
        generalize m / 2 ^ fF i = x at *
        omega
      have hd := dG_lt (i := i) (m := m)
      have q1 : ¬ (0:Int32) < iZ (dS i m) := fun g => by
        have := (iZ_lt (a := 0) (by omega) (by omega) (by omega) (by omega)).mp g; omega
      have q2 : iZ (dS i m) < 0 := (iZ_lt (b := 0) (by omega) (by omega) (by omega) (by omega)).mpr (by omega)
      rw [if_neg q1, if_pos rfl, if_pos q2, if_pos rfl]
      have e : (if iZ (dS i m) < (-63:Int32) then (0:Int64) else shR (lN (dG i m)) (-iZ (dS i m))) = 0 := by
        have q3 : iZ (dS i m) < (-63:Int32) ↔ dS i m < -63 := iZ_lt (b := -63) (by omega) (by omega) (by omega) (by omega)
        by_cases c2 : dS i m < -63
        · rw [if_pos (q3.mpr c2)]
        · rw [if_neg (fun g => c2 (q3.mp g)), iZ_neg]
          obtain ⟨k, hk⟩ : ∃ k : Nat, -dS i m = (k : Int) := ⟨(-dS i m).toNat, by omega⟩
          rw [hk, ← iZ_n, shR_lN (by omega) (by omega), Nat.div_eq_of_lt]
          · rfl
          · exact Nat.lt_of_lt_of_le hd (Nat.pow_le_pow_right (by decide) (by omega))
      rw [e, hbb]
      have e2 : ¬ lN (2 ^ hW j - 1) < (0:Int64) := fun g => by
        have := (lN_lt63 (b := 0) (by omega) (by decide)).mp g; omega
      rw [if_neg e2, if_neg e2]
      cases b <;> decide
    · rw [if_neg c1]
      have hnz : ¬ m / 2 ^ fF i = 0 := by
        generalize m / 2 ^ fF i = x at *
        omega
      have hdg : dG i m = m % 2 ^ fF i + 2 ^ fF i := by unfold dG; rw [if_neg hnz]
      have hds : dS i m = (m / 2 ^ fF i : Nat) - fB i - fF i := by
        unfold dS
        generalize m / 2 ^ fF i = x at *
        omega
      have hbit : fX4_bitsOf (lN (dG i m)) = nI (fF i + 1) := bits_e (by omega) (by omega) (by rw [hdg]; show 2 ^ fF i ≤ _; omega) dG_lt
      rw [hbit, hds, hdg]
      have hct := cT_b hi hm' (by omega)
      unfold cT at hct ⊢
      generalize m / 2 ^ fF i = x at *
      generalize m % 2 ^ fF i = r at *
      have hfar : (if (0:Int32) < iZ ((x : Nat) - fB i - fF i) then (if (63:Int32) < nI (fF i + 1) + iZ ((x : Nat) - fB i - fF i) then (1:Int32) else 0) else 0) = if fB i + 63 ≤ x then 1 else 0 := by
        have q1 : (0:Int32) < iZ ((x : Nat) - fB i - fF i) ↔ 0 < (x : Int) - fB i - fF i := iZ_lt (a := 0) (by omega) (by omega) (by omega) (by omega)
        have q2 : (63:Int32) < nI (fF i + 1) + iZ ((x : Nat) - fB i - fF i) ↔ fB i + 63 ≤ x := by
          rw [iZ_n, iZ_add, show (63:Int32) = iZ 63 from rfl, iZ_lt (by omega) (by omega) (by omega) (by omega)]; omega
        by_cases d1 : 0 < (x : Int) - fB i - fF i
        · rw [if_pos (q1.mpr d1)]
          by_cases d2 : fB i + 63 ≤ x
          · rw [if_pos (q2.mpr d2), if_pos d2]
          · rw [if_neg (fun g => d2 (q2.mp g)), if_neg d2]
        · rw [if_neg (fun g => d1 (q1.mp g)), if_neg (by omega)]
      rw [hfar]
      by_cases c2 : fB i + 63 ≤ x
      · rw [if_pos c2, hbb, if_neg (show ¬ x < fB i + hW j by omega)]
        cases b
        · simp
        · simp
      · rw [if_neg c2]
        have hv : (if iZ ((x : Nat) - fB i - fF i) < 0 then (if iZ ((x : Nat) - fB i - fF i) < (-63:Int32) then (0:Int64) else shR (lN (r + 2 ^ fF i)) (-iZ ((x : Nat) - fB i - fF i))) else shL (lN (r + 2 ^ fF i)) (iZ ((x : Nat) - fB i - fF i))) = lN (if x < fB i + fF i then (r + 2 ^ fF i) / 2 ^ (fF i + fB i - x) else (r + 2 ^ fF i) * 2 ^ (x - fB i - fF i)) := by
          have q : iZ ((x : Nat) - fB i - fF i) < 0 ↔ (x : Int) - fB i - fF i < 0 := iZ_lt (b := 0) (by omega) (by omega) (by omega) (by omega)
          have q3 : ¬ iZ ((x : Nat) - fB i - fF i) < (-63:Int32) := fun g => by
            have := (iZ_lt (b := -63) (by omega) (by omega) (by omega) (by omega)).mp g; omega
          by_cases c3 : x < fB i + fF i
          · rw [if_pos (q.mpr (by omega)), if_neg q3, if_pos c3, iZ_neg, show iZ (-((x : Int) - fB i - fF i)) = nI (fF i + fB i - x) by rw [iZ_n]; congr 1; omega, shR_lN (by omega) (by omega)]
          · rw [if_neg (fun g => c3 (by have := q.mp g; omega)), if_neg c3, show iZ ((x : Int) - fB i - fF i) = nI (x - fB i - fF i) by rw [iZ_n]; congr 1; omega, shL_lN (by omega)]
        obtain ⟨t1, t2⟩ := hct (by omega)
        rw [if_pos rfl, if_pos rfl, hv, hbb]
        generalize (if x < fB i + fF i then (r + 2 ^ fF i) / 2 ^ (fF i + fB i - x) else (r + 2 ^ fF i) * 2 ^ (x - fB i - fF i)) = y at *
        have hy : y < 2 ^ 63 := Nat.lt_of_lt_of_le t2 (Nat.pow_le_pow_right (by decide) (by omega))
        by_cases c4 : x < fB i + hW j
        · have hy2 : y < 2 ^ hW j := Nat.lt_of_lt_of_le t2 (Nat.pow_le_pow_right (by decide) (by omega))
          have e2 : ¬ lN (2 ^ hW j - 1) < lN y := fun g => by
            have := (lN_lt63 (by omega) hy).mp g; omega
          rw [if_pos c4, if_neg e2, if_neg e2]
        · have hy2 : 2 ^ hW j ≤ y := Nat.le_trans (Nat.pow_le_pow_right (by decide) (by omega)) t1
          have e2 : lN (2 ^ hW j - 1) < lN y := (lN_lt63 (by omega) hy).mpr (by omega)
          rw [if_neg c4, if_pos e2, if_pos e2]
/-- PATCH: a cast, by class and reference -/
theorem q_cast {i j : Nat} {v : Int64} (hi : i < 4) (hj : j < 4) (hv : Vd i v) : fX4_castTo (nI i) (nI j) v = fX1_castTo i j v ∧ Vd j (fX1_castTo i j v) := by
  have hlow : ∀ i, i = 2 ∨ i = 3 → (if nI i = (2:Int32) then (-149:Int32) else (-1074:Int32)) = iZ (lW i) := by
    intro i h; rcases h with rfl | rfl <;> decide
  have hw : ∀ i, i < 2 → ¬ fX1_isWhole i = 0 := by
    intro i h; rcases (show i = 0 ∨ i = 1 by omega) with rfl | rfl <;> decide
  have hf : ∀ i, i = 2 ∨ i = 3 → fX1_isWhole i = 0 := by
    intro i h; rcases h with rfl | rfl <;> decide
  have hne : ∀ a b : Nat, a < 4 → b < 4 → (nI a = nI b ↔ a = b) := by
    intro a b h1 h2
    constructor
    · intro h
      have h2 := congrArg Int32.toInt h
      rw [nI_tI (by omega), nI_tI (by omega)] at h2
      omega
    · intro h; rw [h]
  unfold fX1_castTo
  by_cases i2 : i < 2
  · rw [if_neg (hw i i2)]
    have l2 : nI i < (2:Int32) := by rcases (show i = 0 ∨ i = 1 by omega) with rfl | rfl <;> decide
    by_cases j2 : j < 2
    · rw [if_neg (hw j j2)]
      refine ⟨?_, vd_small j2 (fit_fit _)⟩
      unfold fX4_castTo
      rcases (show i = 0 ∨ i = 1 by omega) with rfl | rfl <;> rcases (show j = 0 ∨ j = 1 by omega) with rfl | rfl
      · rw [if_pos rfl, hv.1]
      · rw [if_neg (by decide), if_pos (by decide), if_pos (by decide), fit64 (by decide)]
      · rw [if_neg (by decide), if_neg (by decide), if_pos (by decide), if_pos (by decide), fit32 (by decide)]
      · rw [if_pos rfl, hv.1]
    · have h3 : j = 2 ∨ j = 3 := by omega
      rw [if_pos (hf j h3)]
      obtain ⟨q1, q2⟩ := q_wf (v := v) h3
      refine ⟨?_, q2⟩
      rw [← q1]
      unfold fX4_castTo
      have j0 : ¬ nI j = 0 := by rcases h3 with rfl | rfl <;> decide
      have j1 : ¬ nI j = 1 := by rcases h3 with rfl | rfl <;> decide
      rw [if_neg (fun g => by have := (hne i j hi hj).mp g; omega), if_pos l2, if_neg j0, if_pos l2, if_neg j1, ite_self]
  · have h3 : i = 2 ∨ i = 3 := by omega
    rw [if_pos (hf i h3)]
    obtain ⟨b, m, hm, rfl⟩ := vd_ex h3 hv
    have hb := bI_lt (i := i)
    have l2 : ¬ nI i < (2:Int32) := by rcases h3 with rfl | rfl <;> decide
    have i0 : ¬ nI i = 0 := by rcases h3 with rfl | rfl <;> decide
    have hC : ¬ i = j → fX4_castTo (nI i) (nI j) (sg i b m) = fX4_castTo_97 (nI i) (nI j) (sg i b m) (iZ (lW i)) := by
      intro h
      unfold fX4_castTo
      rw [if_neg (fun g => h ((hne i j hi hj).mp g)), if_neg i0, if_neg l2, if_neg l2, hlow i h3]
    by_cases j2 : j < 2
    · rw [if_neg (hw j j2), hC (by omega), q_cut h3 j2 (by omega), q_held h3 j2 hm]
      exact ⟨rfl, cR_fit h3 j2 (by omega)⟩
    · have h3j : j = 2 ∨ j = 3 := by omega
      rw [if_pos (hf j h3j)]
      obtain ⟨q1, q2, q3⟩ := q_refit (b := b) h3 h3j hm
      refine ⟨?_, q2⟩
      by_cases hij : i = j
      · rw [q3 hij]
        subst hij
        unfold fX4_castTo
        rw [if_pos rfl]
      · rw [hC hij, q1]
end PH
