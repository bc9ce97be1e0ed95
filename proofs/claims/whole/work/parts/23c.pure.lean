section PK
theorem i4 {i : Nat} (h : i < 4) : i = 0 ∨ i = 1 ∨ i = 2 ∨ i = 3 := by omega
theorem q_code {i : Nat} (hi : i < 4) (hh lo : Int32) : fX4_coded (nI i) hh lo = fX1_codeOf i hh lo := by
  unfold fX4_coded fX1_codeOf
  rcases i4 hi with rfl | rfl | rfl | rfl
  · rw [if_pos (by decide), if_pos (by decide)]
  · rw [if_neg (by decide), if_neg (by decide), if_neg (by decide)]
  · rw [if_neg (by decide), if_pos (by decide), if_pos (by decide)]
  · rw [if_neg (by decide), if_neg (by decide), if_neg (by decide)]
theorem fit32 {i : Nat} (h : so_bits i = 32) (v : Int64) : fX1_fitted i v = v.toInt32.toInt64 := by
  unfold fX1_fitted; rw [if_pos h]
theorem fit64 {i : Nat} (h : ¬ so_bits i = 32) (v : Int64) : fX1_fitted i v = v := by
  unfold fX1_fitted; rw [if_neg h]
theorem q_fit {i : Nat} (hh lo : Int32) : fX1_fitted i (fX1_codeOf i hh lo) = fX1_codeOf i hh lo := by
  by_cases h : so_bits i = 32
  · rw [fit32 h]
    unfold fX1_codeOf
    rw [if_pos h, Int32.toInt32_toInt64]
  · exact fit64 h _
theorem end_lN {i : Nat} (hi : i = 2 ∨ i = 3) : fX4_endless (nI i) = lN (bI i) := by rcases hi with rfl | rfl <;> decide +kernel
theorem q_ill {i : Nat} {v : Int64} (hi : i < 4) (h : fX1_fitted i v = v) : fX4_isIll (nI i) v = fX1_isIll i v := by
  have main : i = 2 ∨ i = 3 → fX4_isIll (nI i) v = fX1_isIll i v := by
    intro h2
    obtain ⟨b, m, hm, rfl⟩ := sg_ex h2 h
    unfold fX4_isIll fX1_isIll
    rw [if_pos (show (1:Int32) < nI i by rcases h2 with rfl | rfl <;> decide), if_pos (show fX1_isWhole i = 0 by rcases h2 with rfl | rfl <;> decide), sg_size h2 hm, sg_and h2 hm, end_lN h2, inf_lN h2]
  rcases i4 hi with rfl | rfl | rfl | rfl
  · unfold fX4_isIll fX1_isIll; rw [if_neg (by decide), if_neg (by decide)]
  · unfold fX4_isIll fX1_isIll; rw [if_neg (by decide), if_neg (by decide)]
  · exact main (Or.inl rfl)
  · exact main (Or.inr rfl)
theorem q_kind {i : Nat} (hi : i < 4) (kd : Int32) : fX4_isKind (nI i) kd = fX1_hasKind i kd := by
  have e3 : (3:Int32).toInt = 3 := rfl
  have e9 : (9:Int32).toInt = 9 := rfl
  have e8 : (8:Int32).toInt = 8 := rfl
  have e7 : (7:Int32).toInt = 7 := rfl
  have e0 : (0:Int32).toInt = 0 := rfl
  rcases i4 hi with rfl | rfl | rfl | rfl
  · unfold fX4_isKind fX1_hasKind
    rw [if_neg (show ¬ (1:Int32) < nI 0 by decide), if_neg (show ¬ fX1_isWhole 0 = 0 by decide)]
    simp only [Int32.lt_iff_toInt_lt, ← Int32.toInt_inj, e3, e9, e8, e7, e0]
    repeat' split
    all_goals first | rfl | omega
  · unfold fX4_isKind fX1_hasKind
    rw [if_neg (show ¬ (1:Int32) < nI 1 by decide), if_neg (show ¬ fX1_isWhole 1 = 0 by decide)]
    simp only [Int32.lt_iff_toInt_lt, ← Int32.toInt_inj, e3, e9, e8, e7, e0]
    repeat' split
    all_goals first | rfl | omega
  · unfold fX4_isKind fX1_hasKind
    rw [if_pos (show (1:Int32) < nI 2 by decide), if_pos (show fX1_isWhole 2 = 0 by decide)]
    simp only [Int32.lt_iff_toInt_lt, ← Int32.toInt_inj, e3, e9, e8, e7, e0]
    repeat' split
    all_goals first | rfl | omega
  · unfold fX4_isKind fX1_hasKind
    rw [if_pos (show (1:Int32) < nI 3 by decide), if_pos (show fX1_isWhole 3 = 0 by decide)]
    simp only [Int32.lt_iff_toInt_lt, ← Int32.toInt_inj, e3, e9, e8, e7, e0]
    repeat' split
    all_goals first | rfl | omega
theorem q_wire (w : Int32) : fX4_isWire w = fX3_isWire w := rfl
theorem q_ped (n : Nat) (pl : Int32) : fX4_isPedal n pl = fX0_has n pl := rfl
theorem lN_not {m : Nat} (hm : m < 2 ^ 63) : (lN m ^^^ (-1:Int64)).toInt = -1 - (m : Int) := by
  show (lN m ^^^ (-1:Int64)).toBitVec.toInt = _
  rw [Int64.toBitVec_xor, lN_bv, show (-1:Int64).toBitVec = BitVec.allOnes 64 from by decide, BitVec.xor_allOnes, BitVec.toInt_eq_toNat_cond, BitVec.toNat_not, BitVec.toNat_ofNat, Nat.mod_eq_of_lt (by omega), if_neg (by omega)]
  omega
theorem bB_le {i : Nat} : bB i ≤ 2 ^ 63 := by unfold bB; split <;> decide
theorem sg_rank {i m : Nat} {b : Bool} (hi : i = 2 ∨ i = 3) (hm : m < bB i) : (fX1_rank i (sg i b m)).toInt = if b then -1 - (m : Int) else (m : Int) := by
  have hB := bB_le (i := i)
  unfold fX1_rank
  rw [if_pos (show fX1_isWhole i = 0 by rcases hi with rfl | rfl <;> decide)]
  have h1 := sg_neg (b := b) hi hm
  cases b
  · rw [if_neg (fun h => by cases h1.mp h), if_neg (by decide)]
    show (lN m).toInt = _
    rw [lN_tI (by omega), if_pos (by omega)]
  · rw [if_pos (h1.mpr rfl), if_pos rfl]
    have e : so_mask i = (so_mask i ^^^ (-1:Int64)) ^^^ (-1:Int64) := by rw [Int64.xor_assoc, Int64.xor_self, Int64.xor_zero]
    rw [e, ← Int64.xor_assoc, sg_xor hi hm]
    exact lN_not (m := m) (by omega)
theorem lN_ne {i m m' : Nat} (hm : m < bB i) (hm' : m' < bB i) : lN m = lN m' ↔ m = m' := by
  have hB := bB_le (i := i)
  exact lN_inj (by omega) (by omega)
theorem lN_lB {i m m' : Nat} (hm : m < bB i) (hm' : m' < bB i) : lN m < lN m' ↔ m < m' := by
  have hB := bB_le (i := i)
  exact lN_lt63 (by omega) (by omega)
/-- what the reference's order says, by the ranks -/
theorem q_ord {i : Nat} {a b : Int64} (hi : i < 4) (ha : fX1_fitted i a = a) (hb : fX1_fitted i b = b) : fX4_order (nI i) a b = if (fX1_rank i a).toInt < (fX1_rank i b).toInt then -1 else if a = b then 0 else 1 := by
  have small : i < 2 → fX4_order (nI i) a b = if (fX1_rank i a).toInt < (fX1_rank i b).toInt then -1 else if a = b then 0 else 1 := by
    intro h2
    have er : ∀ v, fX1_rank i v = v := by
      intro v
      unfold fX1_rank
      rw [if_neg (show ¬ fX1_isWhole i = 0 by rcases (show i = 0 ∨ i = 1 by omega) with rfl | rfl <;> decide)]
    unfold fX4_order
    rw [if_pos (show nI i < 2 by rcases (show i = 0 ∨ i = 1 by omega) with rfl | rfl <;> decide), er, er]
    simp only [Int64.lt_iff_toInt_lt]
  have main : i = 2 ∨ i = 3 → fX4_order (nI i) a b = if (fX1_rank i a).toInt < (fX1_rank i b).toInt then -1 else if a = b then 0 else 1 := by
    intro h2
    obtain ⟨p, m, hm, rfl⟩ := sg_ex h2 ha
    obtain ⟨q, n, hn, rfl⟩ := sg_ex h2 hb
    have hs := sg_inj (b := p) (b' := q) h2 hm hn
    rw [sg_rank h2 hm, sg_rank h2 hn]
    unfold fX4_order fX4_order_96
    rw [if_neg (show ¬ nI i < 2 by rcases h2 with rfl | rfl <;> decide), sg_below h2 hm, sg_below h2 hn, sg_size h2 hm, sg_size h2 hn]
    simp only [lN_ne hm hn, lN_lB hm hn, hs]
    cases p <;> cases q <;> simp <;> (try split) <;> (try split) <;> (try split) <;> (try split) <;> (try rfl) <;> omega
  rcases i4 hi with rfl | rfl | rfl | rfl
  · exact small (by omega)
  · exact small (by omega)
  · exact main (Or.inl rfl)
  · exact main (Or.inr rfl)
theorem rank_inj {i : Nat} {a b : Int64} (hi : i < 4) (ha : fX1_fitted i a = a) (hb : fX1_fitted i b = b) (h : (fX1_rank i a).toInt = (fX1_rank i b).toInt) : a = b := by
  have small : i < 2 → a = b := by
    intro h2
    have er : ∀ v, fX1_rank i v = v := by
      intro v
      unfold fX1_rank
      rw [if_neg (show ¬ fX1_isWhole i = 0 by rcases (show i = 0 ∨ i = 1 by omega) with rfl | rfl <;> decide)]
    rw [er, er] at h
    exact Int64.toInt_inj.mp h
  have main : i = 2 ∨ i = 3 → a = b := by
    intro h2
    obtain ⟨p, m, hm, rfl⟩ := sg_ex h2 ha
    obtain ⟨q, n, hn, rfl⟩ := sg_ex h2 hb
    rw [sg_rank h2 hm, sg_rank h2 hn] at h
    rw [sg_inj h2 hm hn]
    cases p <;> cases q <;> simp at h ⊢ <;> omega
  rcases i4 hi with rfl | rfl | rfl | rfl
  · exact small (by omega)
  · exact small (by omega)
  · exact main (Or.inl rfl)
  · exact main (Or.inr rfl)
theorem q_less {i : Nat} {a b : Int64} : fX1_isLess i a b = 0 ↔ ¬ (fX1_rank i a).toInt < (fX1_rank i b).toInt := by
  unfold fX1_isLess
  by_cases h : fX1_rank i a < fX1_rank i b
  · rw [if_pos h]
    exact ⟨fun g => absurd g (by decide), fun g => absurd (Int64.lt_iff_toInt_lt.mp h) g⟩
  · rw [if_neg h]
    exact ⟨fun _ g => h (Int64.lt_iff_toInt_lt.mpr g), fun _ => rfl⟩
theorem q_lt {i : Nat} {a b : Int64} (hi : i < 4) (ha : fX1_fitted i a = a) (hb : fX1_fitted i b = b) : fX4_order (nI i) a b < 0 ↔ ¬ fX1_isLess i a b = 0 := by
  rw [q_ord hi ha hb, q_less, Decidable.not_not]
  split
  · rename_i h; exact ⟨fun _ => h, fun _ => by decide⟩
  · rename_i h
    split
    · exact ⟨fun g => absurd g (by decide), fun g => absurd g h⟩
    · exact ⟨fun g => absurd g (by decide), fun g => absurd g h⟩
theorem q_gt {i : Nat} {a b : Int64} (hi : i < 4) (ha : fX1_fitted i a = a) (hb : fX1_fitted i b = b) : 0 < fX4_order (nI i) a b ↔ ¬ fX1_isLess i b a = 0 := by
  rw [q_ord hi ha hb, q_less, Decidable.not_not]
  split
  · rename_i h
    constructor
    · intro g; exact absurd g (by decide)
    · intro g; omega
  · rename_i h
    split
    · rename_i e; subst e
      constructor
      · intro g; exact absurd g (by decide)
      · intro g; omega
    · rename_i e
      constructor
      · intro _
        have : (fX1_rank i a).toInt ≠ (fX1_rank i b).toInt := fun g => e (rank_inj hi ha hb g)
        omega
      · intro _; decide
end PK
