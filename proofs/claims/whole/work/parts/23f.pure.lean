section PV
theorem sg_fit {i m : Nat} {b : Bool} (hi : i = 2 ∨ i = 3) (hm : m < bB i) : fX1_fitted i (sg i b m) = sg i b m := by
  rcases hi with rfl | rfl
  · rw [fit32 (by decide)]
    exact sg_asC (i := 2) (b := b) (Or.inl rfl) hm
  · exact fit64 (by decide) _
theorem ill_sg {i m : Nat} {b : Bool} (hi : i = 2 ∨ i = 3) (hm : m < bB i) : fX1_isIll i (sg i b m) = 0 ↔ m ≤ bI i := by
  unfold fX1_isIll
  rw [if_pos (show fX1_isWhole i = 0 by rcases hi with rfl | rfl <;> decide), sg_and hi hm, inf_lN hi]
  by_cases h : bI i < m
  · rw [if_pos ((lN_lB bI_lt hm).mpr h)]
    exact ⟨fun g => absurd g (by decide), fun g => by omega⟩
  · rw [if_neg (fun g => h ((lN_lB bI_lt hm).mp g))]
    exact ⟨fun _ => by omega, fun _ => rfl⟩
theorem vd_sg {i m : Nat} {b : Bool} (hi : i = 2 ∨ i = 3) (hm : m ≤ bI i) : Vd i (sg i b m) := by
  have h := bI_lt (i := i)
  exact ⟨sg_fit hi (by omega), (ill_sg hi (by omega)).mpr hm⟩
theorem vd_ex {i : Nat} {v : Int64} (hi : i = 2 ∨ i = 3) (h : Vd i v) : ∃ (b : Bool) (m : Nat), m ≤ bI i ∧ v = sg i b m := by
  obtain ⟨b, m, hm, rfl⟩ := sg_ex hi h.1
  exact ⟨b, m, (ill_sg hi hm).mp h.2, rfl⟩
theorem vd_small {i : Nat} {v : Int64} (hi : i < 2) (h : fX1_fitted i v = v) : Vd i v := by
  refine ⟨h, ?_⟩
  unfold fX1_isIll
  rw [if_neg (show ¬ fX1_isWhole i = 0 by rcases (show i = 0 ∨ i = 1 by omega) with rfl | rfl <;> decide)]
theorem fit_fit {i : Nat} (v : Int64) : fX1_fitted i (fX1_fitted i v) = fX1_fitted i v := by
  by_cases h : so_bits i = 32
  · rw [fit32 h, fit32 h, Int32.toInt32_toInt64]
  · rw [fit64 h, fit64 h]
theorem with_sg {i m : Nat} {b : Bool} {sd : Int64} (hi : i = 2 ∨ i = 3) (hm : m < bB i) : fX1_withSignOf i sd (sg i b m) = sg i (decide (sd < 0)) m := by
  rw [← sg_with (sd := sd) hi hm]
  unfold fX1_withSignOf
  rw [sg_and hi hm, sg_mk hi hm]
theorem other_sg {i m : Nat} {b : Bool} (hi : i = 2 ∨ i = 3) (hm : m < bB i) : fX1_withOtherSign i (sg i b m) = sg i (!b) m := by
  unfold fX1_withOtherSign
  rw [if_pos (show fX1_isWhole i = 0 by rcases hi with rfl | rfl <;> decide), sg_xor hi hm]
theorem neg_sg {i m : Nat} {b : Bool} (hi : i = 2 ∨ i = 3) (hm : m < bB i) : fX4_negative (nI i) (sg i b m) = sg i (!b) m := by
  unfold fX4_negative
  rcases hi with rfl | rfl
  · have h1 : m < 2 ^ 31 := hm
    have a1 : ∀ v, fX4_asCode (nI 2) v = v.toInt32.toInt64 := fun _ => rfl
    have a2 : ∀ v, fX4_bare (nI 2) v = v &&& lN (2 ^ 32 - 1) := by
      intro v
      unfold fX4_bare
      rw [if_pos (by decide), show (4294967295:Int64) = lN (2 ^ 32 - 1) by decide +kernel]
    have a3 : fX4_signBit (nI 2) = lN (2 ^ 31 * 1) := by decide +kernel
    rw [if_neg (by decide), if_neg (by decide), a1, a2, a3]
    unfold sg
    cases b
    · rw [if_neg (by decide), lN_and (by omega) (by decide), Nat.and_two_pow_sub_one_eq_mod, Nat.mod_eq_of_lt (by omega), lN_xor (by omega) (by decide), xor_add h1, show m + 2 ^ 31 * 1 = m + 2147483648 + 2 ^ 32 * 0 by omega, lN_32n _ _ h1]
      rfl
    · rw [if_pos rfl, show (18446744073709551616 - bB 2) = 18446744071562067968 from rfl, lN_and (by omega) (by decide), Nat.and_two_pow_sub_one_eq_mod, show (m + 18446744071562067968) % 2 ^ 32 = m + 2 ^ 31 * 1 by omega, lN_xor (by omega) (by decide), ← xor_add h1, Nat.xor_assoc, Nat.xor_self, Nat.xor_zero, if_neg (by decide)]
      exact lN_32 m 0 h1
  · have a1 : ∀ v, fX4_asCode (nI 3) v = v := fun _ => rfl
    have a2 : ∀ v, fX4_bare (nI 3) v = v := fun _ => rfl
    have a3 : fX4_signBit (nI 3) = so_mask 3 ^^^ (-1:Int64) := by decide +kernel
    rw [if_neg (by decide), if_neg (by decide), a1, a2, a3]
    exact sg_xor (i := 3) (Or.inr rfl) hm
theorem kd9 {i : Nat} {kd : Int32} (h : ¬ fX1_hasKind i kd = 0) : (kd = 0 ∨ kd = 1 ∨ kd = 2 ∨ kd = 8) ∨ (fX1_isWhole i = 0 ∧ (kd = 3 ∨ kd = 4 ∨ kd = 5 ∨ kd = 6 ∨ kd = 7)) := by
  have e3 : (3:Int32).toInt = 3 := rfl
  have e8 : (8:Int32).toInt = 8 := rfl
  have e7 : (7:Int32).toInt = 7 := rfl
  have e0 : (0:Int32).toInt = 0 := rfl
  have e1 : (1:Int32).toInt = 1 := rfl
  have e2 : (2:Int32).toInt = 2 := rfl
  have e4 : (4:Int32).toInt = 4 := rfl
  have e5 : (5:Int32).toInt = 5 := rfl
  have e6 : (6:Int32).toInt = 6 := rfl
  unfold fX1_hasKind at h
  simp only [Int32.lt_iff_toInt_lt, ← Int32.toInt_inj, e0, e1, e2, e3, e4, e5, e6, e7, e8] at h ⊢
  by_cases c1 : kd.toInt < 3
  · rw [if_pos c1] at h
    by_cases c2 : kd.toInt < 0
    · rw [if_pos c2] at h; exact absurd rfl h
    · left; omega
  · rw [if_neg c1] at h
    by_cases c2 : 7 < kd.toInt
    · rw [if_pos c2, if_neg (by omega)] at h
      by_cases c3 : 8 < kd.toInt
      · rw [if_pos c3] at h; exact absurd rfl h
      · left; omega
    · rw [if_neg c2] at h
      right
      by_cases c4 : (fX1_isWhole i).toInt = 0
      · exact ⟨c4, by omega⟩
      · rw [if_neg c4] at h; exact absurd rfl h
theorem th_e {i : Nat} {kn v : Int64} : fX1_through i 0 kn v = (if v < 0 then fX1_withOtherSign i v else v) ∧ fX1_through i 1 kn v = (if fX1_isLess i kn v = 0 then v else kn) ∧ fX1_through i 2 kn v = (if fX1_isLess i v kn = 0 then v else kn) ∧ fX1_through i 8 kn v = fX1_withOtherSign i v ∧ fX1_through i 6 kn v = (if fX1_isZero i v = 0 then fX1_withSignOf i v (fX1_one i) else v) ∧ fX1_through i 7 kn v = fX1_withSignOf i kn v ∧ (∀ kd, kd = 3 ∨ kd = 4 ∨ kd = 5 → fX1_through i kd kn v = fX1_withSignOf i v (fX1_wholeSize i kd v)) := by
  unfold fX1_through
  refine ⟨by rw [if_pos rfl], by rw [if_neg (by decide), if_pos rfl], by rw [if_neg (by decide), if_neg (by decide), if_pos rfl], by rw [if_neg (by decide), if_neg (by decide), if_neg (by decide), if_neg (by decide), if_neg (by decide), if_neg (by decide), if_neg (by decide), if_neg (by decide), if_pos rfl], by rw [if_neg (by decide), if_neg (by decide), if_neg (by decide), if_neg (by decide), if_neg (by decide), if_neg (by decide), if_pos rfl], by rw [if_neg (by decide), if_neg (by decide), if_neg (by decide), if_neg (by decide), if_neg (by decide), if_neg (by decide), if_neg (by decide), if_pos rfl], ?_⟩
  rintro kd (rfl | rfl | rfl)
  · rw [if_neg (by decide), if_neg (by decide), if_neg (by decide), if_pos rfl]
  · rw [if_neg (by decide), if_neg (by decide), if_neg (by decide), if_neg (by decide), if_pos rfl]
  · rw [if_neg (by decide), if_neg (by decide), if_neg (by decide), if_neg (by decide), if_neg (by decide), if_pos rfl]
theorem wk_e {w : Int32} {kn v : Int64} : fX4_works w 0 v kn = fX4_upright w v ∧ fX4_works w 1 v kn = (if 0 < fX4_order w v kn then kn else v) ∧ fX4_works w 2 v kn = (if fX4_order w v kn < 0 then kn else v) ∧ fX4_works w 8 v kn = fX4_negative w v ∧ fX4_works w 6 v kn = fX4_signOf w v ∧ fX4_works w 7 v kn = (if fX4_below w kn = 0 then fX4_asCode w (fX4_size w v) else fX4_asCode w (fX4_size w v ||| fX4_signBit w)) ∧ (∀ kd, kd = 3 ∨ kd = 4 ∨ kd = 5 → fX4_works w kd v kn = fX4_whole w v kd) := by
  unfold fX4_works
  refine ⟨by rw [if_pos rfl], by rw [if_neg (by decide), if_pos rfl], by rw [if_neg (by decide), if_neg (by decide), if_pos rfl], by rw [if_neg (by decide), if_neg (by decide), if_neg (by decide), if_neg (by decide), if_neg (by decide), if_neg (by decide), if_neg (by decide), if_neg (by decide)], by rw [if_neg (by decide), if_neg (by decide), if_neg (by decide), if_neg (by decide), if_neg (by decide), if_neg (by decide), if_pos rfl], by rw [if_neg (by decide), if_neg (by decide), if_neg (by decide), if_neg (by decide), if_neg (by decide), if_neg (by decide), if_neg (by decide), if_pos rfl], ?_⟩
  rintro kd (rfl | rfl | rfl)
  · rw [if_neg (by decide), if_neg (by decide), if_neg (by decide), if_pos rfl]
  · rw [if_neg (by decide), if_neg (by decide), if_neg (by decide), if_neg (by decide), if_pos rfl]
  · rw [if_neg (by decide), if_neg (by decide), if_neg (by decide), if_neg (by decide), if_neg (by decide), if_pos rfl]
theorem q_12 {i : Nat} {kd : Int32} {kn v : Int64} (hi : i < 4) (hv : Vd i v) (hk : Vd i kn) (h : kd = 1 ∨ kd = 2) : fX4_works (nI i) kd v kn = fX1_through i kd kn v ∧ Vd i (fX1_through i kd kn v) := by
  obtain ⟨-, t1, t2, -⟩ := th_e (i := i) (kn := kn) (v := v)
  obtain ⟨-, k1, k2, -⟩ := wk_e (w := nI i) (kn := kn) (v := v)
  rcases h with rfl | rfl
  · rw [t1, k1]
    have h := q_gt hi hv.1 hk.1
    by_cases c : fX1_isLess i kn v = 0
    · rw [if_pos c, if_neg (fun g => h.mp g c)]; exact ⟨rfl, hv⟩
    · rw [if_neg c, if_pos (h.mpr c)]; exact ⟨rfl, hk⟩
  · rw [t2, k2]
    have h := q_lt hi hv.1 hk.1
    by_cases c : fX1_isLess i v kn = 0
    · rw [if_pos c, if_neg (fun g => h.mp g c)]; exact ⟨rfl, hv⟩
    · rw [if_neg c, if_pos (h.mpr c)]; exact ⟨rfl, hk⟩
theorem q_thr {i : Nat} {kd : Int32} {kn v : Int64} (hi : i < 4) (hkd : ¬ fX1_hasKind i kd = 0) (hv : Vd i v) (hk : Vd i kn) : fX4_works (nI i) kd v kn = fX1_through i kd kn v ∧ Vd i (fX1_through i kd kn v) := by
  obtain ⟨t0, t1, t2, t8, t6, t7, t3⟩ := th_e (i := i) (kn := kn) (v := v)
  obtain ⟨k0, k1, k2, k8, k6, k7, k3⟩ := wk_e (w := nI i) (kn := kn) (v := v)
  have small : i < 2 → fX4_negative (nI i) v = fX1_withOtherSign i v ∧ Vd i (fX1_withOtherSign i v) := by
    intro h2
    have e : fX1_withOtherSign i v = fX1_fitted i (-v) := by
      unfold fX1_withOtherSign
      rw [if_neg (show ¬ fX1_isWhole i = 0 by rcases (show i = 0 ∨ i = 1 by omega) with rfl | rfl <;> decide)]
    rw [e]
    refine ⟨?_, vd_small h2 (fit_fit _)⟩
    unfold fX4_negative
    rcases (show i = 0 ∨ i = 1 by omega) with rfl | rfl
    · rw [if_pos (by decide), fit32 (by decide), Int64.toInt32_neg]
    · rw [if_neg (by decide), if_pos (by decide), fit64 (by decide)]
  have smallU : i < 2 → fX4_upright (nI i) v = if v < 0 then fX4_negative (nI i) v else v := by
    intro h2
    unfold fX4_upright
    rw [if_pos (show nI i < 2 by rcases (show i = 0 ∨ i = 1 by omega) with rfl | rfl <;> decide)]
  rcases kd9 hkd with h | ⟨hw, h⟩
  · by_cases h2 : i < 2
    · obtain ⟨s1, s2⟩ := small h2
      rcases h with rfl | rfl | rfl | rfl
      · rw [k0, t0, smallU h2]
        by_cases c : v < 0
        · rw [if_pos c, if_pos c]; exact ⟨s1, s2⟩
        · rw [if_neg c, if_neg c]; exact ⟨rfl, hv⟩
      · exact q_12 hi hv hk (Or.inl rfl)
      · exact q_12 hi hv hk (Or.inr rfl)
      · rw [k8, t8]; exact ⟨s1, s2⟩
    · have h3 : i = 2 ∨ i = 3 := by omega
      obtain ⟨b, m, hm, rfl⟩ := vd_ex h3 hv
      have hB := bI_lt (i := i)
      have hm' : m < bB i := by omega
      rcases h with rfl | rfl | rfl | rfl
      · have e : fX4_upright (nI i) (sg i b m) = sg i false m := by
          unfold fX4_upright
          rw [if_neg (show ¬ nI i < 2 by rcases h3 with rfl | rfl <;> decide), sg_size h3 hm']
          exact sg_asC (b := false) h3 hm'
        rw [k0, t0, e, other_sg h3 hm']
        have hn := sg_neg (b := b) h3 hm'
        cases b
        · rw [if_neg (fun g => by cases hn.mp g)]; exact ⟨rfl, hv⟩
        · rw [if_pos (hn.mpr rfl)]; exact ⟨rfl, vd_sg h3 hm⟩
      · exact q_12 hi hv hk (Or.inl rfl)
      · exact q_12 hi hv hk (Or.inr rfl)
      · rw [k8, t8, other_sg h3 hm', neg_sg h3 hm']; exact ⟨rfl, vd_sg h3 hm⟩
  · have h3 : i = 2 ∨ i = 3 := by
      rcases i4 hi with rfl | rfl | rfl | rfl
      · exact absurd hw (by decide)
      · exact absurd hw (by decide)
      · exact Or.inl rfl
      · exact Or.inr rfl
    obtain ⟨b, m, hm, rfl⟩ := vd_ex h3 hv
    obtain ⟨b', m', hm2, rfl⟩ := vd_ex h3 hk
    have hB := bI_lt (i := i)
    have hm' : m < bB i := by omega
    have hm2' : m' < bB i := by omega
    have hn := sg_neg (b := b) h3 hm'
    have hn2 := sg_neg (b := b') h3 hm2'
    have hdec : decide (sg i b m < 0) = b := by cases b <;> simp_all
    have hdec2 : decide (sg i b' m' < 0) = b' := by cases b' <;> simp_all
    have wh : ∀ kd, kd = 3 ∨ kd = 4 ∨ kd = 5 → fX4_works (nI i) kd (sg i b m) (sg i b' m') = fX1_through i kd (sg i b' m') (sg i b m) ∧ Vd i (fX1_through i kd (sg i b' m') (sg i b m)) := by
      intro kd hkd
      obtain ⟨w1, w2⟩ := wS_lt (b := b) (kd := kd) h3 hm'
      rw [k3 kd hkd, t3 kd hkd, q_whole h3 hm', q_ws h3 hm', sg_with h3 w1, hdec]
      exact ⟨rfl, vd_sg h3 (w2 hm)⟩
    rcases h with rfl | rfl | rfl | rfl | rfl
    · exact wh _ (Or.inl rfl)
    · exact wh _ (Or.inr (Or.inl rfl))
    · exact wh _ (Or.inr (Or.inr rfl))
    · have eo : fX1_one i = lN (fB i * 2 ^ fF i) := by rcases h3 with rfl | rfl <;> decide +kernel
      have lo : fB i * 2 ^ fF i ≤ bI i := by rcases h3 with rfl | rfl <;> decide
      have lo' : fB i * 2 ^ fF i < bB i := by omega
      have e2 : (if nI i = (2:Int32) then (1065353216:Int64) else (4607182418800017408:Int64)) = lN (fB i * 2 ^ fF i) := by rcases h3 with rfl | rfl <;> decide +kernel
      have hs := sg_asS (b := b) h3 lo'
      rw [k6, t6]
      unfold fX4_signOf fX4_signOf_26 fX1_isZero
      rw [if_pos hw, sg_and h3 hm', sg_size h3 hm', sg_below h3 hm', e2, eo, sg_with h3 lo', hdec]
      have hB2 := bB_le (i := i)
      by_cases c : m = 0
      · subst c
        rw [if_pos (show lN 0 = (0:Int64) from rfl), if_pos (show lN 0 = (0:Int64) from rfl), if_neg (by decide)]
        exact ⟨rfl, hv⟩
      · rw [if_neg (fun g => c ((lN_z (by omega)).mp g)), if_neg (fun g => c ((lN_z (by omega)).mp g)), if_pos rfl]
        refine ⟨?_, vd_sg h3 lo⟩
        rw [← hs]
        cases b
        · simp
        · rw [if_pos rfl, if_neg (by decide), Int64.or_comm]; simp
    · have hs := sg_asS (b := b') h3 hm'
      rw [k7, t7, with_sg h3 hm', hdec2, sg_below h3 hm2', sg_size h3 hm', ← hs]
      refine ⟨?_, by rw [hs]; exact vd_sg h3 hm⟩
      cases b'
      · simp
      · rw [if_pos rfl, if_neg (by decide), Int64.or_comm]; simp
theorem q_ag {i : Nat} {f0 f1 : Nat → Int64} (hi : i < 4) (h0 : Vd i (f0 i)) (h1 : Vd i (f1 i)) : fX4_against f0 f1 i = fX3_against i (f0 i) (f1 i) := by
  generalize hw : f1 i = w at h1
  generalize hd : f0 i = d at h0
  unfold fX4_against fX4_against_79 fX3_against
  rw [hw, hd, q_ord hi h1.1 h0.1]
  have hl : ∀ x : Int32, (if fX1_isLess i w d = 0 then (1:Int32) else (-1:Int32)) = x ↔ (if (fX1_rank i w).toInt < (fX1_rank i d).toInt then (-1:Int32) else 1) = x := by
    intro x
    by_cases c : fX1_isLess i w d = 0
    · rw [if_pos c, if_neg (q_less.mp c)]
    · rw [if_neg c, if_pos (Decidable.not_not.mp (fun g => c (q_less.mpr g)))]
  by_cases c : w = d
  · subst c
    have e : (if (fX1_rank i w).toInt < (fX1_rank i w).toInt then (-1:Int32) else if w = w then 0 else 1) = 0 := by rw [if_neg (Int.lt_irrefl _), if_pos rfl]
    rw [e, if_pos rfl, if_pos rfl, ite_self]
  · rw [if_neg c, if_neg c]
    have hne : ¬ (if (fX1_rank i w).toInt < (fX1_rank i d).toInt then (-1:Int32) else 1) = 0 := by split <;> decide
    rw [if_neg hne]
    have hl2 : (if fX1_isLess i w d = 0 then (1:Int32) else (-1:Int32)) = (if (fX1_rank i w).toInt < (fX1_rank i d).toInt then (-1:Int32) else 1) := (hl _).mpr rfl
    rw [hl2]
    by_cases h2 : i < 2
    · have hz : ∀ v, fX1_isZero i v = if v = 0 then 1 else 0 := by
        intro v
        unfold fX1_isZero
        rw [if_neg (show ¬ fX1_isWhole i = 0 by rcases (show i = 0 ∨ i = 1 by omega) with rfl | rfl <;> decide)]
      rw [if_neg (show ¬ (1:Int32) < nI i by rcases (show i = 0 ∨ i = 1 by omega) with rfl | rfl <;> decide), if_pos rfl, hz, hz]
      by_cases c1 : w = 0
      · rw [if_pos c1, if_neg (show ¬ (1:Int32) = 0 by decide), if_neg (show ¬ d = 0 from fun g => c (c1.trans g.symm)), if_pos rfl]
      · rw [if_neg c1, if_pos rfl]
    · have h3 : i = 2 ∨ i = 3 := by omega
      obtain ⟨b, m, hm, rfl⟩ := vd_ex h3 h1
      obtain ⟨b', m', hm2, rfl⟩ := vd_ex h3 h0
      have hB := bI_lt (i := i)
      have hm' : m < bB i := by omega
      have hm2' : m' < bB i := by omega
      unfold fX1_isZero
      have hw0 : fX1_isWhole i = 0 := by rcases h3 with rfl | rfl <;> decide
      rw [if_pos hw0, if_pos hw0, if_pos (show (1:Int32) < nI i by rcases h3 with rfl | rfl <;> decide), sg_and h3 hm', sg_and h3 hm2', sg_size h3 hm', sg_size h3 hm2']
      by_cases c1 : lN m = 0
      · rw [if_pos c1, if_pos c1]
        by_cases c2 : lN m' = 0
        · rw [if_pos c2]; simp
        · rw [if_neg c2]; simp
      · rw [if_neg c1, if_neg c1]; simp
end PV
