/-! ===== PLAY: class and reference, round by round ===== -/
section RL1
theorem hp_0 {r : Nat} (h : r < 2 ^ 31) : fX2_hasPeaks r = 0 ↔ r = 0 := by
  unfold fX2_hasPeaks
  have e : (0:Int32) < nI r ↔ 0 < r := by rw [Int32.lt_iff_toInt_lt, nI_tI h, show (0:Int32).toInt = 0 from rfl]; omega
  by_cases c : 0 < r
  · rw [if_pos (e.mpr c)]; exact ⟨fun g => absurd g (by decide), fun g => by omega⟩
  · rw [if_neg (fun g => c (e.mp g))]; exact ⟨fun _ => by omega, fun _ => rfl⟩
theorem rd_W {i n : Nat} {ki kn on g8 g9 g11} {wt : Int64} (hi : i < 4) (h : RP i (12 * i) n ki kn on g8 g9 g11) (hw : Vd i wt) : ∀ k, k ≤ n → mW i g8 g9 g11 wt k = rW i ki kn on wt k ∧ Vd i (rW i ki kn on wt k)
  | 0, _ => ⟨rfl, hw⟩
  | k + 1, hk => by
    obtain ⟨e1, e2⟩ := rd_W hi h hw k (by omega)
    obtain ⟨a1, a2, a3, a4, a5⟩ := h.2.1 k (by omega)
    rw [mW, rW, ← a3, ← a1, ← a2, e1]
    by_cases c : on k = 0
    · rw [if_pos c, if_pos c]; exact ⟨rfl, e2⟩
    · rw [if_neg c, if_neg c]; exact q_thr hi a4 e2 a5
theorem rd_C {i n : Nat} {ki kn on g8 g9 g11} {wt : Int64} (hi : i < 4) (h : RP i (12 * i) n ki kn on g8 g9 g11) (hw : Vd i wt) : ∀ k, k ≤ n → mC i g8 g9 g11 wt k = rC i ki kn on wt k
  | 0, _ => rfl
  | k + 1, hk => by
    rw [mC, rC, rd_C hi h hw k (by omega), (rd_W hi h hw k (by omega)).1, (rd_W hi h hw (k + 1) hk).1]
    by_cases c : rW i ki kn on wt (k + 1) = rW i ki kn on wt k
    · rw [if_pos c, if_pos c, Int32.add_zero]
    · rw [if_neg c, if_neg c]
def RS (K i n r : Nat) (dr d : Int64) (s : PST) (t : MST) : Prop :=
  RQ K i r dr s.2.1 s.2.2.1 s.2.2.2.1 d (t.1 i) (t.2.1 i) (t.2.2.1 i) (t.2.2.2.1 i) (t.2.2.2.2.2.1 i) ∧ s.1 = t.2.2.2.2.1 i ∧ RO s.1 n i s.2.2.2.2.1 s.2.2.2.2.2 t.2.2.2.2.2.2.1 t.2.2.2.2.2.2.2
theorem rs_step {K i n r : Nat} {dr d : Int64} {s : PST} {t : MST} {ki kn on g8 g9 g11} (hi : i < 4) (hK : K < 2 ^ 30) (h : RP i (12 * i) n ki kn on g8 g9 g11) (hs : RS K i n r dr d s t) : RS (K + 1) i n (r + 1) dr d (rdS i n ki kn on r s) (mrS i n g8 g9 g11 t) ∧ mC i g8 g9 g11 (t.1 i) n = rC i ki kn on s.2.1 n := by
  obtain ⟨⟨q1, q2, q3, q4, q5, q6, q7, q8⟩, h2, h3⟩ := hs
  have hW := fun k (hk : k ≤ n) => rd_W hi h q6 k hk
  have hwn := hW n (Nat.le_refl _)
  rw [← q2]
  refine ⟨⟨⟨q1, ?_, ?_, by omega, q5, hwn.2, fun g => by omega, fun _ => ?_⟩, ?_, ?_⟩, rd_C hi h q6 n (Nat.le_refl _)⟩
  · show rW i ki kn on s.2.1 n = vp_updL t.1 i (mW i g8 g9 g11 (t.1 i) n) i
    rw [uL_s, ← q2, hwn.1]
  · show upd t.2.2.2.1 i (t.2.2.2.1 i + 1) i = nI (r + 1)
    rw [uI_s, q3, nI_1]
  · refine ⟨uI_s _ _ _, ?_, ?_, ?_, ?_⟩
    · show pkG i r s.2.2.1 (rW i ki kn on s.2.1 n) = (if (t.2.2.2.2.2.1 i) = 0 then (vp_updL t.2.1 i (mW i g8 g9 g11 (t.1 i) n)) else (if 0 < (fX4_order (nI i) (mW i g8 g9 g11 (t.1 i) n) (t.2.1 i)) then (vp_updL t.2.1 i (mW i g8 g9 g11 (t.1 i) n)) else t.2.1)) i
      rw [← q2, hwn.1]
      unfold pkG
      by_cases c : r = 0
      · rw [if_pos ((hp_0 (by omega)).mpr c), if_pos (q7 c), uL_s]
      · obtain ⟨p1, p2, p3, p4, p5⟩ := q8 c
        rw [if_neg (fun g => c ((hp_0 (by omega)).mp g)), p1, if_neg (show ¬ (1:Int32) = 0 by decide), ← p2]
        have := q_gt hi hwn.2.1 p4.1
        by_cases c2 : fX1_isLess i s.2.2.1 (rW i ki kn on s.2.1 n) = 0
        · rw [if_pos c2, if_neg (fun g => this.mp g c2), p2]
        · rw [if_neg c2, if_pos (this.mpr c2), uL_s]
    · show pkL i r s.2.2.2.1 (rW i ki kn on s.2.1 n) = (if (t.2.2.2.2.2.1 i) = 0 then (vp_updL t.2.2.1 i (mW i g8 g9 g11 (t.1 i) n)) else (if (fX4_order (nI i) (mW i g8 g9 g11 (t.1 i) n) (t.2.2.1 i)) < 0 then (vp_updL t.2.2.1 i (mW i g8 g9 g11 (t.1 i) n)) else t.2.2.1)) i
      rw [← q2, hwn.1]
      unfold pkL
      by_cases c : r = 0
      · rw [if_pos ((hp_0 (by omega)).mpr c), if_pos (q7 c), uL_s]
      · obtain ⟨p1, p2, p3, p4, p5⟩ := q8 c
        rw [if_neg (fun g => c ((hp_0 (by omega)).mp g)), p1, if_neg (show ¬ (1:Int32) = 0 by decide), ← p3]
        have := q_lt hi hwn.2.1 p5.1
        by_cases c2 : fX1_isLess i (rW i ki kn on s.2.1 n) s.2.2.2.1 = 0
        · rw [if_pos c2, if_neg (fun g => this.mp g c2), p3]
        · rw [if_neg c2, if_pos (this.mpr c2), uL_s]
    · show Vd i (pkG i r s.2.2.1 (rW i ki kn on s.2.1 n))
      unfold pkG
      by_cases c : r = 0
      · rw [if_pos ((hp_0 (by omega)).mpr c)]; exact hwn.2
      · rw [if_neg (fun g => c ((hp_0 (by omega)).mp g))]
        split
        · exact (q8 c).2.2.2.1
        · exact hwn.2
    · show Vd i (pkL i r s.2.2.2.1 (rW i ki kn on s.2.1 n))
      unfold pkL
      by_cases c : r = 0
      · rw [if_pos ((hp_0 (by omega)).mpr c)]; exact hwn.2
      · rw [if_neg (fun g => c ((hp_0 (by omega)).mp g))]
        split
        · exact (q8 c).2.2.2.2
        · exact hwn.2
  · show (1:Int32) = upd t.2.2.2.2.1 i (1:Int32) i
    rw [uI_s]
  · intro _ k hk
    show mx n (rO i ki kn on s.2.1) _ k = mo (12 * i) n (mO i g8 g9 g11 (t.1 i)) _ (12 * i + k) ∧ mx n (rL i ki kn on s.2.1) _ k = mo (12 * i) n (mL i g8 g9 g11 (t.1 i)) _ (12 * i + k)
    rw [mx_i hk, mx_i hk, mo_i hk, mo_i hk, ← q2]
    unfold rO mO rL mL
    rw [(hW (k + 1) (by omega)).1, (hW k (by omega)).1]
    exact ⟨rfl, rfl⟩
/-- what a play leaves as it was -/
def Ot (i : Nat) (t t' : MST) : Prop := (∀ k, k ≠ i → t'.1 k = t.1 k ∧ t'.2.1 k = t.2.1 k ∧ t'.2.2.1 k = t.2.2.1 k ∧ t'.2.2.2.1 k = t.2.2.2.1 k ∧ t'.2.2.2.2.1 k = t.2.2.2.2.1 k ∧ t'.2.2.2.2.2.1 k = t.2.2.2.2.2.1 k) ∧ ∀ k, k < 12 * i ∨ 12 * i + 12 ≤ k → t'.2.2.2.2.2.2.1 k = t.2.2.2.2.2.2.1 k ∧ t'.2.2.2.2.2.2.2 k = t.2.2.2.2.2.2.2 k
theorem ot_step {i n : Nat} {t t0 : MST} {g8 g9 g11} (hn : n ≤ 12) (h : Ot i t0 t) : Ot i t0 (mrS i n g8 g9 g11 t) := by
  refine ⟨fun k hk => ?_, fun k hk => ?_⟩
  · obtain ⟨a1, a2, a3, a4, a5, a6⟩ := h.1 k hk
    refine ⟨(uL_o _ _ hk).trans a1, ?_, ?_, (uI_o _ _ hk).trans a4, (uI_o _ _ hk).trans a5, (uI_o _ _ hk).trans a6⟩
    · show (if (t.2.2.2.2.2.1 i) = 0 then (vp_updL t.2.1 i (mW i g8 g9 g11 (t.1 i) n)) else (if 0 < (fX4_order (nI i) (mW i g8 g9 g11 (t.1 i) n) (t.2.1 i)) then (vp_updL t.2.1 i (mW i g8 g9 g11 (t.1 i) n)) else t.2.1)) k = _
      split
      · rw [uL_o _ _ hk]; exact a2
      · split
        · rw [uL_o _ _ hk]; exact a2
        · exact a2
    · show (if (t.2.2.2.2.2.1 i) = 0 then (vp_updL t.2.2.1 i (mW i g8 g9 g11 (t.1 i) n)) else (if (fX4_order (nI i) (mW i g8 g9 g11 (t.1 i) n) (t.2.2.1 i)) < 0 then (vp_updL t.2.2.1 i (mW i g8 g9 g11 (t.1 i) n)) else t.2.2.1)) k = _
      split
      · rw [uL_o _ _ hk]; exact a3
      · split
        · rw [uL_o _ _ hk]; exact a3
        · exact a3
  · obtain ⟨a1, a2⟩ := h.2 k hk
    exact ⟨(mo_o (by omega)).trans a1, (mo_o (by omega)).trans a2⟩
theorem rs_all {K i n r : Nat} {dr d : Int64} {s : PST} {t : MST} {ki kn on g8 g9 g11} (hi : i < 4) (hK : K < 2 ^ 29) (h : RP i (12 * i) n ki kn on g8 g9 g11) (hs : RS K i n r dr d s t) : ∀ q, q ≤ 50 → RS (K + q) i n (r + q) dr d (plS i n ki kn on r s q) (mpS i n g8 g9 g11 t q) ∧ mpC i n g8 g9 g11 t q = plC i n ki kn on r s q ∧ Ot i t (mpS i n g8 g9 g11 t q)
  | 0, _ => ⟨hs, rfl, fun _ _ => ⟨rfl, rfl, rfl, rfl, rfl, rfl⟩, fun _ _ => ⟨rfl, rfl⟩⟩
  | q + 1, hq => by
    obtain ⟨e1, e2, e3⟩ := rs_all hi hK h hs q (by omega)
    obtain ⟨b1, b2⟩ := rs_step hi (by omega) h e1
    refine ⟨b1, ?_, ot_step h.1 e3⟩
    rw [mpC, plC, e2, b2]
theorem sm_play {K i : Nat} {V : Nat → WV} {M : MV} (q : Nat) (hq : q ≤ 50) (hK : K < 2 ^ 29) (h : Rel K V M) (hi : i < 4) :
    fX4_play (m_f1 M) (m_f2 M) (m_f3 M) (m_f4 M) (m_f6 M) (m_f7 M) (m_f8 M) (m_f9 M) (m_f10 M) (m_f11 M) (m_f12 M) i (v_n (V i)) q = fX3_play i (v_tr (V i)) (v_wt (V i)) (v_rd (V i)) (v_gr (V i)) (v_le (V i)) (v_n (V i)) (v_ki (V i)) (v_kn (V i)) (v_on (V i)) (v_ou (V i)) (v_li (V i)) q ∧ ∀ s : PST, ∀ t : MST, s = plS i (v_n (V i)) (v_ki (V i)) (v_kn (V i)) (v_on (V i)) (v_rd (V i)) (v_tr (V i), v_wt (V i), v_gr (V i), v_le (V i), v_ou (V i), v_li (V i)) q → t = mpS i (v_n (V i)) (m_f8 M) (m_f9 M) (m_f11 M) (m_f1 M, m_f2 M, m_f3 M, m_f4 M, m_f6 M, m_f7 M, m_f10 M, m_f12 M) q →
    Rel (K + 50) (setV V i (s.1, v_dr (V i), s.2.1, v_rd (V i) + q, s.2.2.1, s.2.2.2.1, v_n (V i), v_ki (V i), v_kn (V i), v_on (V i), s.2.2.2.2.1, s.2.2.2.2.2, v_pn (V i), v_pki (V i), v_pkn (V i), v_pon (V i)))
      (m_f0 M, t.1, t.2.1, t.2.2.1, t.2.2.2.1, m_f5 M, t.2.2.2.2.1, t.2.2.2.2.2.1, m_f8 M, m_f9 M, t.2.2.2.2.2.2.1, m_f11 M, t.2.2.2.2.2.2.2, m_f13 M, m_f14 M, m_f15 M, m_f16 M, (0:Int32)) := by
  obtain ⟨h1, h2, h3, h4, h5, h6⟩ := h.1 i hi
  obtain ⟨e1, e2, e3⟩ := rs_all (t := (m_f1 M, m_f2 M, m_f3 M, m_f4 M, m_f6 M, m_f7 M, m_f10 M, m_f12 M)) (s := (v_tr (V i), v_wt (V i), v_gr (V i), v_le (V i), v_ou (V i), v_li (V i))) hi hK h4 ⟨h1, h2, h5⟩ q hq
  refine ⟨e2, ?_⟩
  intro s t hs ht
  rw [← hs, ← ht] at e1
  rw [← ht] at e3
  refine Rel.at h hi ⟨e1.1.up (by omega), e1.2.1, h3, h4, e1.2.2, h6⟩ (fun k hk hki => ?_) h.2.1 h.2.2
  obtain ⟨a1, a2, a3, a4, a5, a6⟩ := e3.1 k hki
  refine ⟨⟨rfl, a1, a2, a3, a4, rfl, a5, a6⟩, fun p hp => ?_, fun _ _ => ⟨rfl, fun _ _ => ⟨rfl, rfl, rfl⟩⟩⟩
  obtain ⟨b1, b2⟩ := e3.2 (12 * k + p) (by omega)
  exact ⟨rfl, rfl, b1, rfl, b2⟩
end RL1
