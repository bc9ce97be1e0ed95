/-- from this pc the law goes well, whatever the states that the relation holds of -/
def LawK (p : Program) (l : Launch) (e : Env) (s : State) (m : MethodId) (below : List Frame) (meth : Method) (c : Code) (b : Nat) (G : GT) (A : Nat → Prop) (ba bw : Nat) (U : Nat → Nat → Nat) (ma : Nat) (d : Nat → Nat) (qo a cells slots K pc : Nat) : Prop :=
  ∀ (V : Nat → WV) (M : MV) (ox : Nat → Int64), Rel K V M → ∀ (H : Heap) (locs : List Loc) (ls : Array Slot), va_P G.1 vwCl (lawW G ba bw U V ma d M qo ox) H → va_D A (lawW G ba bw U V ma d M qo ox) → va_S A s.heap H locs → lv_has ls 8 [(0, .ref b), (1, .ref ba), (2, .ref ma), (3, .ref qo), (4, .int (nI a))] → W p l e room_1 s m #[Value.ref b] below meth c H locs cells slots (lw_Z below #[Value.ref b] s) (F0 m pc ls [])
theorem wi_ex (w : Int32) : fX3_isWire w = 0 ∨ ∃ i, i < 4 ∧ w = nI i := by
  unfold fX3_isWire
  have e0 : (0:Int32).toInt = 0 := rfl
  have e4 : (4:Int32).toInt = 4 := rfl
  by_cases c1 : w < 0
  · left; rw [if_pos c1]
  · rw [if_neg c1]
    by_cases c2 : w < 4
    · right
      rw [Int32.lt_iff_toInt_lt, e0] at c1
      rw [Int32.lt_iff_toInt_lt, e4] at c2
      refine ⟨w.toInt.toNat, by omega, ?_⟩
      apply Int32.toInt_inj.mp
      rw [nI_tI (by omega)]
      omega
    · left; rw [if_neg c2]
theorem ha_ex {n : Nat} (hn : n ≤ 12) (w : Int32) : fX0_has n w = 0 ∨ ∃ u, u < n ∧ w = nI u := by
  unfold fX0_has
  have e0 : (0:Int32).toInt = 0 := rfl
  by_cases c1 : w < 0
  · left; rw [if_pos c1]
  · rw [if_neg c1]
    by_cases c2 : w < nI n
    · right
      rw [Int32.lt_iff_toInt_lt, e0] at c1
      rw [Int32.lt_iff_toInt_lt, nI_tI (by omega)] at c2
      refine ⟨w.toInt.toNat, by omega, ?_⟩
      apply Int32.toInt_inj.mp
      rw [nI_tI (by omega)]
      omega
    · left; rw [if_neg c2]
theorem ha_nI {n u : Nat} (hn : n ≤ 12) (h : u < n) : ¬ fX0_has n (nI u) = 0 := by
  unfold fX0_has
  rw [if_neg (nI_pos (by omega)), if_pos (nI_lt h (by omega))]
  decide
theorem wf_e {i : Nat} (U : Nat → Nat → Nat) (hi : i < 4) : (pf4 (U 0 0) (U 1 0) (U 2 0) (U 3 0)) i = some (U i 0) := by
  rcases i4 hi with rfl | rfl | rfl | rfl <;> rfl
/-- numbers of a small range -/
theorem sm_ex {lo hi : Nat} (hl : lo ≤ hi) (hh : hi < 2 ^ 30) (w : Int32) (h1 : ¬ w < nI lo) (h2 : ¬ nI hi < w) : ∃ u, lo ≤ u ∧ u ≤ hi ∧ w = nI u := by
  rw [Int32.lt_iff_toInt_lt, nI_tI (by omega)] at h1
  rw [Int32.lt_iff_toInt_lt, nI_tI (by omega)] at h2
  refine ⟨w.toInt.toNat, by omega, by omega, ?_⟩
  apply Int32.toInt_inj.mp
  rw [nI_tI (by omega)]
  omega
theorem ge4 {w : Int32} : ¬ w < (4:Int32) ↔ (3:Int32) < w := by
  rw [Int32.lt_iff_toInt_lt, Int32.lt_iff_toInt_lt, show (4:Int32).toInt = 4 from rfl, show (3:Int32).toInt = 3 from rfl]
  omega
section AN
variable {K i : Nat} {V : Nat → WV} {M : MV}
theorem an_put {hh lo : Int32} (h : RW K i (V i) M) (hi : i < 4) : fX4_put (m_f0 M) i hh lo = fX3_put i (v_dr (V i)) hh lo := by
  unfold fX4_put fX4_come fX4_come_16 fX3_put fX2_takeDry fX2_takeDry_14
  rw [q_code hi, ← h.1.1]
theorem an_turn {u : Nat} {hh lo : Int32} (h : RW K i (V i) M) (hi : i < 4) (hu : u < v_n (V i)) : fX4_turn (m_f9 M) i u hh lo = fX3_turn i (v_kn (V i)) u hh lo := by
  unfold fX4_turn fX4_turn_69 fX3_turn fX3_turn_44
  rw [q_code hi, ← (h.2.2.2.1.2.1 u hu).2.1]
theorem an_tap {u : Nat} (h : RW K i (V i) M) (hu : u < v_n (V i)) : fX4_tap (m_f11 M) i u = fX3_tap (v_on (V i)) u := by
  unfold fX4_tap fX4_tap_53 fX3_tap fX3_tap_36
  rw [uI_s, uI_s, ← (h.2.2.2.1.2.1 u hu).2.2.1]
theorem an_swap {u1 u2 : Nat} (h : RW K i (V i) M) (hu1 : u1 < v_n (V i)) (hu2 : u2 < v_n (V i)) : fX4_swap (m_f8 M) (m_f9 M) (m_f11 M) i u1 u2 = fX3_swap (v_ki (V i)) (v_kn (V i)) (v_on (V i)) u1 u2 := by
  unfold fX4_swap fX4_swap_106 fX3_swap fX0_areUnlike
  obtain ⟨a1, a2, a3, -⟩ := h.2.2.2.1.2.1 u1 hu1
  obtain ⟨b1, b2, b3, -⟩ := h.2.2.2.1.2.1 u2 hu2
  rw [a1, a2, a3, b1, b2, b3]
theorem an_light {u : Nat} (h : RW K i (V i) M) (hu : u < v_n (V i)) : fX3_light (v_tr (V i)) (v_n (V i)) (v_li (V i)) (nI u) = fX4_light (m_f6 M) (m_f12 M) i u := by
  have hn := h.2.2.2.1.1
  unfold fX3_light fX2_isLit fX4_light
  rw [← h.2.1]
  by_cases c : v_tr (V i) = 0
  · rw [if_pos c, if_pos c, if_pos rfl]
  · rw [if_neg c, if_neg c, if_neg (ha_nI hn hu), nI_clamp (by omega), (h.2.2.2.2.1 c u hu).2]
    by_cases c2 : m_f12 M (12 * i + u) = 0
    · rw [if_pos c2, if_pos rfl]
    · rw [if_neg c2, if_neg (by decide)]
theorem an_lightQ {pl : Int32} (h : fX0_has (v_n (V i)) pl = 0) : fX3_light (v_tr (V i)) (v_n (V i)) (v_li (V i)) pl = 0 := by
  unfold fX3_light fX2_isLit
  rw [if_pos h, ite_self, if_pos rfl]
theorem an_on (h : RW K i (V i) M) : ∀ n, n ≤ v_n (V i) → cOn4 i (m_f11 M) n = cOn (v_on (V i)) n
  | 0, _ => rfl
  | n + 1, hn => by
    rw [cOn4, cOn, an_on h n (by omega), ← (h.2.2.2.1.2.1 n (by omega)).2.2.1]
    by_cases c : v_on (V i) n = 0
    · rw [if_pos c, if_pos c, Int32.add_zero]
    · rw [if_neg c, if_neg c]
theorem an_lit (h : RW K i (V i) M) : ∀ n, n ≤ v_n (V i) → cLit4 i (m_f6 M i) (m_f12 M) n = cLit (v_tr (V i)) (v_n (V i)) (v_li (V i)) n
  | 0, _ => rfl
  | n + 1, hn => by
    have hn12 := h.2.2.2.1.1
    rw [cLit4, cLit, an_lit h n (by omega), ← h.2.1]
    unfold fX2_isLit
    by_cases c : v_tr (V i) = 0
    · rw [if_pos c, if_pos c, if_pos rfl, Int32.add_zero]
    · rw [if_neg c, if_neg c, if_neg (ha_nI hn12 (by omega)), nI_clamp (by omega), (h.2.2.2.2.1 c n (by omega)).2]
      by_cases c2 : m_f12 M (12 * i + n) = 0
      · rw [if_pos c2, if_pos rfl, Int32.add_zero]
      · rw [if_neg c2, if_neg (by decide)]
theorem an_ab {tr : Int32} {r n : Nat} {on li : Nat → Int32} {w : Int32} (h : w < 0 ∨ (3:Int32) < w) : fX3_about tr r n on li w = -1 := by
  unfold fX3_about
  have key : ∀ q : Int32, ¬ q < 0 → ¬ (3:Int32) < q → ¬ w = q := by
    intro q h1 h2 h3
    subst h3
    rcases h with h | h
    · exact h1 h
    · exact h2 h
  rw [if_neg (key 0 (by decide) (by decide)), if_neg (key 1 (by decide) (by decide)), if_neg (key 2 (by decide) (by decide)), if_neg (key 3 (by decide) (by decide))]
end AN
