/-! ===== the class's state and the reference's: what holds between them at every call ===== -/
section RL0
/-- a row of pedals -/
def RP (i b n : Nat) (ki : Nat → Int32) (kn : Nat → Int64) (on : Nat → Int32) (g8 : Nat → Int32) (g9 : Nat → Int64) (g11 : Nat → Int32) : Prop :=
  n ≤ 12 ∧ (∀ k, k < n → ki k = g8 (b + k) ∧ kn k = g9 (b + k) ∧ on k = g11 (b + k) ∧ ¬ fX1_hasKind i (ki k) = 0 ∧ Vd i (kn k)) ∧ ∀ k, on k = 0 ∨ on k = 1
/-- signals, rounds, peaks -/
def RQ (K i rd : Nat) (dr wt gr le d w g l : Int64) (r p : Int32) : Prop :=
  dr = d ∧ wt = w ∧ r = nI rd ∧ rd ≤ K ∧ Vd i dr ∧ Vd i wt ∧ (rd = 0 → p = 0) ∧ (¬ rd = 0 → p = 1 ∧ gr = g ∧ le = l ∧ Vd i gr ∧ Vd i le)
/-- the trace -/
def RO (tr : Int32) (n i : Nat) (ou : Nat → Int64) (li : Nat → Int32) (g10 : Nat → Int64) (g12 : Nat → Int32) : Prop := ¬ tr = 0 → ∀ k, k < n → ou k = g10 (12 * i + k) ∧ li k = g12 (12 * i + k)
def RW (K i : Nat) (v : WV) (M : MV) : Prop :=
  RQ K i (v_rd v) (v_dr v) (v_wt v) (v_gr v) (v_le v) (m_f0 M i) (m_f1 M i) (m_f2 M i) (m_f3 M i) (m_f4 M i) (m_f7 M i) ∧ v_tr v = m_f6 M i ∧ m_f5 M i = nI (v_n v) ∧ RP i (12 * i) (v_n v) (v_ki v) (v_kn v) (v_on v) (m_f8 M) (m_f9 M) (m_f11 M) ∧ RO (v_tr v) (v_n v) i (v_ou v) (v_li v) (m_f10 M) (m_f12 M) ∧
  ∀ p, p < 4 → m_f13 M (4 * i + p) = nI (v_pn v p) ∧ RP i (12 * (4 * i + p)) (v_pn v p) (v_pki v p) (v_pkn v p) (v_pon v p) (m_f14 M) (m_f15 M) (m_f16 M)
def Rel (K : Nat) (V : Nat → WV) (M : MV) : Prop := (∀ i, i < 4 → RW K i (V i) M) ∧ (∀ k, m_f11 M k = 0 ∨ m_f11 M k = 1) ∧ (∀ k, m_f16 M k = 0 ∨ m_f16 M k = 1)
/-- the reference's rows of wire i are the same -/
def Sm (i : Nat) (M M' : MV) : Prop := (m_f0 M' i = m_f0 M i ∧ m_f1 M' i = m_f1 M i ∧ m_f2 M' i = m_f2 M i ∧ m_f3 M' i = m_f3 M i ∧ m_f4 M' i = m_f4 M i ∧ m_f5 M' i = m_f5 M i ∧ m_f6 M' i = m_f6 M i ∧ m_f7 M' i = m_f7 M i) ∧ (∀ k, k < 12 → m_f8 M' (12 * i + k) = m_f8 M (12 * i + k) ∧ m_f9 M' (12 * i + k) = m_f9 M (12 * i + k) ∧ m_f10 M' (12 * i + k) = m_f10 M (12 * i + k) ∧ m_f11 M' (12 * i + k) = m_f11 M (12 * i + k) ∧ m_f12 M' (12 * i + k) = m_f12 M (12 * i + k)) ∧
  ∀ p, p < 4 → m_f13 M' (4 * i + p) = m_f13 M (4 * i + p) ∧ ∀ k, k < 12 → m_f14 M' (12 * (4 * i + p) + k) = m_f14 M (12 * (4 * i + p) + k) ∧ m_f15 M' (12 * (4 * i + p) + k) = m_f15 M (12 * (4 * i + p) + k) ∧ m_f16 M' (12 * (4 * i + p) + k) = m_f16 M (12 * (4 * i + p) + k)
theorem RP.sm {i b n : Nat} {ki kn on g8 g9 g11 h8 h9 h11} (h : RP i b n ki kn on g8 g9 g11) (e : ∀ k, k < 12 → h8 (b + k) = g8 (b + k) ∧ h9 (b + k) = g9 (b + k) ∧ h11 (b + k) = g11 (b + k)) : RP i b n ki kn on h8 h9 h11 := by
  refine ⟨h.1, fun k hk => ?_, h.2.2⟩
  obtain ⟨a1, a2, a3, a4, a5⟩ := h.2.1 k hk
  obtain ⟨b1, b2, b3⟩ := e k (Nat.lt_of_lt_of_le hk h.1)
  exact ⟨a1.trans b1.symm, a2.trans b2.symm, a3.trans b3.symm, a4, a5⟩
theorem RQ.up {K K' i rd : Nat} {dr wt gr le d w g l : Int64} {r p : Int32} (h : RQ K i rd dr wt gr le d w g l r p) (hK : K ≤ K') : RQ K' i rd dr wt gr le d w g l r p := ⟨h.1, h.2.1, h.2.2.1, Nat.le_trans h.2.2.2.1 hK, h.2.2.2.2⟩
theorem RW.sm {K K' i : Nat} {v : WV} {M M' : MV} (h : RW K i v M) (e : Sm i M M') (hK : K ≤ K') : RW K' i v M' := by
  obtain ⟨h1, h2, h3, h4, h5, h6⟩ := h
  obtain ⟨⟨e0, e1, e2, e3, e4, e5, e6, e7⟩, e8, e9⟩ := e
  refine ⟨?_, h2.trans e6.symm, e5.trans h3, h4.sm (fun k hk => ⟨(e8 k hk).1, (e8 k hk).2.1, (e8 k hk).2.2.2.1⟩), ?_, fun p hp => ⟨(e9 p hp).1.trans (h6 p hp).1, (h6 p hp).2.sm (fun k hk => (e9 p hp).2 k hk)⟩⟩
  · rw [e0, e1, e2, e3, e4, e7]; exact h1.up hK
  · intro ht k hk
    obtain ⟨a1, a2⟩ := h5 ht k hk
    obtain ⟨-, -, b1, -, b2⟩ := e8 k (Nat.lt_of_lt_of_le hk h4.1)
    exact ⟨a1.trans b1.symm, a2.trans b2.symm⟩
theorem RW.up {K K' i : Nat} {v : WV} {M : MV} (h : RW K i v M) (hK : K ≤ K') : RW K' i v M := ⟨h.1.up hK, h.2⟩
theorem Rel.up {K K' : Nat} {V : Nat → WV} {M : MV} (h : Rel K V M) (hK : K ≤ K') : Rel K' V M := ⟨fun i hi => (h.1 i hi).up hK, h.2⟩
theorem setV_s {α : Type} (V : Nat → α) (i : Nat) (v : α) : setV V i v i = v := if_pos rfl
theorem setV_o {α : Type} (V : Nat → α) {i k : Nat} (v : α) (h : k ≠ i) : setV V i v k = V k := if_neg h
theorem setV_self {α : Type} (V : Nat → α) (i : Nat) : setV V i (V i) = V := by
  funext k; unfold setV; split
  · rename_i h; rw [h]
  · rfl
theorem Rel.self {K : Nat} {V : Nat → WV} {M : MV} (i : Nat) (h : Rel K V M) : Rel (K + 50) (setV V i (V i)) M := by
  rw [setV_self]; exact h.up (by omega)
theorem Rel.at {K : Nat} {V : Nat → WV} {M M' : MV} {i : Nat} {v : WV} (h : Rel K V M) (hi : i < 4) (hW : RW (K + 50) i v M') (hS : ∀ k, k < 4 → k ≠ i → Sm k M M') (z1 : ∀ k, m_f11 M' k = 0 ∨ m_f11 M' k = 1) (z2 : ∀ k, m_f16 M' k = 0 ∨ m_f16 M' k = 1) : Rel (K + 50) (setV V i v) M' := by
  refine ⟨fun k hk => ?_, z1, z2⟩
  by_cases c : k = i
  · subst c; rw [setV_s]; exact hW
  · rw [setV_o _ _ c]; exact (h.1 k hk).sm (hS k hk c) (by omega)
theorem uI_s (f : Nat → Int32) (k : Nat) (x : Int32) : upd f k x k = x := if_pos rfl
theorem uL_s (f : Nat → Int64) (k : Nat) (x : Int64) : vp_updL f k x k = x := if_pos rfl
theorem uI_o (f : Nat → Int32) {j k : Nat} (x : Int32) (h : j ≠ k) : upd f k x j = f j := if_neg h
theorem uL_o (f : Nat → Int64) {j k : Nat} (x : Int64) (h : j ≠ k) : vp_updL f k x j = f j := if_neg h
theorem mo_i {α : Type} {b n k : Nat} {f g : Nat → α} (h : k < n) : mo b n f g (b + k) = f k := by
  unfold mo; rw [if_pos ⟨by omega, by omega⟩, Nat.add_sub_cancel_left]
theorem mo_o {α : Type} {b n k : Nat} {f g : Nat → α} (h : k < b ∨ b + n ≤ k) : mo b n f g k = g k := by
  unfold mo; rw [if_neg (by omega)]
theorem mx_i {α : Type} {n k : Nat} {f g : Nat → α} (h : k < n) : mx n f g k = f k := if_pos h
/-- a signal came (PUT, PATCH) -/
theorem sm_come {K i : Nat} {V : Nat → WV} {M : MV} {x : Int64} (h : Rel K V M) (hi : i < 4) (hx : Vd i x) :
    Rel (K + 50) (setV V i ((0:Int32), x, x, 0, v_gr (V i), v_le (V i), v_n (V i), v_ki (V i), v_kn (V i), v_on (V i), v_ou (V i), v_li (V i), v_pn (V i), v_pki (V i), v_pkn (V i), v_pon (V i)))
      (vp_updL (m_f0 M) i x, vp_updL (m_f1 M) i x, m_f2 M, m_f3 M, upd (m_f4 M) i (0:Int32), m_f5 M, upd (m_f6 M) i (0:Int32), upd (m_f7 M) i (0:Int32), m_f8 M, m_f9 M, m_f10 M, m_f11 M, m_f12 M, m_f13 M, m_f14 M, m_f15 M, m_f16 M, (0:Int32)) := by
  obtain ⟨h1, h2, h3, h4, h5, h6⟩ := h.1 i hi
  refine Rel.at h hi ⟨⟨(uL_s _ _ _).symm, (uL_s _ _ _).symm, (uI_s _ _ _).trans nI_0.symm, Nat.zero_le _, hx, hx, fun _ => uI_s _ _ _, fun g => absurd rfl g⟩, (uI_s _ _ _).symm, h3, h4, fun g => absurd rfl g, h6⟩ (fun k hk hki => ?_) h.2.1 h.2.2
  exact ⟨⟨uL_o _ _ hki, uL_o _ _ hki, rfl, rfl, uI_o _ _ hki, rfl, uI_o _ _ hki, uI_o _ _ hki⟩, fun _ _ => ⟨rfl, rfl, rfl, rfl, rfl⟩, fun _ _ => ⟨rfl, fun _ _ => ⟨rfl, rfl, rfl⟩⟩⟩
/-- PEDAL -/
theorem sm_pedal {K i : Nat} {V : Nat → WV} {M : MV} {kd : Int32} {x : Int64} (h : Rel K V M) (hi : i < 4) (hn : v_n (V i) < 12) (hk : ¬ fX1_hasKind i kd = 0) (hx : Vd i x) :
    Rel (K + 50) (setV V i ((0:Int32), v_dr (V i), v_wt (V i), v_rd (V i), v_gr (V i), v_le (V i), v_n (V i) + 1, upd (v_ki (V i)) (v_n (V i)) kd, vp_updL (v_kn (V i)) (v_n (V i)) x, upd (v_on (V i)) (v_n (V i)) (1:Int32), v_ou (V i), v_li (V i), v_pn (V i), v_pki (V i), v_pkn (V i), v_pon (V i)))
      (m_f0 M, m_f1 M, m_f2 M, m_f3 M, m_f4 M, upd (m_f5 M) i (nI (v_n (V i) + 1)), upd (m_f6 M) i (0:Int32), m_f7 M, upd (m_f8 M) (12 * i + v_n (V i)) kd, vp_updL (m_f9 M) (12 * i + v_n (V i)) x, m_f10 M, upd (m_f11 M) (12 * i + v_n (V i)) (1:Int32), m_f12 M, m_f13 M, m_f14 M, m_f15 M, m_f16 M, (0:Int32)) := by
  obtain ⟨h1, h2, h3, h4, h5, h6⟩ := h.1 i hi
  have zu : ∀ (f : Nat → Int32) (q : Nat), (∀ k, f k = 0 ∨ f k = 1) → ∀ k, upd f q (1:Int32) k = 0 ∨ upd f q (1:Int32) k = 1 := by
    intro f q hf k
    unfold upd
    split
    · exact Or.inr rfl
    · exact hf k
  refine Rel.at h hi ⟨h1.up (by omega), (uI_s _ _ _).symm, uI_s _ _ _, ⟨hn, fun k hk2 => ?_, zu _ _ h4.2.2⟩, fun g => absurd rfl g, h6⟩ (fun k hk hki => ?_) (zu _ _ h.2.1) h.2.2
  · have hk3 : k < v_n (V i) + 1 := hk2
    by_cases c : k = v_n (V i)
    · subst c
      exact ⟨(uI_s _ _ _).trans (uI_s _ _ _).symm, (uL_s _ _ _).trans (uL_s _ _ _).symm, (uI_s _ _ _).trans (uI_s _ _ _).symm, by show ¬ fX1_hasKind i (upd _ _ _ _) = 0; rw [uI_s]; exact hk, by show Vd i (vp_updL _ _ _ _); rw [uL_s]; exact hx⟩
    · obtain ⟨a1, a2, a3, a4, a5⟩ := h4.2.1 k (by omega)
      have c2 : 12 * i + k ≠ 12 * i + v_n (V i) := by omega
      exact ⟨(uI_o _ _ c).trans (a1.trans (uI_o _ _ c2).symm), (uL_o _ _ c).trans (a2.trans (uL_o _ _ c2).symm), (uI_o _ _ c).trans (a3.trans (uI_o _ _ c2).symm), by show ¬ fX1_hasKind i (upd _ _ _ _) = 0; rw [uI_o _ _ c]; exact a4, by show Vd i (vp_updL _ _ _ _); rw [uL_o _ _ c]; exact a5⟩
  · exact ⟨⟨rfl, rfl, rfl, rfl, rfl, uI_o _ _ hki, uI_o _ _ hki, rfl⟩, fun q hq => ⟨uI_o _ _ (by omega), uL_o _ _ (by omega), rfl, uI_o _ _ (by omega), rfl⟩, fun _ _ => ⟨rfl, fun _ _ => ⟨rfl, rfl, rfl⟩⟩⟩
/-- TURN -/
theorem sm_turn {K i u : Nat} {V : Nat → WV} {M : MV} {x : Int64} (h : Rel K V M) (hi : i < 4) (hu : u < v_n (V i)) (hx : Vd i x) :
    Rel (K + 50) (setV V i (v_tr (V i), v_dr (V i), v_wt (V i), v_rd (V i), v_gr (V i), v_le (V i), v_n (V i), v_ki (V i), vp_updL (v_kn (V i)) u x, v_on (V i), v_ou (V i), v_li (V i), v_pn (V i), v_pki (V i), v_pkn (V i), v_pon (V i)))
      (m_f0 M, m_f1 M, m_f2 M, m_f3 M, m_f4 M, m_f5 M, m_f6 M, m_f7 M, m_f8 M, vp_updL (m_f9 M) (12 * i + u) x, m_f10 M, m_f11 M, m_f12 M, m_f13 M, m_f14 M, m_f15 M, m_f16 M, (0:Int32)) := by
  obtain ⟨h1, h2, h3, h4, h5, h6⟩ := h.1 i hi
  have hn := h4.1
  refine Rel.at h hi ⟨h1.up (by omega), h2, h3, ⟨h4.1, fun k hk2 => ?_, h4.2.2⟩, h5, h6⟩ (fun k hk hki => ?_) h.2.1 h.2.2
  · obtain ⟨a1, a2, a3, a4, a5⟩ := h4.2.1 k hk2
    by_cases c : k = u
    · subst c
      exact ⟨a1, (uL_s _ _ _).trans (uL_s _ _ _).symm, a3, a4, by show Vd i (vp_updL _ _ _ _); rw [uL_s]; exact hx⟩
    · exact ⟨a1, (uL_o _ _ c).trans (a2.trans (uL_o _ _ (by omega)).symm), a3, a4, by show Vd i (vp_updL _ _ _ _); rw [uL_o _ _ c]; exact a5⟩
  · exact ⟨⟨rfl, rfl, rfl, rfl, rfl, rfl, rfl, rfl⟩, fun q hq => ⟨rfl, uL_o _ _ (by omega), rfl, rfl, rfl⟩, fun _ _ => ⟨rfl, fun _ _ => ⟨rfl, rfl, rfl⟩⟩⟩
/-- TAP -/
theorem sm_tap {K i u : Nat} {V : Nat → WV} {M : MV} (h : Rel K V M) (hi : i < 4) (hu : u < v_n (V i)) :
    Rel (K + 50) (setV V i (v_tr (V i), v_dr (V i), v_wt (V i), v_rd (V i), v_gr (V i), v_le (V i), v_n (V i), v_ki (V i), v_kn (V i), upd (v_on (V i)) u (if v_on (V i) u = 0 then (1:Int32) else (0:Int32)), v_ou (V i), v_li (V i), v_pn (V i), v_pki (V i), v_pkn (V i), v_pon (V i)))
      (m_f0 M, m_f1 M, m_f2 M, m_f3 M, m_f4 M, m_f5 M, m_f6 M, m_f7 M, m_f8 M, m_f9 M, m_f10 M, upd (m_f11 M) (12 * i + u) (if m_f11 M (12 * i + u) = 0 then (1:Int32) else (0:Int32)), m_f12 M, m_f13 M, m_f14 M, m_f15 M, m_f16 M, (0:Int32)) := by
  obtain ⟨h1, h2, h3, h4, h5, h6⟩ := h.1 i hi
  have hn := h4.1
  have zu : ∀ (f : Nat → Int32) (q : Nat) (y : Int32), (y = 0 ∨ y = 1) → (∀ k, f k = 0 ∨ f k = 1) → ∀ k, upd f q y k = 0 ∨ upd f q y k = 1 := by
    intro f q y hy hf k
    unfold upd
    split
    · exact hy
    · exact hf k
  have zi : ∀ y : Int32, (if y = 0 then (1:Int32) else 0) = 0 ∨ (if y = 0 then (1:Int32) else 0) = 1 := by
    intro y; split
    · exact Or.inr rfl
    · exact Or.inl rfl
  refine Rel.at h hi ⟨h1.up (by omega), h2, h3, ⟨h4.1, fun k hk2 => ?_, zu _ _ _ (zi _) h4.2.2⟩, h5, h6⟩ (fun k hk hki => ?_) (zu _ _ _ (zi _) h.2.1) h.2.2
  · obtain ⟨a1, a2, a3, a4, a5⟩ := h4.2.1 k hk2
    by_cases c : k = u
    · subst c
      exact ⟨a1, a2, (uI_s _ _ _).trans ((by rw [a3]) : _ = _) |>.trans (uI_s _ _ _).symm, a4, a5⟩
    · exact ⟨a1, a2, (uI_o _ _ c).trans (a3.trans (uI_o _ _ (by omega)).symm), a4, a5⟩
  · exact ⟨⟨rfl, rfl, rfl, rfl, rfl, rfl, rfl, rfl⟩, fun q hq => ⟨rfl, rfl, rfl, uI_o _ _ (by omega), rfl⟩, fun _ _ => ⟨rfl, fun _ _ => ⟨rfl, rfl, rfl⟩⟩⟩
/-- SWAP -/
theorem sm_swap {K i u1 u2 : Nat} {V : Nat → WV} {M : MV} (h : Rel K V M) (hi : i < 4) (hu1 : u1 < v_n (V i)) (hu2 : u2 < v_n (V i)) :
    Rel (K + 50) (setV V i ((0:Int32), v_dr (V i), v_wt (V i), v_rd (V i), v_gr (V i), v_le (V i), v_n (V i), upd (upd (v_ki (V i)) u1 (v_ki (V i) u2)) u2 (v_ki (V i) u1), vp_updL (vp_updL (v_kn (V i)) u1 (v_kn (V i) u2)) u2 (v_kn (V i) u1), upd (upd (v_on (V i)) u1 (v_on (V i) u2)) u2 (v_on (V i) u1), v_ou (V i), v_li (V i), v_pn (V i), v_pki (V i), v_pkn (V i), v_pon (V i)))
      (m_f0 M, m_f1 M, m_f2 M, m_f3 M, m_f4 M, m_f5 M, upd (m_f6 M) i (0:Int32), m_f7 M, upd (upd (m_f8 M) (12 * i + u1) (m_f8 M (12 * i + u2))) (12 * i + u2) (m_f8 M (12 * i + u1)), vp_updL (vp_updL (m_f9 M) (12 * i + u1) (m_f9 M (12 * i + u2))) (12 * i + u2) (m_f9 M (12 * i + u1)), m_f10 M, upd (upd (m_f11 M) (12 * i + u1) (m_f11 M (12 * i + u2))) (12 * i + u2) (m_f11 M (12 * i + u1)), m_f12 M, m_f13 M, m_f14 M, m_f15 M, m_f16 M, (0:Int32)) := by
  obtain ⟨h1, h2, h3, h4, h5, h6⟩ := h.1 i hi
  have hn := h4.1
  have zu : ∀ (f : Nat → Int32) (q : Nat) (y : Int32), (y = 0 ∨ y = 1) → (∀ k, f k = 0 ∨ f k = 1) → ∀ k, upd f q y k = 0 ∨ upd f q y k = 1 := by
    intro f q y hy hf k
    unfold upd
    split
    · exact hy
    · exact hf k
  obtain ⟨a1, a2, a3, a4, a5⟩ := h4.2.1 u1 hu1
  obtain ⟨b1, b2, b3, b4, b5⟩ := h4.2.1 u2 hu2
  refine Rel.at h hi ⟨h1.up (by omega), (uI_s _ _ _).symm, h3, ⟨h4.1, fun k hk2 => ?_, zu _ _ _ (h4.2.2 u1) (zu _ _ _ (h4.2.2 u2) h4.2.2)⟩, fun g => absurd rfl g, h6⟩ (fun k hk hki => ?_) (zu _ _ _ (h.2.1 _) (zu _ _ _ (h.2.1 _) h.2.1)) h.2.2
  · by_cases c : k = u2
    · subst c
      exact ⟨(uI_s _ _ _).trans (a1.trans (uI_s _ _ _).symm), (uL_s _ _ _).trans (a2.trans (uL_s _ _ _).symm), (uI_s _ _ _).trans (a3.trans (uI_s _ _ _).symm), by show ¬ fX1_hasKind i (upd _ _ _ _) = 0; rw [uI_s]; exact a4, by show Vd i (vp_updL _ _ _ _); rw [uL_s]; exact a5⟩
    · have c9 : 12 * i + k ≠ 12 * i + u2 := by omega
      by_cases d : k = u1
      · subst d
        exact ⟨(uI_o _ _ c).trans ((uI_s _ _ _).trans (b1.trans ((uI_o _ _ c9).trans (uI_s _ _ _)).symm)), (uL_o _ _ c).trans ((uL_s _ _ _).trans (b2.trans ((uL_o _ _ c9).trans (uL_s _ _ _)).symm)), (uI_o _ _ c).trans ((uI_s _ _ _).trans (b3.trans ((uI_o _ _ c9).trans (uI_s _ _ _)).symm)), by show ¬ fX1_hasKind i (upd _ _ _ _) = 0; rw [uI_o _ _ c, uI_s]; exact b4, by show Vd i (vp_updL _ _ _ _); rw [uL_o _ _ c, uL_s]; exact b5⟩
      · have d9 : 12 * i + k ≠ 12 * i + u1 := by omega
        obtain ⟨g1, g2, g3, g4, g5⟩ := h4.2.1 k hk2
        exact ⟨(uI_o _ _ c).trans ((uI_o _ _ d).trans (g1.trans ((uI_o _ _ c9).trans (uI_o _ _ d9)).symm)), (uL_o _ _ c).trans ((uL_o _ _ d).trans (g2.trans ((uL_o _ _ c9).trans (uL_o _ _ d9)).symm)), (uI_o _ _ c).trans ((uI_o _ _ d).trans (g3.trans ((uI_o _ _ c9).trans (uI_o _ _ d9)).symm)), by show ¬ fX1_hasKind i (upd _ _ _ _) = 0; rw [uI_o _ _ c, uI_o _ _ d]; exact g4, by show Vd i (vp_updL _ _ _ _); rw [uL_o _ _ c, uL_o _ _ d]; exact g5⟩
  · exact ⟨⟨rfl, rfl, rfl, rfl, rfl, rfl, uI_o _ _ hki, rfl⟩, fun q hq => ⟨(uI_o _ _ (by omega)).trans (uI_o _ _ (by omega)), (uL_o _ _ (by omega)).trans (uL_o _ _ (by omega)), rfl, (uI_o _ _ (by omega)).trans (uI_o _ _ (by omega)), rfl⟩, fun _ _ => ⟨rfl, fun _ _ => ⟨rfl, rfl, rfl⟩⟩⟩
/-- SAVE -/
theorem sm_save {K i : Nat} {V : Nat → WV} {M : MV} (p : Nat) (hp : p < 4) (h : Rel K V M) (hi : i < 4) :
    Rel (K + 50) (setV V i (v_tr (V i), v_dr (V i), v_wt (V i), v_rd (V i), v_gr (V i), v_le (V i), v_n (V i), v_ki (V i), v_kn (V i), v_on (V i), v_ou (V i), v_li (V i), setV (v_pn (V i)) p (v_n (V i)), setV (v_pki (V i)) p (mx (v_n (V i)) (v_ki (V i)) (v_pki (V i) p)), setV (v_pkn (V i)) p (mx (v_n (V i)) (v_kn (V i)) (v_pkn (V i) p)), setV (v_pon (V i)) p (mx (v_n (V i)) (v_on (V i)) (v_pon (V i) p))))
      (m_f0 M, m_f1 M, m_f2 M, m_f3 M, m_f4 M, m_f5 M, m_f6 M, m_f7 M, m_f8 M, m_f9 M, m_f10 M, m_f11 M, m_f12 M, upd (m_f13 M) (4 * i + p) (nI (v_n (V i))), mo (12 * (4 * i + p)) (v_n (V i)) (sl (12 * i) (m_f8 M)) (m_f14 M), mo (12 * (4 * i + p)) (v_n (V i)) (sl (12 * i) (m_f9 M)) (m_f15 M), mo (12 * (4 * i + p)) (v_n (V i)) (sl (12 * i) (m_f11 M)) (m_f16 M), (0:Int32)) := by
  obtain ⟨h1, h2, h3, h4, h5, h6⟩ := h.1 i hi
  have hn := h4.1
  refine Rel.at h hi ⟨h1.up (by omega), h2, h3, h4, h5, fun q hq => ?_⟩ (fun k hk hki => ?_) h.2.1 ?_
  · by_cases c : q = p
    · subst c
      refine ⟨(uI_s _ _ _).trans (by show _ = nI (setV _ _ _ _); rw [setV_s]), ?_⟩
      show RP i _ (setV _ _ _ _) (setV _ _ _ _) (setV _ _ _ _) (setV _ _ _ _) _ _ _
      rw [setV_s, setV_s, setV_s, setV_s]
      refine ⟨hn, fun k hk2 => ?_, fun k => ?_⟩
      · obtain ⟨a1, a2, a3, a4, a5⟩ := h4.2.1 k hk2
        show mx _ _ _ _ = mo _ _ _ _ _ ∧ mx _ _ _ _ = mo _ _ _ _ _ ∧ mx _ _ _ _ = mo _ _ _ _ _ ∧ ¬ fX1_hasKind i (mx _ _ _ _) = 0 ∧ Vd i (mx _ _ _ _)
        rw [mx_i hk2, mx_i hk2, mx_i hk2, mo_i hk2, mo_i hk2, mo_i hk2]
        exact ⟨a1, a2, a3, a4, a5⟩
      · unfold mx
        split
        · exact h4.2.2 k
        · exact (h6 q hp).2.2.2 k
    · obtain ⟨g1, g2⟩ := h6 q hq
      refine ⟨(uI_o _ _ (by omega)).trans (g1.trans (by show _ = nI (setV _ _ _ _); rw [setV_o _ _ c])), ?_⟩
      show RP i _ (setV _ _ _ _) (setV _ _ _ _) (setV _ _ _ _) (setV _ _ _ _) _ _ _
      rw [setV_o _ _ c, setV_o _ _ c, setV_o _ _ c, setV_o _ _ c]
      exact g2.sm (fun k hk => ⟨mo_o (by omega), mo_o (by omega), mo_o (by omega)⟩)
  · exact ⟨⟨rfl, rfl, rfl, rfl, rfl, rfl, rfl, rfl⟩, fun q hq => ⟨rfl, rfl, rfl, rfl, rfl⟩, fun q hq => ⟨uI_o _ _ (by omega), fun _ _ => ⟨mo_o (by omega), mo_o (by omega), mo_o (by omega)⟩⟩⟩
  · intro k
    show mo _ _ _ _ k = 0 ∨ mo _ _ _ _ k = 1
    unfold mo sl
    split
    · exact h.2.1 _
    · exact h.2.2 k
/-- RECALL -/
theorem sm_recall {K i : Nat} {V : Nat → WV} {M : MV} (p : Nat) (hp : p < 4) (h : Rel K V M) (hi : i < 4) :
    Rel (K + 50) (setV V i ((0:Int32), v_dr (V i), v_wt (V i), v_rd (V i), v_gr (V i), v_le (V i), v_pn (V i) p, mx (v_pn (V i) p) (v_pki (V i) p) (v_ki (V i)), mx (v_pn (V i) p) (v_pkn (V i) p) (v_kn (V i)), mx (v_pn (V i) p) (v_pon (V i) p) (v_on (V i)), v_ou (V i), v_li (V i), v_pn (V i), v_pki (V i), v_pkn (V i), v_pon (V i)))
      (m_f0 M, m_f1 M, m_f2 M, m_f3 M, m_f4 M, upd (m_f5 M) i (nI (v_pn (V i) p)), upd (m_f6 M) i (0:Int32), m_f7 M, mo (12 * i) (v_pn (V i) p) (sl (12 * (4 * i + p)) (m_f14 M)) (m_f8 M), mo (12 * i) (v_pn (V i) p) (sl (12 * (4 * i + p)) (m_f15 M)) (m_f9 M), m_f10 M, mo (12 * i) (v_pn (V i) p) (sl (12 * (4 * i + p)) (m_f16 M)) (m_f11 M), m_f12 M, m_f13 M, m_f14 M, m_f15 M, m_f16 M, (0:Int32)) := by
  obtain ⟨h1, h2, h3, h4, h5, h6⟩ := h.1 i hi
  obtain ⟨g1, g2⟩ := h6 p hp
  have hn := g2.1
  refine Rel.at h hi ⟨h1.up (by omega), (uI_s _ _ _).symm, uI_s _ _ _, ⟨hn, fun k hk2 => ?_, fun k => ?_⟩, fun g => absurd rfl g, h6⟩ (fun k hk hki => ?_) ?_ h.2.2
  · obtain ⟨a1, a2, a3, a4, a5⟩ := g2.2.1 k hk2
    show mx _ _ _ _ = mo _ _ _ _ _ ∧ mx _ _ _ _ = mo _ _ _ _ _ ∧ mx _ _ _ _ = mo _ _ _ _ _ ∧ ¬ fX1_hasKind i (mx _ _ _ _) = 0 ∧ Vd i (mx _ _ _ _)
    rw [mx_i hk2, mx_i hk2, mx_i hk2, mo_i hk2, mo_i hk2, mo_i hk2]
    exact ⟨a1, a2, a3, a4, a5⟩
  · show mx _ _ _ k = 0 ∨ mx _ _ _ k = 1
    unfold mx
    split
    · exact g2.2.2 k
    · exact h4.2.2 k
  · exact ⟨⟨rfl, rfl, rfl, rfl, rfl, uI_o _ _ hki, uI_o _ _ hki, rfl⟩, fun q hq => ⟨mo_o (by omega), mo_o (by omega), rfl, mo_o (by omega), rfl⟩, fun q hq => ⟨rfl, fun _ _ => ⟨rfl, rfl, rfl⟩⟩⟩
  · intro k
    show mo _ _ _ _ k = 0 ∨ mo _ _ _ _ k = 1
    unfold mo sl
    split
    · exact h.2.2 _
    · exact h.2.1 k
end RL0
