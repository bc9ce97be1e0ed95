/-! ===== the law's world: the board, the reference, the row for answers; cells of a part, by their places ===== -/
section SL
theorem pl_L {L R w : va_W} {js : List Nat} (h : js.map (fun i => L[i]?) = w.map some) : js.map (fun i => (L ++ R)[i]?) = w.map some := by
  rw [← h]
  apply List.map_congr_left
  intro j hj
  have : ∃ q, L[j]? = some q := by
    have hm : L[j]? ∈ w.map some := by rw [← h]; exact List.mem_map_of_mem hj
    obtain ⟨q, -, hq⟩ := List.mem_map.mp hm
    exact ⟨q, hq.symm⟩
  obtain ⟨q, hq⟩ := this
  have hlt : j < L.length := by
    rcases Nat.lt_or_ge j L.length with h9 | h9
    · exact h9
    · rw [List.getElem?_eq_none h9] at hq; cases hq
  exact List.getElem?_append_left hlt
theorem pl_R {L R w : va_W} {js : List Nat} {n : Nat} (hn : L.length = n) (h : js.map (fun i => R[i]?) = w.map some) : (js.map (· + n)).map (fun i => (L ++ R)[i]?) = w.map some := by
  rw [← h, List.map_map]
  apply List.map_congr_left
  intro j _
  show (L ++ R)[j + n]? = R[j]?
  rw [List.getElem?_append_right (by omega), hn, Nat.add_sub_cancel]
theorem pl_A {ws w1 w2 : va_W} {a b : List Nat} (h1 : a.map (fun i => ws[i]?) = w1.map some) (h2 : b.map (fun i => ws[i]?) = w2.map some) : (a ++ b).map (fun i => ws[i]?) = (w1 ++ w2).map some := by
  rw [List.map_append, List.map_append, h1, h2]
theorem set_L {L R : va_W} {i : Nat} {x : Nat × va_E} (h : i < L.length) : (L ++ R).set i x = L.set i x ++ R := List.set_append_left i x h
theorem set_R {L R : va_W} {i n : Nat} {x : Nat × va_E} (hn : L.length = n) : (L ++ R).set (i + n) x = L ++ R.set i x := by
  rw [List.set_append_right (i + n) x (by omega), hn, Nat.add_sub_cancel]
theorem put_L : ∀ (js : List Nat) (w L R : va_W), (∀ j ∈ js, j < L.length) → sb_puts (L ++ R) js w = sb_puts L js w ++ R
  | [], w, L, R, _ => by rw [sb_puts_nil, sb_puts_nil]
  | _ :: _, [], _, _, _ => rfl
  | j :: js, x :: w, L, R, h => by
    show sb_puts ((L ++ R).set j x) js w = sb_puts (L.set j x) js w ++ R
    rw [set_L (h j List.mem_cons_self)]
    exact put_L js w (L.set j x) R (fun i hi => by rw [List.length_set]; exact h i (List.mem_cons_of_mem _ hi))
theorem put_R : ∀ (js : List Nat) (w L R : va_W) (n : Nat), L.length = n → sb_puts (L ++ R) (js.map (· + n)) w = L ++ sb_puts R js w
  | [], w, L, R, n, _ => by rw [List.map_nil, sb_puts_nil, sb_puts_nil]
  | _ :: _, [], _, _, _, _ => rfl
  | j :: js, x :: w, L, R, n, h => by
    show sb_puts ((L ++ R).set (j + n) x) (js.map (· + n)) w = L ++ sb_puts (R.set j x) js w
    rw [set_R h]
    exact put_R js w L (R.set j x) n h
theorem put_A : ∀ (a b : List Nat) (w1 w2 ws : va_W), a.length = w1.length → sb_puts ws (a ++ b) (w1 ++ w2) = sb_puts (sb_puts ws a w1) b w2
  | [], b, w1, w2, ws, h => by
    have : w1 = [] := List.eq_nil_of_length_eq_zero h.symm
    subst this
    rfl
  | i :: a, b, [], w2, ws, h => by cases h
  | i :: a, b, x :: w1, w2, ws, h => by
    show sb_puts (ws.set i x) (a ++ b) (w1 ++ w2) = sb_puts (sb_puts (ws.set i x) a w1) b w2
    exact put_A a b w1 w2 (ws.set i x) (by simpa using h)
theorem mp_a {js : List Nat} {a b c : Nat} (h : a + b = c) : (js.map (· + a)).map (· + b) = js.map (· + c) := by
  rw [List.map_map]
  apply List.map_congr_left
  intro j _
  show j + a + b = j + c
  omega
def setV {α : Type} (V : Nat → α) (i : Nat) (v : α) : Nat → α := fun k => if k = i then v else V k
theorem wireW_len (G : GT) (i : Nat) (u : Nat → Nat) (v : WV) : (wireW G i u v).length = 24 := rfl
theorem boardW_len (G : GT) (ba bw : Nat) (U : Nat → Nat → Nat) (V : Nat → WV) : (boardW G ba bw U V).length = 98 := rfl
theorem bd_pl {G : GT} {ba bw : Nat} {U : Nat → Nat → Nat} {V : Nat → WV} {i : Nat} (hi : i < 4) {js : List Nat} {w : va_W} (h : js.map (fun j => (wireW G i (U i) (V i))[j]?) = w.map some) : (js.map (· + (2 + 24 * i))).map (fun k => (boardW G ba bw U V)[k]?) = w.map some := by
  rcases (show i = 0 ∨ i = 1 ∨ i = 2 ∨ i = 3 by omega) with rfl | rfl | rfl | rfl
  · exact pl_R (L := brd G ba bw _) rfl (pl_L h)
  · have h1 : (js.map (· + 24)).map (fun k => (wireW G 0 (U 0) (V 0) ++ (wireW G 1 (U 1) (V 1) ++ (wireW G 2 (U 2) (V 2) ++ wireW G 3 (U 3) (V 3))))[k]?) = w.map some := pl_R rfl (pl_L h)
    have h2 := pl_R (L := brd G ba bw (pf4 (U 0 0) (U 1 0) (U 2 0) (U 3 0))) (n := 2) rfl h1
    rw [mp_a (show 24 + 2 = 2 + 24 * 1 from rfl)] at h2
    exact h2
  · have h0 : (js.map (· + 24)).map (fun k => (wireW G 1 (U 1) (V 1) ++ (wireW G 2 (U 2) (V 2) ++ wireW G 3 (U 3) (V 3)))[k]?) = w.map some := pl_R rfl (pl_L h)
    have h1 := pl_R (L := wireW G 0 (U 0) (V 0)) (n := 24) rfl h0
    have h2 := pl_R (L := brd G ba bw (pf4 (U 0 0) (U 1 0) (U 2 0) (U 3 0))) (n := 2) rfl h1
    rw [mp_a (show 24 + 24 = 48 from rfl), mp_a (show 48 + 2 = 2 + 24 * 2 from rfl)] at h2
    exact h2
  · have h9 : (js.map (· + 24)).map (fun k => (wireW G 2 (U 2) (V 2) ++ wireW G 3 (U 3) (V 3))[k]?) = w.map some := pl_R rfl h
    have h0 := pl_R (L := wireW G 1 (U 1) (V 1)) (n := 24) rfl h9
    have h1 := pl_R (L := wireW G 0 (U 0) (V 0)) (n := 24) rfl h0
    have h2 := pl_R (L := brd G ba bw (pf4 (U 0 0) (U 1 0) (U 2 0) (U 3 0))) (n := 2) rfl h1
    rw [mp_a (show 24 + 24 = 48 from rfl), mp_a (show 24 + 48 = 72 from rfl), mp_a (show 72 + 2 = 2 + 24 * 3 from rfl)] at h2
    exact h2
theorem bd_put {G : GT} {ba bw : Nat} {U : Nat → Nat → Nat} {V : Nat → WV} {i : Nat} (hi : i < 4) {js : List Nat} {w : va_W} {v' : WV} (hj : ∀ j ∈ js, j < 24) (h : sb_puts (wireW G i (U i) (V i)) js w = wireW G i (U i) v') : sb_puts (boardW G ba bw U V) (js.map (· + (2 + 24 * i))) w = boardW G ba bw U (setV V i v') := by
  rcases (show i = 0 ∨ i = 1 ∨ i = 2 ∨ i = 3 by omega) with rfl | rfl | rfl | rfl
  · have h2 := put_R js w (brd G ba bw (pf4 (U 0 0) (U 1 0) (U 2 0) (U 3 0))) (wireW G 0 (U 0) (V 0) ++ (wireW G 1 (U 1) (V 1) ++ (wireW G 2 (U 2) (V 2) ++ wireW G 3 (U 3) (V 3)))) 2 rfl
    rw [put_L js w (wireW G 0 (U 0) (V 0)) _ hj, h] at h2
    exact h2
  · have h2 := put_R (js.map (· + 24)) w (brd G ba bw (pf4 (U 0 0) (U 1 0) (U 2 0) (U 3 0))) (wireW G 0 (U 0) (V 0) ++ (wireW G 1 (U 1) (V 1) ++ (wireW G 2 (U 2) (V 2) ++ wireW G 3 (U 3) (V 3)))) 2 rfl
    rw [put_R js w (wireW G 0 (U 0) (V 0)) _ 24 rfl, put_L js w (wireW G 1 (U 1) (V 1)) _ hj, h, mp_a (show 24 + 2 = 2 + 24 * 1 from rfl)] at h2
    exact h2
  · have h2 := put_R ((js.map (· + 24)).map (· + 24)) w (brd G ba bw (pf4 (U 0 0) (U 1 0) (U 2 0) (U 3 0))) (wireW G 0 (U 0) (V 0) ++ (wireW G 1 (U 1) (V 1) ++ (wireW G 2 (U 2) (V 2) ++ wireW G 3 (U 3) (V 3)))) 2 rfl
    rw [put_R (js.map (· + 24)) w (wireW G 0 (U 0) (V 0)) _ 24 rfl, put_R js w (wireW G 1 (U 1) (V 1)) _ 24 rfl, put_L js w (wireW G 2 (U 2) (V 2)) _ hj, h, mp_a (show 24 + 24 = 48 from rfl), mp_a (show 48 + 2 = 2 + 24 * 2 from rfl)] at h2
    exact h2
  · have h2 := put_R (((js.map (· + 24)).map (· + 24)).map (· + 24)) w (brd G ba bw (pf4 (U 0 0) (U 1 0) (U 2 0) (U 3 0))) (wireW G 0 (U 0) (V 0) ++ (wireW G 1 (U 1) (V 1) ++ (wireW G 2 (U 2) (V 2) ++ wireW G 3 (U 3) (V 3)))) 2 rfl
    rw [put_R ((js.map (· + 24)).map (· + 24)) w (wireW G 0 (U 0) (V 0)) _ 24 rfl, put_R (js.map (· + 24)) w (wireW G 1 (U 1) (V 1)) _ 24 rfl, put_R js w (wireW G 2 (U 2) (V 2)) _ 24 rfl, h, mp_a (show 24 + 24 = 48 from rfl), mp_a (show 24 + 48 = 72 from rfl), mp_a (show 72 + 2 = 2 + 24 * 3 from rfl)] at h2
    exact h2
/-- the reference's values: its seventeen rows, and what it threw -/
abbrev MV : Type := (Nat → Int64) × (Nat → Int64) × (Nat → Int64) × (Nat → Int64) × (Nat → Int32) × (Nat → Int32) × (Nat → Int32) × (Nat → Int32) × (Nat → Int32) × (Nat → Int64) × (Nat → Int64) × (Nat → Int32) × (Nat → Int32) × (Nat → Int32) × (Nat → Int32) × (Nat → Int64) × (Nat → Int32) × Int32
abbrev m_f0 (M : MV) := M.1
abbrev m_f1 (M : MV) := M.2.1
abbrev m_f2 (M : MV) := M.2.2.1
abbrev m_f3 (M : MV) := M.2.2.2.1
abbrev m_f4 (M : MV) := M.2.2.2.2.1
abbrev m_f5 (M : MV) := M.2.2.2.2.2.1
abbrev m_f6 (M : MV) := M.2.2.2.2.2.2.1
abbrev m_f7 (M : MV) := M.2.2.2.2.2.2.2.1
abbrev m_f8 (M : MV) := M.2.2.2.2.2.2.2.2.1
abbrev m_f9 (M : MV) := M.2.2.2.2.2.2.2.2.2.1
abbrev m_f10 (M : MV) := M.2.2.2.2.2.2.2.2.2.2.1
abbrev m_f11 (M : MV) := M.2.2.2.2.2.2.2.2.2.2.2.1
abbrev m_f12 (M : MV) := M.2.2.2.2.2.2.2.2.2.2.2.2.1
abbrev m_f13 (M : MV) := M.2.2.2.2.2.2.2.2.2.2.2.2.2.1
abbrev m_f14 (M : MV) := M.2.2.2.2.2.2.2.2.2.2.2.2.2.2.1
abbrev m_f15 (M : MV) := M.2.2.2.2.2.2.2.2.2.2.2.2.2.2.2.1
abbrev m_f16 (M : MV) := M.2.2.2.2.2.2.2.2.2.2.2.2.2.2.2.2.1
abbrev m_cd (M : MV) := M.2.2.2.2.2.2.2.2.2.2.2.2.2.2.2.2.2
def modW (G : GT) (ma : Nat) (d : Nat → Nat) (M : MV) : va_W := [(ma, .inr (4, [.ref (d 0), .ref (d 1), .ref (d 2), .ref (d 3), .ref (d 4), .ref (d 5), .ref (d 6), .ref (d 7), .ref (d 8), .ref (d 9), .ref (d 10), .ref (d 11), .ref (d 12), .ref (d 13), .ref (d 14), .ref (d 15), .ref (d 16), .int (m_cd M)])),
  (d 0, .inl (G.2.1 1, 4, .inr (.inl (m_f0 M)))),
  (d 1, .inl (G.2.1 1, 4, .inr (.inl (m_f1 M)))),
  (d 2, .inl (G.2.1 1, 4, .inr (.inl (m_f2 M)))),
  (d 3, .inl (G.2.1 1, 4, .inr (.inl (m_f3 M)))),
  (d 4, .inl (G.2.1 0, 4, .inl (m_f4 M))),
  (d 5, .inl (G.2.1 0, 4, .inl (m_f5 M))),
  (d 6, .inl (G.2.1 2, 4, .inl (m_f6 M))),
  (d 7, .inl (G.2.1 2, 4, .inl (m_f7 M))),
  (d 8, .inl (G.2.1 0, 48, .inl (m_f8 M))),
  (d 9, .inl (G.2.1 1, 48, .inr (.inl (m_f9 M)))),
  (d 10, .inl (G.2.1 1, 48, .inr (.inl (m_f10 M)))),
  (d 11, .inl (G.2.1 2, 48, .inl (m_f11 M))),
  (d 12, .inl (G.2.1 2, 48, .inl (m_f12 M))),
  (d 13, .inl (G.2.1 0, 16, .inl (m_f13 M))),
  (d 14, .inl (G.2.1 0, 192, .inl (m_f14 M))),
  (d 15, .inl (G.2.1 1, 192, .inr (.inl (m_f15 M)))),
  (d 16, .inl (G.2.1 2, 192, .inl (m_f16 M)))]
theorem modW_len (G : GT) (ma : Nat) (d : Nat → Nat) (M : MV) : (modW G ma d M).length = 18 := rfl
/-- the law's world -/
def lawW (G : GT) (ba bw : Nat) (U : Nat → Nat → Nat) (V : Nat → WV) (ma : Nat) (d : Nat → Nat) (M : MV) (qo : Nat) (ox : Nat → Int64) : va_W := boardW G ba bw U V ++ (modW G ma d M ++ [(qo, .inl (G.2.1 1, 1, .inr (.inl ox)))])
def M0 : MV := ((fun _ => 0), (fun _ => 0), (fun _ => 0), (fun _ => 0), (fun _ => 0), (fun _ => 0), (fun _ => 0), (fun _ => 0), (fun _ => 0), (fun _ => 0), (fun _ => 0), (fun _ => 0), (fun _ => 0), (fun _ => 0), (fun _ => 0), (fun _ => 0), (fun _ => 0), 0)
end SL
