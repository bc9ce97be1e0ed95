/-- a row of four references -/
def pf4 (a b c d : Nat) : Nat → Option Nat := va_up (va_up (va_up (va_up (fun _ => none) 0 (some a)) 1 (some b)) 2 (some c)) 3 (some d)
/-- a wire's values: traced, dry, wet, rounds, greatest, least, count, kinds, knobs, on, outs, lights; the presets' counts, kinds, knobs, on -/
abbrev WV : Type := Int32 × Int64 × Int64 × Nat × Int64 × Int64 × Nat × (Nat → Int32) × (Nat → Int64) × (Nat → Int32) × (Nat → Int64) × (Nat → Int32) × (Nat → Nat) × (Nat → Nat → Int32) × (Nat → Nat → Int64) × (Nat → Nat → Int32)
abbrev v_tr (v : WV) := v.1
abbrev v_dr (v : WV) := v.2.1
abbrev v_wt (v : WV) := v.2.2.1
abbrev v_rd (v : WV) := v.2.2.2.1
abbrev v_gr (v : WV) := v.2.2.2.2.1
abbrev v_le (v : WV) := v.2.2.2.2.2.1
abbrev v_n (v : WV) := v.2.2.2.2.2.2.1
abbrev v_ki (v : WV) := v.2.2.2.2.2.2.2.1
abbrev v_kn (v : WV) := v.2.2.2.2.2.2.2.2.1
abbrev v_on (v : WV) := v.2.2.2.2.2.2.2.2.2.1
abbrev v_ou (v : WV) := v.2.2.2.2.2.2.2.2.2.2.1
abbrev v_li (v : WV) := v.2.2.2.2.2.2.2.2.2.2.2.1
abbrev v_pn (v : WV) := v.2.2.2.2.2.2.2.2.2.2.2.2.1
abbrev v_pki (v : WV) := v.2.2.2.2.2.2.2.2.2.2.2.2.2.1
abbrev v_pkn (v : WV) := v.2.2.2.2.2.2.2.2.2.2.2.2.2.2.1
abbrev v_pon (v : WV) := v.2.2.2.2.2.2.2.2.2.2.2.2.2.2.2
def wireW (G : GT) (i : Nat) (u : Nat → Nat) (v : WV) : va_W := [(u 0, .inr (2, [.ref (G.2.2.1 i), .ref (u 1), .ref (u 5), .ref (u 22), .ref (u 23), .int (v_tr v), .long (v_dr v), .long (v_wt v), .int (nI (v_rd v)), .long (v_gr v), .long (v_le v)])),
  (u 1, .inr (0, [.ref (u 2), .ref (u 3), .ref (u 4), .int (nI (v_n v))])),
  (u 2, .inl (G.2.1 0, 12, .inl (v_ki v))),
  (u 3, .inl (G.2.1 1, 12, .inr (.inl (v_kn v)))),
  (u 4, .inl (G.2.1 2, 12, .inl (v_on v))),
  (u 5, .inl (G.2.1 3, 4, .inr (.inr (.inr (.inr (pf4 (u 6) (u 10) (u 14) (u 18))))))),
  (u 6, .inr (0, [.ref (u 7), .ref (u 8), .ref (u 9), .int (nI (v_pn v 0))])),
  (u 7, .inl (G.2.1 0, 12, .inl (v_pki v 0))),
  (u 8, .inl (G.2.1 1, 12, .inr (.inl (v_pkn v 0)))),
  (u 9, .inl (G.2.1 2, 12, .inl (v_pon v 0))),
  (u 10, .inr (0, [.ref (u 11), .ref (u 12), .ref (u 13), .int (nI (v_pn v 1))])),
  (u 11, .inl (G.2.1 0, 12, .inl (v_pki v 1))),
  (u 12, .inl (G.2.1 1, 12, .inr (.inl (v_pkn v 1)))),
  (u 13, .inl (G.2.1 2, 12, .inl (v_pon v 1))),
  (u 14, .inr (0, [.ref (u 15), .ref (u 16), .ref (u 17), .int (nI (v_pn v 2))])),
  (u 15, .inl (G.2.1 0, 12, .inl (v_pki v 2))),
  (u 16, .inl (G.2.1 1, 12, .inr (.inl (v_pkn v 2)))),
  (u 17, .inl (G.2.1 2, 12, .inl (v_pon v 2))),
  (u 18, .inr (0, [.ref (u 19), .ref (u 20), .ref (u 21), .int (nI (v_pn v 3))])),
  (u 19, .inl (G.2.1 0, 12, .inl (v_pki v 3))),
  (u 20, .inl (G.2.1 1, 12, .inr (.inl (v_pkn v 3)))),
  (u 21, .inl (G.2.1 2, 12, .inl (v_pon v 3))),
  (u 22, .inl (G.2.1 1, 12, .inr (.inl (v_ou v)))),
  (u 23, .inl (G.2.1 2, 12, .inl (v_li v)))]
def v0 : WV := (0, 0, 0, 0, 0, 0, 0, (fun _ => 0), (fun _ => 0), (fun _ => 0), (fun _ => 0), (fun _ => 0), (fun _ => 0), (fun _ _ => 0), (fun _ _ => 0), (fun _ _ => 0))
