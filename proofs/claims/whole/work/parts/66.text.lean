/-! TEXTS THAT GROW AND ARE CLEARED (written by a program) -/
theorem cA_tl {f : mF} {g : mG} {a : sA} {b : sQ} (h : cA f g a b) {q v : Nat} (hI : q < 9) (hv : v ≤ a 7 q) : cA (m_u f (tq q) 1 (nI v)) g (aU a 7 q v) b := by
  obtain ⟨h0, h1, h2, h3, h4, h5, h6, h7, h8, h9, h10, h11, h12⟩ := h
  have hq := tq_r q
  exact ⟨fun i hi => by rw [m_un (by omega), aU_n (by omega)]; exact h0 i hi, fun i hi => by rw [m_un (by omega), aU_n (by omega)]; exact h1 i hi, fun i hi => by rw [m_un (by omega), aU_n (by omega)]; exact h2 i hi, fun i hi => by rw [m_un (by omega), aU_n (by omega)]; exact h3 i hi, fun i hi => by rw [m_un (by omega), aU_n (by omega)]; exact h4 i hi, fun i hi => by rw [m_un (by omega), aU_n (by omega)]; exact h5 i hi, fun i hi => by rw [m_un (by omega), aU_n (by omega)]; exact h6 i hi, h7, fun i hi k hk => by rw [aU_n (by omega)] at hk; exact h8 i hi k hk, fun i hi k hk => by rw [aU_n (by omega)] at hk; exact h9 i hi k hk, fun j hj => if e : j = q then (by subst e; rw [m_uu, aU_s]) else (by have := tq_r j; rw [m_un (by omega), aU_n (by omega)]; exact h10 j hj), fun i hi k hk => by have := tq_r i; rw [m_un (by omega)]; exact h11 i hi k hk, fun j hj k hk => if e : j = q then (by subst e; rw [aU_s] at hk; rw [m_un (by omega), aU_n (by omega)]; exact h12 j hj k (by omega)) else (by have := tq_r j; rw [aU_n (by omega)] at hk; rw [m_un (by omega), aU_n (by omega)]; exact h12 j hj k hk)⟩
theorem mA_tl {f : mF} {g : mG} {a : sA} {b : sQ} (h : mA f g a b) {q v : Nat} (hI : q < 9) (hv : v ≤ a 7 q) : mA (m_u f 141 q (nI v)) g (aU a 7 q v) b := by
  obtain ⟨h0, h1, h2, h3, h4, h5, h6, h7, h8, h9, h10, h11, h12⟩ := h
  exact ⟨fun i hi => by rw [m_un (by omega), aU_n (by omega)]; exact h0 i hi, fun i hi => by rw [m_un (by omega), aU_n (by omega)]; exact h1 i hi, fun i hi e => by rw [aU_n (by omega)] at e; rw [m_un (by omega), aU_n (by omega)]; exact h2 i hi e, fun i hi e => by rw [aU_n (by omega)] at e; rw [m_un (by omega), aU_n (by omega)]; exact h3 i hi e, fun i hi k hk => by rw [m_un (by omega), aU_n (by omega)]; exact h4 i hi k hk, fun i hi => by rw [m_un (by omega), aU_n (by omega)]; exact h5 i hi, fun i hi => by rw [m_un (by omega), aU_n (by omega)]; exact h6 i hi, fun i hi e => by rw [aU_n (by omega)] at e; exact h7 i hi e, fun i hi k hk e => by rw [aU_n (by omega)] at e; exact h8 i hi k hk e, fun i hi k hk e => by rw [aU_n (by omega)] at e; exact h9 i hi k hk e, fun j hj => if e : j = q then (by subst e; rw [m_uu, aU_s]) else (by rw [m_un (by omega), aU_n (by omega)]; exact h10 j hj), fun j hj k hk e2 => if e : j = q then (by subst e; rw [aU_s] at e2; rw [m_un (by omega), aU_n (by omega)]; exact h11 j hj k hk (by omega)) else (by rw [aU_n (by omega)] at e2; rw [m_un (by omega), aU_n (by omega)]; exact h11 j hj k hk e2), by obtain ⟨fo, h, e⟩ := h12; exact ⟨fo, h, by rw [m_un (by omega)]; exact e⟩⟩
theorem cA_app {f : mF} {g : mG} {a : sA} {b : sQ} {q v : Nat} (h : cA f g a b) (hI : q < 9) (hn : a 7 q < 60) (hv : v < 65536) : cA (m_u (m_u f (tq q + 1) (a 7 q) (nI v)) (tq q) 1 (nI (a 7 q + 1))) g (aU (aU a (10 + q) (a 7 q) v) 7 q (a 7 q + 1)) b := by
  obtain ⟨h0, h1, h2, h3, h4, h5, h6, h7, h8, h9, h10, h11, h12⟩ := h
  have hq := tq_r q
  refine ⟨fun j hj => by rw [m_un (by omega), m_un (by omega), aU_n (by omega), aU_n (by omega)]; exact h0 j hj, fun j hj => by rw [m_un (by omega), m_un (by omega), aU_n (by omega), aU_n (by omega)]; exact h1 j hj, fun j hj => by rw [m_un (by omega), m_un (by omega), aU_n (by omega), aU_n (by omega)]; exact h2 j hj, fun j hj => by rw [m_un (by omega), m_un (by omega), aU_n (by omega), aU_n (by omega)]; exact h3 j hj, fun j hj => by rw [m_un (by omega), m_un (by omega), aU_n (by omega), aU_n (by omega)]; exact h4 j hj, fun j hj => by rw [m_un (by omega), m_un (by omega), aU_n (by omega), aU_n (by omega)]; exact h5 j hj, fun j hj => by rw [m_un (by omega), m_un (by omega), aU_n (by omega), aU_n (by omega)]; exact h6 j hj, h7, fun j hj k hk => by rw [aU_n (by omega), aU_n (by omega)] at hk; exact h8 j hj k hk, fun j hj k hk => by rw [aU_n (by omega), aU_n (by omega)] at hk; exact h9 j hj k hk, fun j hj => ?_, fun j hj k hk => ?_, fun j hj k hk => ?_⟩
  · by_cases e : j = q
    · subst e; rw [m_uu, aU_s]
    · have := tq_r j; rw [m_un (by omega), m_un (by omega), aU_n (by omega), aU_n (by omega)]; exact h10 j hj
  · by_cases e : j = q ∧ k = a 7 q
    · obtain ⟨rfl, rfl⟩ := e
      rw [m_un (by omega), m_uu]
      exact ⟨nI_pos' (by omega), by rw [show (65535 : Int32) = nI 65535 from rfl, nI_leI (by omega) (by omega)]; omega⟩
    · have := tq_r j; rw [m_un (by omega), m_un (by omega)]; exact h11 j hj k hk
  · by_cases e : j = q
    · subst e
      rw [aU_s] at hk
      rw [m_un (by omega), aU_n (by omega)]
      by_cases e2 : k = a 7 j
      · subst e2; rw [m_uu, aU_s]
      · rw [m_un (by omega), aU_n (by omega)]; exact h12 j hj k (by omega)
    · have := tq_r j
      rw [aU_n (by omega), aU_n (by omega)] at hk
      rw [m_un (by omega), m_un (by omega), aU_n (by omega), aU_n (by omega)]; exact h12 j hj k hk
theorem mA_app {f : mF} {g : mG} {a : sA} {b : sQ} {q v : Nat} (h : mA f g a b) (hI : q < 9) (hn : a 7 q < 60) : mA (m_u (m_u f 140 (60 * q + a 7 q) (nI v)) 141 q (nI (a 7 q + 1))) g (aU (aU a (10 + q) (a 7 q) v) 7 q (a 7 q + 1)) b := by
  obtain ⟨h0, h1, h2, h3, h4, h5, h6, h7, h8, h9, h10, h11, h12⟩ := h
  refine ⟨fun j hj => by rw [m_un (by omega), m_un (by omega), aU_n (by omega), aU_n (by omega)]; exact h0 j hj, fun j hj => by rw [m_un (by omega), m_un (by omega), aU_n (by omega), aU_n (by omega)]; exact h1 j hj, fun j hj e => by rw [aU_n (by omega), aU_n (by omega)] at e; rw [m_un (by omega), m_un (by omega), aU_n (by omega), aU_n (by omega)]; exact h2 j hj e, fun j hj e => by rw [aU_n (by omega), aU_n (by omega)] at e; rw [m_un (by omega), m_un (by omega), aU_n (by omega), aU_n (by omega)]; exact h3 j hj e, fun j hj k hk => by rw [m_un (by omega), m_un (by omega), aU_n (by omega), aU_n (by omega)]; exact h4 j hj k hk, fun j hj => by rw [m_un (by omega), m_un (by omega), aU_n (by omega), aU_n (by omega)]; exact h5 j hj, fun j hj => by rw [m_un (by omega), m_un (by omega), aU_n (by omega), aU_n (by omega)]; exact h6 j hj, fun j hj e => by rw [aU_n (by omega), aU_n (by omega)] at e; exact h7 j hj e, fun j hj k hk e => by rw [aU_n (by omega), aU_n (by omega)] at e; exact h8 j hj k hk e, fun j hj k hk e => by rw [aU_n (by omega), aU_n (by omega)] at e; exact h9 j hj k hk e, fun j hj => ?_, fun j hj k hk e => ?_, ?_⟩
  · by_cases e : j = q
    · subst e; rw [m_uu, aU_s]
    · rw [m_un (by omega), m_un (by omega), aU_n (by omega), aU_n (by omega)]; exact h10 j hj
  · by_cases e1 : j = q
    · subst e1
      rw [aU_s] at e
      rw [m_un (by omega), aU_n (by omega)]
      by_cases e2 : k = a 7 j
      · subst e2; rw [m_uu, aU_s]
      · rw [m_un (by omega), aU_n (by omega)]; exact h11 j hj k hk (by omega)
    · rw [aU_n (by omega), aU_n (by omega)] at e
      rw [m_un (by omega), m_un (by omega), aU_n (by omega), aU_n (by omega)]; exact h11 j hj k hk e
  · obtain ⟨fo, q1, q2⟩ := h12
    exact ⟨fo, q1, by rw [m_un (by omega), m_un (by omega)]; exact q2⟩
