/-! WHAT A WHOLE PROGRAM IS MADE OF -/
def gp (w : Nat → Int32) (n i j : Nat) : Prop := (i < n ∧ w i = 63 ∧ ∃ m, xp w n 4 (i + 1) m ∧ m < n ∧ (w m = 60 ∨ w m = 61) ∧ xp w n 4 (m + 1) j) ∨ (¬ (i < n ∧ w i = 63) ∧ j = i)
def ap (w : Nat → Int32) (n i j : Nat) : Prop := i < n ∧ ((w i = 33 ∧ ∃ m, xp w n 4 (i + 1) m ∧ xp w n 4 m j) ∨ ((w i = 126 ∨ w i = 38 ∨ w i = 36) ∧ xp w n 4 (i + 1) j) ∨ (w i = 64 ∧ i + 2 < n ∧ (48 ≤ w (i + 1) ∧ w (i + 1) ≤ 50) ∧ isV (w (i + 2)) = true ∧ j = i + 3) ∨ (w i = 42 ∧ i + 1 < n ∧ (48 ≤ w (i + 1) ∧ w (i + 1) ≤ 49) ∧ j = i + 2))
def az (w : Nat → Int32) (n : Nat) : Nat → Nat → Nat → Prop
  | 0, _, _ => False
  | m + 1, i, j => (i < n ∧ w i = 59 ∧ j = i + 1) ∨ (¬ (i < n ∧ w i = 59) ∧ ∃ i1, ap w n i i1 ∧ az w n m i1 j)
def cz (w : Nat → Int32) (n i j1 j2 j : Nat) : Prop := yp w n 4 i j1 ∧ gp w n j1 j2 ∧ j2 < n ∧ w j2 = 58 ∧ az w n 60 (j2 + 1) j
def pz (w : Nat → Int32) (n : Nat) : Nat → Nat → Prop
  | 0, i => n ≤ i
  | m + 1, i => n ≤ i ∨ (i < n ∧ ∃ j1 j2 j, cz w n i j1 j2 j ∧ pz w n m j)
section IV
variable {w : Nat → Int32} {n : Nat}
theorem pq_inv {r : Bool × Nat} {k : Nat → Bool × Nat} (h : (pq r k).1 = true) : r.1 = true ∧ (k r.2).1 = true ∧ pq r k = k r.2 := by
  unfold pq at h ⊢
  by_cases e : r.1 = true
  · rw [if_pos e] at h ⊢; exact ⟨e, h, rfl⟩
  · rw [if_neg e] at h; exact absurd h e
theorem pa_inv {x : Int32} {i : Nat} (h : (pa w n x i).1 = true) : i < n ∧ w i = x ∧ (pa w n x i).2 = i + 1 := by
  unfold pa at h ⊢
  by_cases e : i < n ∧ w i = x
  · rw [if_pos e]; exact ⟨e.1, e.2, rfl⟩
  · rw [if_neg e] at h; exact (nomatch (h : false = true))
theorem pf_inv {x y : Int32} {i : Nat} (h : (pf w n x y i).1 = true) : i < n ∧ (x ≤ w i ∧ w i ≤ y) ∧ (pf w n x y i).2 = i + 1 := by
  unfold pf at h ⊢
  by_cases e : i < n ∧ x ≤ w i ∧ w i ≤ y
  · rw [if_pos e]; exact ⟨e.1, e.2, rfl⟩
  · rw [if_neg e] at h; exact (nomatch (h : false = true))
theorem isD_of {x : Int32} (h : 48 ≤ x ∧ x ≤ 57) : isD x = true := decide_eq_true h
theorem simple_inv {i : Nat} (h : (pSimple w n i).1 = true) : i < n ∧ ((w i = 39 ∧ i + 2 < n ∧ isD (w (i + 1)) = true ∧ isD (w (i + 2)) = true ∧ (pSimple w n i).2 = i + 3) ∨ (¬ w i = 39 ∧ (isD (w i) = true ∨ isA (w i) = true ∨ isV (w i) = true) ∧ (pSimple w n i).2 = i + 1)) := by
  by_cases h39 : i < n ∧ w i = 39
  · rw [pSimple_q h39.1 h39.2] at h ⊢
    obtain ⟨a1, a2, a3⟩ := pq_inv h
    obtain ⟨b1, b2, b3⟩ := pf_inv a1
    rw [b3] at a2
    obtain ⟨c1, c2, c3⟩ := pf_inv a2
    rw [a3, b3]
    exact ⟨h39.1, .inl ⟨h39.2, c1, isD_of b2, isD_of c2, c3⟩⟩
  · rw [pSimple_n h39] at h ⊢
    by_cases e : i < n ∧ (isD (w i) = true ∨ isA (w i) = true ∨ isV (w i) = true)
    · rw [if_pos e]; exact ⟨e.1, .inr ⟨fun hh => h39 ⟨e.1, hh⟩, e.2, rfl⟩⟩
    · rw [if_neg e] at h; exact (nomatch (h : false = true))
theorem x0_of {i : Nat} (h40 : ¬ px w n i = 40) (hop : ¬ (px w n i = 43 ∨ px w n i = 45 ∨ px w n i = 47)) (h : (po (pa w n 35 i) fun j => pSimple w n j).1 = true) : x0 w n i (po (pa w n 35 i) fun j => pSimple w n j).2 := by
  have hO : i < n → ¬ isO (w i) := by
    intro hi ho
    have e : px w n i = w i := if_pos hi
    rw [e] at h40 hop
    rcases ho with h | h | h | h
    · exact h40 h
    · exact hop (.inl h)
    · exact hop (.inr (.inl h))
    · exact hop (.inr (.inr h))
  by_cases e : i < n ∧ w i = 35
  · rw [pa_at e, po_t]
    exact ⟨e.1, hO e.1, .inr ⟨by rw [e.2]; decide, .inr (.inr (.inr e.2)), rfl⟩⟩
  · rw [pa_no e, po_f] at h ⊢
    obtain ⟨a1, a2⟩ := simple_inv h
    refine ⟨a1, hO a1, ?_⟩
    rcases a2 with a2 | ⟨a2, a3, a4⟩
    · exact .inl a2
    · exact .inr ⟨a2, by rcases a3 with a | a | a <;> first | exact .inl a | exact .inr (.inl a) | exact .inr (.inr (.inl a)), a4⟩
theorem xp_of : ∀ k i, (pExp w n k i).1 = true → xp w n k i (pExp w n k i).2
  | 0, i, h => by
    unfold pExp at h ⊢
    by_cases h40 : px w n i = 40
    · rw [if_pos h40] at h; exact (nomatch (h : false = true))
    · rw [if_neg h40] at h ⊢
      by_cases hop : px w n i = 43 ∨ px w n i = 45 ∨ px w n i = 47
      · rw [if_pos hop] at h; exact (nomatch (h : false = true))
      · rw [if_neg hop] at h ⊢; exact x0_of h40 hop h
  | k + 1, i, h => by
    unfold pExp at h ⊢
    by_cases h40 : px w n i = 40
    · rw [if_pos h40] at h ⊢
      have e := (px_iff (by decide)).mp h40
      rw [pa_at e, pq_t] at h ⊢
      obtain ⟨a1, a2, a3⟩ := pq_inv h
      obtain ⟨b1, b2, b3⟩ := pq_inv a2
      obtain ⟨c1, c2, c3⟩ := pq_inv b2
      obtain ⟨p1, p2, p3⟩ := pa_inv b1
      obtain ⟨q1, q2, q3⟩ := pa_inv c2
      have i1 := xp_of k _ a1
      have i2 := xp_of k _ c1
      rw [p3] at i2 q1 q2 q3 c3
      rw [a3, b3, p3, c3, q3]
      exact .inl ⟨e.1, e.2, _, _, i1, p1, p2, i2, q1, q2, rfl⟩
    · rw [if_neg h40] at h ⊢
      by_cases hop : px w n i = 43 ∨ px w n i = 45 ∨ px w n i = 47
      · rw [if_pos hop] at h ⊢
        obtain ⟨a1, a2, a3⟩ := pq_inv h
        obtain ⟨p1, p2, p3⟩ := pa_inv a1
        obtain ⟨b1, b2, b3⟩ := pq_inv a2
        have i1 := xp_of k _ b1
        have i2 := xp_of k _ b2
        rw [p3] at i1 i2 b3
        rw [a3, p3, b3]
        refine .inr (.inl ⟨p1, ?_, _, i1, i2⟩)
        rw [p2]; exact hop
      · rw [if_neg hop] at h ⊢; exact .inr (.inr (x0_of h40 hop h))
theorem y0_of {i : Nat} (h40 : ¬ px w n i = 40) (h : (po (pa w n 95 i) fun j => pSimple w n j).1 = true) : y0 w n i (po (pa w n 95 i) fun j => pSimple w n j).2 := by
  by_cases e : i < n ∧ w i = 95
  · rw [pa_at e, po_t]
    refine ⟨e.1, by rw [e.2]; decide, by rw [e.2]; decide, .inr ⟨by rw [e.2]; decide, .inr (.inr (.inr e.2)), rfl⟩⟩
  · rw [pa_no e, po_f] at h ⊢
    obtain ⟨a1, a2⟩ := simple_inv h
    have key : ∀ x : Int32, x = 43 ∨ x = 45 ∨ x = 47 ∨ x = 35 → ¬ (x = 39 ∨ isD x = true ∨ isA x = true ∨ isV x = true) := by
      intro x hx; rcases hx with rfl | rfl | rfl | rfl <;> decide
    have hs : w i = 39 ∨ isD (w i) = true ∨ isA (w i) = true ∨ isV (w i) = true := by
      rcases a2 with a2 | ⟨a2, a3, a4⟩
      · exact .inl a2.1
      · exact .inr a3
    refine ⟨a1, ?_, fun h => key _ (.inr (.inr (.inr h))) hs, ?_⟩
    · rintro (h | h | h | h)
      · exact h40 ((if_pos a1).trans h)
      · exact key _ (.inl h) hs
      · exact key _ (.inr (.inl h)) hs
      · exact key _ (.inr (.inr (.inl h))) hs
    · rcases a2 with a2 | ⟨a2, a3, a4⟩
      · exact .inl a2
      · exact .inr ⟨a2, by rcases a3 with a | a | a <;> first | exact .inl a | exact .inr (.inl a) | exact .inr (.inr (.inl a)), a4⟩
theorem yp_of : ∀ k i, (pPat w n k i).1 = true → yp w n k i (pPat w n k i).2
  | 0, i, h => by
    unfold pPat at h ⊢
    by_cases h40 : px w n i = 40
    · rw [if_pos h40] at h; exact (nomatch (h : false = true))
    · rw [if_neg h40] at h ⊢; exact y0_of h40 h
  | k + 1, i, h => by
    unfold pPat at h ⊢
    by_cases h40 : px w n i = 40
    · rw [if_pos h40] at h ⊢
      have e := (px_iff (by decide)).mp h40
      rw [pa_at e, pq_t] at h ⊢
      obtain ⟨a1, a2, a3⟩ := pq_inv h
      obtain ⟨b1, b2, b3⟩ := pq_inv a2
      obtain ⟨c1, c2, c3⟩ := pq_inv b2
      obtain ⟨p1, p2, p3⟩ := pa_inv b1
      obtain ⟨q1, q2, q3⟩ := pa_inv c2
      have i1 := yp_of k _ a1
      have i2 := yp_of k _ c1
      rw [p3] at i2 q1 q2 q3 c3
      rw [a3, b3, p3, c3, q3]
      exact .inl ⟨e.1, e.2, _, _, i1, p1, p2, i2, q1, q2, rfl⟩
    · rw [if_neg h40] at h ⊢; exact .inr (y0_of h40 h)
theorem gp_of {i : Nat} (h : (pGuard w n i).1 = true) : gp w n i (pGuard w n i).2 := by
  unfold pGuard at h ⊢
  by_cases e : i < n ∧ w i = 63
  · rw [pa_at e, if_pos rfl] at h ⊢
    obtain ⟨a1, a2, a3⟩ := pq_inv h
    obtain ⟨b1, b2, b3⟩ := pq_inv a2
    have i1 := xp_of 4 _ a1
    have i2 := xp_of 4 _ b2
    generalize hj : (pExp w n 4 (true, i + 1).2).2 = m at *
    have hm : m < n ∧ (w m = 60 ∨ w m = 61) ∧ (po (pa w n 60 m) fun j => pa w n 61 j).2 = m + 1 := by
      by_cases e6 : m < n ∧ w m = 60
      · rw [pa_at e6, po_t]; exact ⟨e6.1, .inl e6.2, rfl⟩
      · rw [pa_no e6, po_f] at b1 ⊢
        obtain ⟨c1, c2, c3⟩ := pa_inv b1
        exact ⟨c1, .inr c2, c3⟩
    rw [hm.2.2] at i2 b3
    rw [a3, b3]
    exact .inl ⟨e.1, e.2, m, i1, hm.1, hm.2.1, i2⟩
  · rw [pa_no e, if_neg (show ¬ (false = true) by decide)]; exact .inr ⟨e, rfl⟩
theorem ap_of {i : Nat} (h : (pAct w n i).1 = true) : ap w n i (pAct w n i).2 := by
  unfold pAct at h ⊢
  by_cases e : i < n ∧ w i = 33
  · rw [pa_at e, if_pos rfl] at h ⊢
    obtain ⟨a1, a2, a3⟩ := pq_inv h
    rw [a3]
    exact ⟨e.1, .inl ⟨e.2, _, xp_of 4 _ a1, xp_of 4 _ a2⟩⟩
  · rw [pa_no e, if_neg (show ¬ (false = true) by decide)] at h ⊢
    by_cases e3 : (pAct3 w n (false, i).2).1 = true
    · rw [if_pos e3] at h ⊢
      have h3 : i < n ∧ (w i = 126 ∨ w i = 38 ∨ w i = 36) ∧ (pAct3 w n i).2 = i + 1 := by
        change (pAct3 w n i).1 = true at e3
        unfold pAct3 at e3 ⊢
        by_cases c1 : i < n ∧ w i = 126
        · rw [pa_at c1, po_t]; exact ⟨c1.1, .inl c1.2, rfl⟩
        · rw [pa_no c1, po_f] at e3 ⊢
          by_cases c2 : i < n ∧ w i = 38
          · rw [pa_at c2, po_t]; exact ⟨c2.1, .inr (.inl c2.2), rfl⟩
          · rw [pa_no c2, po_f] at e3 ⊢
            obtain ⟨p1, p2, p3⟩ := pa_inv e3
            exact ⟨p1, .inr (.inr p2), p3⟩
      have i1 := xp_of 4 _ h
      have e5 : (pAct3 w n (false, i).2).2 = i + 1 := h3.2.2
      rw [e5] at i1 ⊢
      exact ⟨h3.1, .inr (.inl ⟨h3.2.1, i1⟩)⟩
    · rw [if_neg e3] at h ⊢
      have h3 : (pAct3 w n (false, i).2).2 = i := by
        change ¬ (pAct3 w n i).1 = true at e3
        show (pAct3 w n i).2 = i
        unfold pAct3 at e3 ⊢
        by_cases c1 : i < n ∧ w i = 126
        · rw [pa_at c1, po_t] at e3; exact absurd rfl e3
        · rw [pa_no c1, po_f] at e3 ⊢
          by_cases c2 : i < n ∧ w i = 38
          · rw [pa_at c2, po_t] at e3; exact absurd rfl e3
          · rw [pa_no c2, po_f] at e3 ⊢
            by_cases c3 : i < n ∧ w i = 36
            · rw [pa_at c3] at e3; exact absurd rfl e3
            · rw [pa_no c3]
      rw [h3] at h ⊢
      by_cases e4 : i < n ∧ w i = 64
      · rw [pa_at e4, if_pos rfl] at h ⊢
        obtain ⟨a1, a2, a3⟩ := pq_inv h
        obtain ⟨b1, b2, b3⟩ := pf_inv a1
        rw [b3, pVar_eq] at a2
        rw [a3, b3, pVar_eq]
        by_cases c : (true, i + 1).2 + 1 < n ∧ isV (w ((true, i + 1).2 + 1)) = true
        · rw [if_pos c]; exact ⟨e4.1, .inr (.inr (.inl ⟨e4.2, c.1, b2, c.2, rfl⟩))⟩
        · rw [if_neg c] at a2; exact (nomatch (a2 : false = true))
      · rw [pa_no e4, if_neg (show ¬ (false = true) by decide)] at h ⊢
        obtain ⟨a1, a2, a3⟩ := pq_inv h
        obtain ⟨b1, b2, b3⟩ := pa_inv a1
        rw [b3] at a2
        obtain ⟨c1, c2, c3⟩ := pf_inv a2
        rw [a3, b3, c3]
        exact ⟨b1, .inr (.inr (.inr ⟨b2, c1, c2, rfl⟩))⟩
theorem az_of : ∀ m i, (pActs w n m i).1 = true → az w n m i (pActs w n m i).2
  | 0, i, h => (nomatch (h : false = true))
  | m + 1, i, h => by
    unfold pActs at h ⊢
    by_cases e : i < n ∧ w i = 59
    · rw [pa_at e, if_pos rfl]; exact .inl ⟨e.1, e.2, rfl⟩
    · rw [pa_no e, if_neg (show ¬ (false = true) by decide)] at h ⊢
      obtain ⟨a1, a2, a3⟩ := pq_inv h
      rw [a3]
      exact .inr ⟨e, _, ap_of a1, az_of m _ a2⟩
theorem gp_n {i j : Nat} (h : gp w n i j) (hi : i ≤ n) : j ≤ n ∧ i ≤ j := by
  rcases h with ⟨_, _, m, a, _, _, b⟩ | ⟨_, rfl⟩
  · have := xp_n 4 a; have := xp_n 4 b; omega
  · omega
theorem ap_n {i j : Nat} (h : ap w n i j) : j ≤ n ∧ i < j := by
  obtain ⟨h1, ⟨_, m, a, b⟩ | ⟨_, a⟩ | ⟨_, _, _, _, _⟩ | ⟨_, _, _, _⟩⟩ := h
  · have := xp_n 4 a; have := xp_n 4 b; omega
  · have := xp_n 4 a; omega
  · omega
  · omega
theorem az_n : ∀ m {i j : Nat}, az w n m i j → j ≤ n ∧ i < j
  | 0, _, _, h => h.elim
  | m + 1, i, j, h => by
    rcases h with ⟨_, _, rfl⟩ | ⟨_, i1, a, b⟩
    · omega
    · have := ap_n a; have := az_n m b; omega
theorem cz_n {i j1 j2 j : Nat} (h : cz w n i j1 j2 j) : i < j1 ∧ j1 ≤ j2 ∧ j2 + 1 < j ∧ j ≤ n := by
  obtain ⟨a, b, c, d, e⟩ := h
  have := yp_n 4 a; have := gp_n b (by omega); have := az_n 60 e; omega
theorem pz_of : ∀ m i, n ≤ i + m → pAll w n m i = none → pz w n m i
  | 0, i, hn, _ => by show n ≤ i; omega
  | m + 1, i, hn, h => by
    unfold pAll at h
    by_cases e : n ≤ i
    · exact .inl e
    · rw [if_neg e] at h
      by_cases e2 : (pClause w n i).1 = true
      · rw [if_pos e2] at h
        have hc : ∃ j1 j2, cz w n i j1 j2 (pClause w n i).2 := by
          unfold pClause at e2 ⊢
          obtain ⟨a1, a2, a3⟩ := pq_inv e2
          obtain ⟨b1, b2, b3⟩ := pq_inv a2
          obtain ⟨c1, c2, c3⟩ := pq_inv b2
          obtain ⟨p1, p2, p3⟩ := pa_inv c1
          rw [p3] at c2
          rw [a3, b3, c3, p3]
          exact ⟨_, _, yp_of 4 _ a1, gp_of b1, p1, p2, az_of 60 _ c2⟩
        obtain ⟨j1, j2, hc⟩ := hc
        have := cz_n hc
        exact .inr ⟨by omega, j1, j2, _, hc, pz_of m _ (by omega) h⟩
      · rw [if_neg e2] at h; exact (nomatch h)
/-- no clause ends within a pattern, an expression, a guard -/
theorem no59_x0 {i j : Nat} (h : x0 w n i j) : ∀ k, i ≤ k → k < j → ¬ w k = 59 := by
  intro k h1 h2 h9
  obtain ⟨_, ho, ⟨a, _, b, c, rfl⟩ | ⟨_, b, rfl⟩⟩ := h
  · have : k = i ∨ k = i + 1 ∨ k = i + 2 := by omega
    rcases this with rfl | rfl | rfl
    · rw [h9] at a; exact absurd a (by decide)
    · rw [h9] at b; exact absurd b (by decide)
    · rw [h9] at c; exact absurd c (by decide)
  · have : k = i := by omega
    subst this; rw [h9] at b; exact absurd b (by decide)
theorem no59_xp : ∀ q {i j : Nat}, xp w n q i j → ∀ k, i ≤ k → k < j → ¬ w k = 59
  | 0, _, _, h => no59_x0 h
  | q + 1, i, j, h => by
    intro k h1 h2 h9
    rcases h with ⟨_, h40, j1, j2, a1, a2, a3, a4, a5, a6, rfl⟩ | ⟨_, ho, j1, a1, a2⟩ | h
    · have n1 := xp_n q a1
      have n2 := xp_n q a4
      by_cases e1 : k = i
      · subst e1; rw [h9] at h40; exact absurd h40 (by decide)
      · by_cases e2 : k < j1
        · exact no59_xp q a1 k (by omega) e2 h9
        · by_cases e3 : k = j1
          · subst e3; rw [h9] at a3; exact absurd a3 (by decide)
          · by_cases e4 : k < j2
            · exact no59_xp q a4 k (by omega) e4 h9
            · have e5 : k = j2 := by omega
              subst e5; rw [h9] at a6; exact absurd a6 (by decide)
    · have n1 := xp_n q a1
      by_cases e1 : k = i
      · subst e1; rw [h9] at ho; exact absurd ho (by decide)
      · by_cases e2 : k < j1
        · exact no59_xp q a1 k (by omega) e2 h9
        · exact no59_xp q a2 k (by omega) h2 h9
    · exact no59_x0 h k h1 h2 h9
theorem no59_y0 {i j : Nat} (h : y0 w n i j) : ∀ k, i ≤ k → k < j → ¬ w k = 59 := by
  intro k h1 h2 h9
  by_cases h5 : w i = 95
  · have := y0_39 h (.inl h5)
    have : k = i := by omega
    subst this; rw [h9] at h5; exact absurd h5 (by decide)
  · exact no59_x0 (y0_x h h5) k h1 h2 h9
theorem no59_yp : ∀ q {i j : Nat}, yp w n q i j → ∀ k, i ≤ k → k < j → ¬ w k = 59
  | 0, _, _, h => no59_y0 h
  | q + 1, i, j, h => by
    intro k h1 h2 h9
    rcases h with ⟨_, h40, j1, j2, a1, a2, a3, a4, a5, a6, rfl⟩ | h
    · have n1 := yp_n q a1
      have n2 := yp_n q a4
      by_cases e1 : k = i
      · subst e1; rw [h9] at h40; exact absurd h40 (by decide)
      · by_cases e2 : k < j1
        · exact no59_yp q a1 k (by omega) e2 h9
        · by_cases e3 : k = j1
          · subst e3; rw [h9] at a3; exact absurd a3 (by decide)
          · by_cases e4 : k < j2
            · exact no59_yp q a4 k (by omega) e4 h9
            · have e5 : k = j2 := by omega
              subst e5; rw [h9] at a6; exact absurd a6 (by decide)
    · exact no59_y0 h k h1 h2 h9
theorem no59_gp {i j : Nat} (h : gp w n i j) : ∀ k, i ≤ k → k < j → ¬ w k = 59 := by
  intro k h1 h2 h9
  rcases h with ⟨_, h63, m, a, _, h6, b⟩ | ⟨_, rfl⟩
  · by_cases e1 : k = i
    · subst e1; rw [h9] at h63; exact absurd h63 (by decide)
    · by_cases e2 : k < m
      · exact no59_xp 4 a k (by omega) e2 h9
      · by_cases e3 : k = m
        · subst e3; rw [h9] at h6; exact absurd h6 (by decide)
        · exact no59_xp 4 b k (by omega) h2 h9
  · omega
theorem no59_ap {i j : Nat} (h : ap w n i j) (hi : ¬ w i = 59) : ∀ k, i ≤ k → k < j → ¬ w k = 59 := by
  intro k h1 h2 h9
  by_cases e1 : k = i
  · subst e1; exact hi h9
  · obtain ⟨_, ⟨_, m, a, b⟩ | ⟨_, a⟩ | ⟨_, _, c, v, rfl⟩ | ⟨_, _, c, rfl⟩⟩ := h
    · by_cases e2 : k < m
      · exact no59_xp 4 a k (by omega) e2 h9
      · exact no59_xp 4 b k (by omega) h2 h9
    · exact no59_xp 4 a k (by omega) h2 h9
    · have : k = i + 1 ∨ k = i + 2 := by omega
      rcases this with rfl | rfl
      · rw [h9] at c; exact absurd c (by decide)
      · rw [h9] at v; exact absurd v (by decide)
    · have : k = i + 1 := by omega
      subst this; rw [h9] at c; exact absurd c (by decide)
theorem no59_az : ∀ m {i j : Nat}, az w n m i j → w (j - 1) = 59 ∧ ∀ k, i ≤ k → k < j - 1 → ¬ w k = 59
  | 0, _, _, h => h.elim
  | m + 1, i, j, h => by
    rcases h with ⟨_, h9, rfl⟩ | ⟨h0, i1, a, b⟩
    · exact ⟨by rw [Nat.add_sub_cancel]; exact h9, fun k h1 h2 => by omega⟩
    · have hi : ¬ w i = 59 := fun e => h0 ⟨a.1, e⟩
      obtain ⟨c1, c2⟩ := no59_az m b
      refine ⟨c1, fun k h1 h2 => ?_⟩
      by_cases e : k < i1
      · exact no59_ap a hi k h1 e
      · exact c2 k (by omega) h2
theorem no59_cz {i j1 j2 j : Nat} (h : cz w n i j1 j2 j) : w (j - 1) = 59 ∧ ∀ k, i ≤ k → k < j - 1 → ¬ w k = 59 := by
  have hn := cz_n h
  obtain ⟨a, b, c, d, e⟩ := h
  obtain ⟨e1, e2⟩ := no59_az 60 e
  refine ⟨e1, fun k h1 h2 => ?_⟩
  by_cases k1 : k < j1
  · exact no59_yp 4 a k h1 k1
  · by_cases k2 : k < j2
    · exact no59_gp b k (by omega) k2
    · by_cases k3 : k = j2
      · subst k3; rw [d]; decide
      · exact e2 k (by omega) h2
end IV
