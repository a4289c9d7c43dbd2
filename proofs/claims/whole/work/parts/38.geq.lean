/-! BOTH READ A TEXT ALIKE -/
section GQ
variable {w : Nat → Int32} {n : Nat}
def Rz (w : Nat → Int32) (n : Nat) (A : gA) (i j : Nat) (A' : gA) : Prop := i ≤ j ∧ j ≤ n ∧ rdr w n (n - i) A i = rdr w n (n - j) A' j
def Fz (w : Nat → Int32) (n : Nat) (A : gA) (i j : Nat) : Prop := rdr w n (n - i) A i = some j
def Ok (w : Nat → Int32) (n : Nat) (r : Bool × Nat) (A : gA) (i : Nat) (A' : gA) : Prop := if r.1 = true then i < r.2 ∧ Rz w n A i r.2 A' else Fz w n A i r.2
theorem rdr_s {A : gA} {i : Nat} (h : i < n) : rdr w n (n - i) A i = match stp A (w i) with | none => some i | some A' => rdr w n (n - (i + 1)) A' (i + 1) := by
  rw [show n - i = (n - (i + 1)) + 1 by omega]; rfl
theorem rdr_n {A : gA} (h : A.1 ≠ 0) : rdr w n (n - n) A n = some n := by
  rw [Nat.sub_self]; simp only [rdr, h, if_false]
theorem rdr_le {j : Nat} : ∀ {m : Nat} {A : gA} {i : Nat}, i + m = n → ∀ (_ : Unit), rdr w n m A i = some j → j ≤ n
  | 0, A, i, hi, _, h => by
    unfold rdr at h
    split at h
    · exact nomatch h
    · exact Nat.le_of_eq (Option.some.inj h).symm
  | m + 1, A, i, hi, _, h => by
    unfold rdr at h
    split at h
    · have := Option.some.inj h; omega
    · exact rdr_le (by omega) () h
theorem Rz1 {A A' : gA} {i : Nat} (h : i < n) (hs : stp A (w i) = some A') : Rz w n A i (i + 1) A' := ⟨by omega, by omega, by rw [rdr_s h, hs]⟩
theorem Fz1 {A : gA} {i : Nat} (h : i < n) (hs : stp A (w i) = none) : Fz w n A i i := by unfold Fz; rw [rdr_s h, hs]
theorem Fzn {A : gA} {i : Nat} (h : A.1 ≠ 0) (hi : i ≤ n) (hn : ¬ i < n) : Fz w n A i i := by
  obtain rfl : i = n := by omega
  exact rdr_n h
theorem Rz.tr {A A' A'' : gA} {i j k : Nat} (h : Rz w n A i j A') (h' : Rz w n A' j k A'') : Rz w n A i k A'' := ⟨Nat.le_trans h.1 h'.1, h'.2.1, h.2.2.trans h'.2.2⟩
theorem Rz.fl {A A' : gA} {i j k : Nat} (h : Rz w n A i j A') (h' : Fz w n A' j k) : Fz w n A i k := h.2.2.trans h'
theorem Ok.lead {A A' A'' : gA} {i j : Nat} {r : Bool × Nat} (h : Rz w n A i j A') (h' : Ok w n r A' j A'') : Ok w n r A i A'' := by
  unfold Ok at *
  split
  · rename_i hr; rw [if_pos hr] at h'; exact ⟨Nat.lt_of_le_of_lt h.1 h'.1, h.tr h'.2⟩
  · rename_i hr; rw [if_neg hr] at h'; exact h.fl h'
theorem ok_pq {A A' A'' : gA} {i : Nat} {r : Bool × Nat} {k : Nat → Bool × Nat} (h : Ok w n r A i A') (hk : ∀ j, i < j → j ≤ n → Ok w n (k j) A' j A'') : Ok w n (pq r k) A i A'' := by
  unfold pq
  split
  · rename_i hr
    unfold Ok at h; rw [if_pos hr] at h
    exact Ok.lead h.2 (hk r.2 h.1 h.2.2.1)
  · rename_i hr
    unfold Ok at h; rw [if_neg hr] at h
    unfold Ok; rw [if_neg hr]; exact h
theorem Ok.t {A A' : gA} {i j : Nat} (h : i < j) (hr : Rz w n A i j A') : Ok w n (true, j) A i A' := by unfold Ok; rw [if_pos rfl]; exact ⟨h, hr⟩
theorem Ok.f {A A' : gA} {i j : Nat} (h : Fz w n A i j) : Ok w n (false, j) A i A' := by unfold Ok; rw [if_neg (by simp)]; exact h
theorem ok_pa {A A' : gA} {i : Nat} {x : Int32} (h0 : A.1 ≠ 0) (hi : i ≤ n) (h1 : stp A x = some A') (h2 : ∀ c, c ≠ x → stp A c = none) : Ok w n (pa w n x i) A i A' := by
  unfold pa
  split
  · rename_i h; exact Ok.t (by omega) (Rz1 h.1 (by rw [h.2, h1]))
  · rename_i h
    by_cases hin : i < n
    · exact Ok.f (Fz1 hin (h2 _ fun e => h ⟨hin, e⟩))
    · exact Ok.f (Fzn h0 hi hin)
theorem ok_pf {A A' : gA} {i : Nat} {x y : Int32} (h0 : A.1 ≠ 0) (hi : i ≤ n) (h1 : ∀ c, x ≤ c ∧ c ≤ y → stp A c = some A') (h2 : ∀ c, ¬ (x ≤ c ∧ c ≤ y) → stp A c = none) : Ok w n (pf w n x y i) A i A' := by
  unfold pf
  split
  · rename_i h; exact Ok.t (by omega) (Rz1 h.1 (h1 _ h.2))
  · rename_i h
    by_cases hin : i < n
    · exact Ok.f (Fz1 hin (h2 _ fun e => h ⟨hin, e⟩))
    · exact Ok.f (Fzn h0 hi hin)
theorem pVar_eq {i : Nat} : pVar w n i = if i < n ∧ isV (w i) = true then (true, i + 1) else (false, i) := by
  simp only [pVar, po, pf, pa, isV, decide_eq_true_eq]
  by_cases h : i < n <;> by_cases h1 : 65 ≤ w i ∧ w i ≤ 69 <;> by_cases h2 : w i = 83 <;> simp [h, h1, h2]
theorem ok_pVar {A A' : gA} {i : Nat} (h0 : A.1 ≠ 0) (hi : i ≤ n) (h1 : ∀ c, isV c = true → stp A c = some A') (h2 : ∀ c, isV c = false → stp A c = none) : Ok w n (pVar w n i) A i A' := by
  rw [pVar_eq]
  split
  · rename_i h; exact Ok.t (by omega) (Rz1 h.1 (h1 _ h.2))
  · rename_i h
    by_cases hin : i < n
    · exact Ok.f (Fz1 hin (h2 _ (Bool.eq_false_iff.mpr fun e => h ⟨hin, e⟩)))
    · exact Ok.f (Fzn h0 hi hin)
theorem pSimple_q {i : Nat} (h : i < n) (h' : w i = 39) : pSimple w n i = pq (pf w n 48 57 (i + 1)) (fun j => pf w n 48 57 j) := by
  simp only [pSimple, pa, h, h', and_self, if_true]
theorem pSimple_n {i : Nat} (h' : ¬ (i < n ∧ w i = 39)) : pSimple w n i = if i < n ∧ (isD (w i) = true ∨ isA (w i) = true ∨ isV (w i) = true) then (true, i + 1) else (false, i) := by
  simp only [pSimple, pa, h', if_false, pVar_eq, Bool.false_eq_true]
  simp only [po, pf, isD, isA, decide_eq_true_eq]
  by_cases h : i < n <;> by_cases h1 : 48 ≤ w i ∧ w i ≤ 57 <;> by_cases h2 : 97 ≤ w i ∧ w i ≤ 104 <;> cases h3 : isV (w i) <;> simp [h, h1, h2, h3]
theorem ok_simple {fo i : Nat} {st : List (Int32 × Bool)} (hi : i ≤ n) (h1 : ∀ (_ : i < n), ¬ (w i = 40 ∨ (fo ≠ 0 ∧ (w i = 43 ∨ w i = 45 ∨ w i = 47)))) (h2 : ∀ (_ : i < n), ¬ w i = (if fo = 0 then 95 else 35)) : Ok w n (pSimple w n i) (1, fo, st) i (cmp fo st) := by
  by_cases h39 : i < n ∧ w i = 39
  · rw [pSimple_q h39.1 h39.2]
    have e1 : stp (1, fo, st) (w i) = some (8, fo, st) := by
      show pce fo st (w i) = _
      unfold pce; rw [if_neg (h1 h39.1), if_pos h39.2]
    refine Ok.lead (Rz1 h39.1 e1) (ok_pq (A' := (9, fo, st)) (ok_pf (by simp) (by omega) ?_ ?_) fun j _ hj => ok_pf (by simp) hj ?_ ?_)
    · intro c hc; simp only [stp, isD, hc, and_self, decide_true, if_true]
    · intro c hc; simp only [stp, isD, hc, decide_false, Bool.false_eq_true, if_false]
    · intro c hc; simp only [stp, isD, hc, and_self, decide_true, if_true]
    · intro c hc; simp only [stp, isD, hc, decide_false, Bool.false_eq_true, if_false]
  · rw [pSimple_n h39]
    by_cases hin : i < n
    · have e39 : ¬ w i = 39 := fun e => h39 ⟨hin, e⟩
      by_cases hs : isD (w i) = true ∨ isA (w i) = true ∨ isV (w i) = true
      · rw [if_pos ⟨hin, hs⟩]
        refine Ok.t (by omega) (Rz1 hin ?_)
        show pce fo st (w i) = _
        unfold pce; rw [if_neg (h1 hin), if_neg e39, if_pos (by rcases hs with h | h | h <;> simp [h])]
      · rw [if_neg (fun h => hs h.2)]
        refine Ok.f (Fz1 hin ?_)
        show pce fo st (w i) = _
        unfold pce; rw [if_neg (h1 hin), if_neg e39, if_neg]
        rintro (h | h | h | h)
        · exact hs (.inl h)
        · exact hs (.inr (.inl h))
        · exact hs (.inr (.inr h))
        · exact h2 hin h
    · rw [if_neg (fun h => hin h.1)]
      exact Ok.f (Fzn (by simp) hi hin)
theorem px_iff {x : Int32} {i : Nat} (hx : x ≠ 0) : px w n i = x ↔ i < n ∧ w i = x := by
  unfold px; split
  · rename_i h; simp [h]
  · rename_i h; simp only [h, false_and, iff_false]; exact fun e => hx e.symm
theorem pa_at {x : Int32} {i : Nat} (h : i < n ∧ w i = x) : pa w n x i = (true, i + 1) := if_pos h
theorem pa_no {x : Int32} {i : Nat} (h : ¬ (i < n ∧ w i = x)) : pa w n x i = (false, i) := if_neg h
theorem pq_t {j : Nat} {k : Nat → Bool × Nat} : pq (true, j) k = k j := rfl
theorem po_t {j : Nat} {k : Nat → Bool × Nat} : po (true, j) k = (true, j) := rfl
theorem po_f {j : Nat} {k : Nat → Bool × Nat} : po (false, j) k = k j := rfl
/-- behind an opening sign of a pair -/
theorem ok_pair {p : Nat → Bool × Nat} {fo i : Nat} {st : List (Int32 × Bool)} (hi : i < n) (h40 : w i = 40) (hst : st.length < 4) (hp : ∀ (b : Bool) (j : Nat), j ≤ n → Ok w n (p j) (1, fo, (40, b) :: st) j (cmp fo ((40, b) :: st))) : Ok w n (pq (p (i + 1)) fun j => pq (pa w n 44 j) fun j => pq (p j) fun j => pa w n 41 j) (1, fo, st) i (cmp fo st) := by
  have e1 : stp (1, fo, st) (w i) = some (1, fo, (40, false) :: st) := by
    show pce fo st (w i) = _
    unfold pce; rw [if_pos (.inl h40), if_neg (by omega), h40]
  refine Ok.lead (Rz1 hi e1) (ok_pq (hp false (i + 1) (by omega)) fun j _ hj => ok_pq (A' := (1, fo, (40, true) :: st)) (ok_pa (by simp [cmp]) hj ?_ ?_) fun j _ hj => ok_pq (hp true j hj) fun j _ hj => ok_pa (by simp [cmp]) hj ?_ ?_)
  · simp [cmp, stp]
  · intro c hc; simp [cmp, stp, hc]
  · simp [cmp, stp]
  · intro c hc; simp [cmp, stp, hc]
theorem ok_pat : ∀ (k : Nat) {st : List (Int32 × Bool)} {i : Nat}, st.length + k = 4 → i ≤ n → Ok w n (pPat w n k i) (1, 0, st) i (cmp 0 st) := by
  have leafc : ∀ {st : List (Int32 × Bool)} {i : Nat}, i ≤ n → ¬ (i < n ∧ w i = 40) → Ok w n (po (pa w n 95 i) fun j => pSimple w n j) (1, 0, st) i (cmp 0 st) := by
    intro st i hi h40
    by_cases h95 : i < n ∧ w i = 95
    · rw [pa_at h95, po_t]
      refine Ok.t (by omega) (Rz1 h95.1 ?_)
      show pce 0 st (w i) = _
      unfold pce; rw [if_neg (by rw [h95.2]; simp), if_neg (by rw [h95.2]; decide), if_pos (by rw [h95.2]; simp)]
    · rw [pa_no h95, po_f]
      exact ok_simple hi (fun h => by rintro (e | e) <;> simp_all) (fun h e => h95 ⟨h, by simpa using e⟩)
  intro k
  induction k with
  | zero =>
    intro st i hst hi
    unfold pPat
    split
    · rename_i h
      rw [px_iff (by decide)] at h
      refine Ok.f (Fz1 h.1 ?_)
      show pce 0 st (w i) = _
      unfold pce; rw [if_pos (.inl h.2), if_pos (by omega)]
    · rename_i h
      rw [px_iff (by decide)] at h
      exact leafc hi h
  | succ k ih =>
    intro st i hst hi
    unfold pPat
    split
    · rename_i h
      rw [px_iff (by decide)] at h
      rw [pa_at h, pq_t]
      exact ok_pair h.1 h.2 (by omega) fun b j hj => ih (by simp; omega) hj
    · rename_i h
      rw [px_iff (by decide)] at h
      exact leafc hi h
theorem ok_exp : ∀ (k : Nat) {fo : Nat} {st : List (Int32 × Bool)} {i : Nat}, st.length + k = 4 → fo ≠ 0 → i ≤ n → Ok w n (pExp w n k i) (1, fo, st) i (cmp fo st) := by
  have leafc : ∀ {fo : Nat} {st : List (Int32 × Bool)} {i : Nat}, fo ≠ 0 → i ≤ n → ¬ (i < n ∧ w i = 40) → ¬ (i < n ∧ (w i = 43 ∨ w i = 45 ∨ w i = 47)) → Ok w n (po (pa w n 35 i) fun j => pSimple w n j) (1, fo, st) i (cmp fo st) := by
    intro fo st i hfo hi h40 hop
    have hn1 : ∀ (_ : i < n), ¬ (w i = 40 ∨ (fo ≠ 0 ∧ (w i = 43 ∨ w i = 45 ∨ w i = 47))) := by
      rintro h (e | ⟨_, e⟩)
      · exact h40 ⟨h, e⟩
      · exact hop ⟨h, e⟩
    by_cases h35 : i < n ∧ w i = 35
    · rw [pa_at h35, po_t]
      refine Ok.t (by omega) (Rz1 h35.1 ?_)
      show pce fo st (w i) = _
      unfold pce; rw [if_neg (hn1 h35.1), if_neg (by rw [h35.2]; decide), if_pos (by rw [h35.2, if_neg hfo]; simp)]
    · rw [pa_no h35, po_f]
      exact ok_simple hi hn1 (fun h e => h35 ⟨h, by simpa [hfo] using e⟩)
  have opi : ∀ {i : Nat}, (px w n i = 43 ∨ px w n i = 45 ∨ px w n i = 47) ↔ (i < n ∧ (w i = 43 ∨ w i = 45 ∨ w i = 47)) := by
    intro i
    rw [px_iff (by decide), px_iff (by decide), px_iff (by decide)]
    constructor
    · rintro (h | h | h) <;> simp [h.1, h.2]
    · rintro ⟨h, h1 | h1 | h1⟩ <;> simp [h, h1]
  intro k
  induction k with
  | zero =>
    intro fo st i hst hfo hi
    unfold pExp
    split
    · rename_i h
      rw [px_iff (by decide)] at h
      refine Ok.f (Fz1 h.1 ?_)
      show pce fo st (w i) = _
      unfold pce; rw [if_pos (.inl h.2), if_pos (by omega)]
    · rename_i h
      rw [px_iff (by decide)] at h
      split
      · rename_i h2
        rw [opi] at h2
        refine Ok.f (Fz1 h2.1 ?_)
        show pce fo st (w i) = _
        unfold pce; rw [if_pos (.inr ⟨hfo, h2.2⟩), if_pos (by omega)]
      · rename_i h2
        rw [opi] at h2
        exact leafc hfo hi h h2
  | succ k ih =>
    intro fo st i hst hfo hi
    unfold pExp
    split
    · rename_i h
      rw [px_iff (by decide)] at h
      rw [pa_at h, pq_t]
      exact ok_pair h.1 h.2 (by omega) fun b j hj => ih (by simp; omega) hfo hj
    · rename_i h
      rw [px_iff (by decide)] at h
      split
      · rename_i h2
        rw [opi] at h2
        have e0 : px w n i = w i := by unfold px; rw [if_pos h2.1]
        rw [e0, pa_at ⟨h2.1, rfl⟩, pq_t]
        have hne : ¬ w i = 40 := fun e => h ⟨h2.1, e⟩
        have e1 : stp (1, fo, st) (w i) = some (1, fo, (w i, false) :: st) := by
          show pce fo st (w i) = _
          unfold pce; rw [if_pos (.inr ⟨hfo, h2.2⟩), if_neg (by omega)]
        have e2 : cmp fo ((w i, false) :: st) = (1, fo, (w i, true) :: st) := by simp only [cmp, hne, if_false]
        have e3 : cmp fo ((w i, true) :: st) = cmp fo st := by simp only [cmp, hne, if_false]
        refine Ok.lead (Rz1 h2.1 e1) (ok_pq (e2 ▸ ih (st := (w i, false) :: st) (by simp; omega) hfo (by omega)) fun j _ hj => e3 ▸ ih (st := (w i, true) :: st) (by simp; omega) hfo hj)
      · rename_i h2
        rw [opi] at h2
        exact leafc hfo hi h h2
theorem Rz7 {fo fo' i : Nat} (hi : i ≤ n) : Rz w n (7, fo, []) i i (7, fo', []) := by
  refine ⟨by omega, hi, ?_⟩
  by_cases h : i < n
  · rw [rdr_s h, rdr_s h]; rfl
  · obtain rfl : i = n := by omega
    rw [rdr_n (by simp), rdr_n (by simp)]
theorem ok_guard {i : Nat} (hi : i ≤ n) : Ok w n (pq (pGuard w n i) fun j => pa w n 58 j) (4, 0, []) i (7, 1, []) := by
  unfold pGuard
  by_cases h63 : i < n ∧ w i = 63
  · rw [pa_at h63]
    simp only [if_true]
    have e1 : stp (4, 0, []) (w i) = some (1, 1, []) := by rw [h63.2]; rfl
    have hq : ∀ (r : Bool × Nat) (k1 k2 : Nat → Bool × Nat), pq (pq r k1) k2 = pq r fun j => pq (k1 j) k2 := by
      intro r k1 k2; unfold pq
      by_cases hr : r.1 = true
      · simp only [hr, if_true]
      · simp only [hr, Bool.false_eq_true, if_false]
    rw [hq]
    refine Ok.lead (Rz1 h63.1 e1) (ok_pq (A' := (5, 1, [])) (ok_exp 4 (st := []) rfl (by decide) (by omega)) fun j _ hj => ?_)
    rw [hq]
    refine ok_pq (A' := (1, 2, [])) ?_ fun j _ hj => ok_pq (A' := (6, 2, [])) (ok_exp 4 (st := []) rfl (by decide) hj) fun j _ hj => ?_
    · by_cases h60 : j < n ∧ w j = 60
      · rw [pa_at h60, po_t]
        exact Ok.t (by omega) (Rz1 h60.1 (by rw [h60.2]; rfl))
      · rw [pa_no h60, po_f]
        by_cases h61 : j < n ∧ w j = 61
        · rw [pa_at h61]
          exact Ok.t (by omega) (Rz1 h61.1 (by rw [h61.2]; rfl))
        · rw [pa_no h61]
          by_cases hin : j < n
          · refine Ok.f (Fz1 hin ?_)
            have a : ¬ w j = 60 := fun e => h60 ⟨hin, e⟩
            have b : ¬ w j = 61 := fun e => h61 ⟨hin, e⟩
            simp only [stp, a, b, or_self, if_false]
          · exact Ok.f (Fzn (by simp) hj hin)
    · have : Ok w n (pa w n 58 j) (6, 2, []) j (7, 2, []) := ok_pa (by simp) hj rfl fun c hc => by simp only [stp, hc, if_false]
      unfold Ok at this ⊢
      split
      · rename_i hr; rw [if_pos hr] at this; exact ⟨this.1, this.2.tr (Rz7 this.2.2.1)⟩
      · rename_i hr; rw [if_neg hr] at this; exact this
  · rw [pa_no h63]
    simp only [Bool.false_eq_true, if_false, pq_t]
    by_cases h58 : i < n ∧ w i = 58
    · rw [pa_at h58]
      exact Ok.t (by omega) (Rz1 h58.1 (by rw [h58.2]; rfl))
    · rw [pa_no h58]
      by_cases hin : i < n
      · refine Ok.f (Fz1 hin ?_)
        have a : ¬ w i = 63 := fun e => h63 ⟨hin, e⟩
        have b : ¬ w i = 58 := fun e => h58 ⟨hin, e⟩
        simp only [stp, a, b, if_false]
      · exact Ok.f (Fzn (by simp) hi hin)
theorem Ok.tr7 {r : Bool × Nat} {A : gA} {i fo : Nat} (h : Ok w n r A i (7, fo, [])) : Ok w n r A i (7, 1, []) := by
  unfold Ok at h ⊢
  split
  · rename_i hr; rw [if_pos hr] at h; exact ⟨h.1, h.2.tr (Rz7 h.2.2.1)⟩
  · rename_i hr; rw [if_neg hr] at h; exact h
theorem ok_act {i : Nat} (hi : i ≤ n) (h59 : ¬ (i < n ∧ w i = 59)) : Ok w n (pAct w n i) (7, 1, []) i (7, 1, []) := by
  unfold pAct
  by_cases h33 : i < n ∧ w i = 33
  · rw [pa_at h33]
    simp only [if_true]
    have e1 : stp (7, 1, []) (w i) = some (1, 3, []) := by rw [h33.2]; rfl
    refine Ok.lead (Rz1 h33.1 e1) (ok_pq (A' := (1, 4, [])) (ok_exp 4 (st := []) rfl (by decide) (by omega)) fun j _ hj => Ok.tr7 (fo := 4) (ok_exp 4 (st := []) rfl (by decide) hj))
  · rw [pa_no h33]
    simp only [Bool.false_eq_true, if_false, pAct3]
    have e3 : ∀ x : Int32, i < n ∧ w i = x → (x = 126 ∨ x = 38 ∨ x = 36) → Ok w n (pExp w n 4 (i + 1)) (7, 1, []) i (7, 1, []) := by
      intro x hx hh
      have e1 : stp (7, 1, []) (w i) = some (1, 4, []) := by
        rw [hx.2]; rcases hh with rfl | rfl | rfl <;> rfl
      exact Ok.lead (Rz1 hx.1 e1) (Ok.tr7 (fo := 4) (ok_exp 4 (st := []) rfl (by decide) (by omega)))
    by_cases h126 : i < n ∧ w i = 126
    · simp only [pa_at h126, po_t, if_true]; exact e3 126 h126 (.inl rfl)
    · by_cases h38 : i < n ∧ w i = 38
      · simp only [pa_no h126, pa_at h38, po_t, po_f, if_true]; exact e3 38 h38 (.inr (.inl rfl))
      · by_cases h36 : i < n ∧ w i = 36
        · simp only [pa_no h126, pa_no h38, pa_at h36, po_f, if_true]; exact e3 36 h36 (.inr (.inr rfl))
        · simp only [pa_no h126, pa_no h38, pa_no h36, po_f, Bool.false_eq_true, if_false]
          by_cases h64 : i < n ∧ w i = 64
          · simp only [pa_at h64, if_true]
            have e1 : stp (7, 1, []) (w i) = some (10, 4, []) := by rw [h64.2]; rfl
            refine Ok.lead (Rz1 h64.1 e1) (ok_pq (A' := (11, 4, [])) (ok_pf (by simp) (by omega) ?_ ?_) fun j _ hj => Ok.tr7 (fo := 4) (ok_pVar (by simp) hj ?_ ?_))
            · intro c hc; simp only [stp, hc, and_self, if_true]
            · intro c hc; simp only [stp, hc, if_false]
            · intro c hc; simp only [stp, hc, if_true]
            · intro c hc; simp only [stp, hc, Bool.false_eq_true, if_false]
          · simp only [pa_no h64, Bool.false_eq_true, if_false]
            by_cases h42 : i < n ∧ w i = 42
            · rw [pa_at h42, pq_t]
              have e1 : stp (7, 1, []) (w i) = some (12, 4, []) := by rw [h42.2]; rfl
              refine Ok.lead (Rz1 h42.1 e1) (Ok.tr7 (fo := 4) (ok_pf (by simp) (by omega) ?_ ?_))
              · intro c hc; simp only [stp, hc, and_self, if_true]
              · intro c hc; simp only [stp, hc, if_false]
            · rw [pa_no h42]
              have : pq (false, i) (fun j => pf w n 48 49 j) = (false, i) := rfl
              rw [this]
              by_cases hin : i < n
              · refine Ok.f (Fz1 hin ?_)
                have a (x : Int32) (h : ¬ (i < n ∧ w i = x)) : ¬ w i = x := fun e => h ⟨hin, e⟩
                simp only [stp, a _ h59, a _ h64, a _ h42, a _ h33, a _ h126, a _ h38, a _ h36, or_self, if_false]
              · exact Ok.f (Fzn (by simp) hi hin)
theorem ok_acts : ∀ (m : Nat) {i : Nat}, n ≤ i + m → i ≤ n → Ok w n (pActs w n m i) (7, 1, []) i (0, 4, [])
  | 0, i, hm, hi => Ok.f (Fzn (by simp) hi (by omega))
  | m + 1, i, hm, hi => by
    unfold pActs
    by_cases h59 : i < n ∧ w i = 59
    · rw [pa_at h59]
      simp only [if_true]
      exact Ok.t (by omega) (Rz1 h59.1 (by rw [h59.2]; rfl))
    · rw [pa_no h59]
      simp only [Bool.false_eq_true, if_false]
      exact ok_pq (ok_act hi h59) fun j hij hj => ok_acts m (by omega) hj
theorem ok_clause {fo i : Nat} (hn : n ≤ 60) (hi : i < n) : Ok w n (pClause w n i) (0, fo, []) i (0, 4, []) := by
  have e0 : Rz w n (0, fo, []) i i (1, 0, []) := ⟨by omega, by omega, by rw [rdr_s hi, rdr_s hi]; rfl⟩
  have hq : ∀ (r : Bool × Nat) (k1 k2 : Nat → Bool × Nat), (pq r fun j => pq (k1 j) k2) = pq (pq r k1) k2 := by
    intro r k1 k2; unfold pq
    by_cases hr : r.1 = true
    · simp only [hr, if_true]
    · simp only [hr, Bool.false_eq_true, if_false]
  unfold pClause
  refine Ok.lead e0 (ok_pq (A' := (4, 0, [])) (ok_pat 4 (st := []) rfl (by omega)) fun j _ hj => ?_)
  have : (pq (pGuard w n j) fun j => pq (pa w n 58 j) fun j => pActs w n 60 j) = pq (pq (pGuard w n j) fun j => pa w n 58 j) fun j => pActs w n 60 j := hq _ _ _
  rw [this]
  exact ok_pq (ok_guard hj) fun j _ hj => ok_acts 60 (by omega) hj
theorem ok_all (hn : n ≤ 60) : ∀ (m : Nat) {fo i : Nat}, n ≤ i + m → i ≤ n → pAll w n m i = rdr w n (n - i) (0, fo, []) i
  | 0, fo, i, hm, hi => by
    obtain rfl : i = n := by omega
    rw [Nat.sub_self]; rfl
  | m + 1, fo, i, hm, hi => by
    unfold pAll
    by_cases h : n ≤ i
    · obtain rfl : i = n := by omega
      rw [if_pos h, Nat.sub_self]; rfl
    · rw [if_neg h]
      have hc := ok_clause (w := w) (fo := fo) hn (show i < n by omega)
      unfold Ok at hc
      split
      · rename_i hr; rw [if_pos hr] at hc
        rw [hc.2.2.2]
        exact ok_all hn m (by omega) hc.2.2.1
      · rename_i hr; rw [if_neg hr] at hc
        exact hc.symm
/-- the place of the fault is the same -/
theorem pAll_eq (hn : n ≤ 60) (fo : Nat) : pAll w n 60 0 = rdr w n n (0, fo, []) 0 := by
  have := ok_all (w := w) hn 60 (fo := fo) (i := 0) (by omega) (by omega)
  rwa [Nat.sub_zero] at this
theorem pAll_le (hn : n ≤ 60) {j : Nat} : ∀ (m : Nat) {i : Nat}, i ≤ n → n ≤ i + m → pAll w n m i = some j → j ≤ n
  | 0, i, _, _, h => nomatch h
  | m + 1, i, hi, hm, h => by
    unfold pAll at h
    by_cases hn' : n ≤ i
    · rw [if_pos hn'] at h; exact nomatch h
    · rw [if_neg hn'] at h
      have hc := ok_clause (w := w) (fo := 0) hn (show i < n by omega)
      unfold Ok at hc
      split at h
      · rename_i hr; rw [if_pos hr] at hc; exact pAll_le hn m hc.2.2.1 (by omega) h
      · rename_i hr; rw [if_neg hr] at hc
        obtain rfl := Option.some.inj h
        exact rdr_le (by omega) () hc
end GQ
