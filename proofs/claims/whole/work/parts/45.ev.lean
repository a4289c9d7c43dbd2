/-! EXPRESSIONS: what they are worth; the class evaluates them so -/
def dg (x : Int32) : Nat := (x.toInt - 48).toNat
def ag (x : Int32) : Nat := (x.toInt - 97).toNat
def vN (x : Int32) : Nat := if x = 83 then 5 else (x.toInt - 65).toNat
def lfI (v : Int32) : Nat := (v.toInt + 999).toNat
theorem nI_toI {x : Int32} {n : Nat} (h : n < 2 ^ 31) (e : x.toInt = (n : Int)) : x = nI n := by
  apply Int32.toInt_inj.mp; rw [e, nI_toInt h]
theorem dg_s {x : Int32} (h : isD x = true) : x = nI (48 + dg x) ∧ dg x ≤ 9 := by
  have h1 := rng (of_decide_eq_true h)
  rw [show (48 : Int32).toInt = 48 from rfl, show (57 : Int32).toInt = 57 from rfl] at h1
  unfold dg
  exact ⟨nI_toI (by omega) (by omega), by omega⟩
theorem ag_s {x : Int32} (h : isA x = true) : x = nI (97 + ag x) ∧ ag x < 8 := by
  have h1 := rng (of_decide_eq_true h)
  rw [show (97 : Int32).toInt = 97 from rfl, show (104 : Int32).toInt = 104 from rfl] at h1
  unfold ag
  exact ⟨nI_toI (by omega) (by omega), by omega⟩
theorem vN_s {x : Int32} (h : isV x = true) : vOf x = nI (vN x) ∧ vN x < 6 := by
  rcases of_decide_eq_true h with h | h
  · rcases rng5 h with rfl | rfl | rfl | rfl | rfl <;> exact ⟨by decide, by decide⟩
  · subst h; exact ⟨by decide, by decide⟩
theorem told_d {k : Nat} (h : k < 1000) : nI k = told (999 + k) := by
  unfold told fF; rw [if_pos (by omega), show 999 + k + 1 = k + 1000 by omega, ← nI_add, show (1000 : Int32) = nI 1000 from rfl, Int32.add_sub_cancel]
theorem told_a {k : Nat} (h : k < 8) : nI (2000 + k) = told (1999 + k) := by
  unfold told fF; rw [if_neg (by omega), if_pos (by omega), show 1999 + k + 1001 = 2000 + k + 1000 by omega, ← nI_add _ 1000, show (1000 : Int32) = nI 1000 from rfl, Int32.add_sub_cancel]
theorem told_r {k : Nat} : nI (3000 + k) = told (2007 + k) := by
  unfold told fF; rw [if_neg (by omega), if_neg (by omega), show 2007 + k + 1993 = 3000 + k + 1000 by omega, ← nI_add _ 1000, show (1000 : Int32) = nI 1000 from rfl, Int32.add_sub_cancel]
theorem told_i {a : Nat} (h : a < 1999) : (told a).toInt = (a : Int) - 999 := by
  unfold told fF
  rw [if_pos h, Int32.toInt_sub, nI_toInt (by omega), show (1000 : Int32).toInt = 1000 from rfl]
  simp only [Int.bmod]; split <;> omega
theorem told_m {a : Nat} (h : a < 1999) : nI a - 999 = told a := by
  unfold told fF
  rw [if_pos h, ← nI_1, show (1000 : Int32) = 1 + 999 from rfl, ← Int32.sub_sub, Int32.add_sub_cancel]
theorem lfI_s {v : Int32} (h : -999 ≤ v ∧ v ≤ 999) : lfI v < 1999 ∧ told (lfI v) = v ∧ v + 999 = nI (lfI v) := by
  have h1 := rng h
  rw [show (-999 : Int32).toInt = -999 from rfl, show (999 : Int32).toInt = 999 from rfl] at h1
  have h2 : lfI v < 1999 := by unfold lfI; omega
  refine ⟨h2, ?_, ?_⟩
  · apply Int32.toInt_inj.mp; rw [told_i h2]; unfold lfI; omega
  · apply Int32.toInt_inj.mp; rw [nI_toInt (by omega), Int32.toInt_add, show (999 : Int32).toInt = 999 from rfl]
    unfold lfI
    simp only [Int.bmod]; split <;> omega
def opV (op x y : Int32) : Int32 := if op = 43 then x + y else if op = 45 then x - y else x / y
theorem opV_b {op : Int32} {a b : Nat} (ha : a < 1999) (hb : b < 1999) : -2000 ≤ (opV op (told a) (told b)).toInt ∧ (opV op (told a) (told b)).toInt ≤ 2000 := by
  have h1 := told_i ha
  have h2 := told_i hb
  unfold opV
  split
  · rw [Int32.toInt_add, h1, h2]; simp only [Int.bmod]; split <;> omega
  · split
    · rw [Int32.toInt_sub, h1, h2]; simp only [Int.bmod]; split <;> omega
    · rw [Int32.toInt_div, h1, h2]
      have hn : (((a : Int) - 999).tdiv ((b : Int) - 999)).natAbs ≤ 999 := by
        rw [Int.natAbs_tdiv]
        exact Nat.le_trans (Nat.div_le_self _ _) (by omega)
      generalize ((a : Int) - 999).tdiv ((b : Int) - 999) = q at hn
      simp only [Int.bmod]; split <;> omega
theorem abs_ok {v : Int32} (h : -2000 ≤ v.toInt ∧ v.toInt ≤ 2000) : ((if 0 ≤ v then v else 0 - v) ≤ 999) = (-999 ≤ v ∧ v ≤ 999) := by
  have e0 : (0 ≤ v) = (0 ≤ v.toInt) := by rw [Int32.le_iff_toInt_le]; rfl
  have e1 : (-999 ≤ v) = (-999 ≤ v.toInt) := by rw [Int32.le_iff_toInt_le]; rfl
  have e2 : (v ≤ 999) = (v.toInt ≤ 999) := by rw [Int32.le_iff_toInt_le]; rfl
  rw [e1, e2]
  by_cases hv : 0 ≤ v.toInt
  · rw [if_pos (by rw [e0]; exact hv), e2]; exact propext ⟨fun _ => by omega, fun _ => by omega⟩
  · rw [if_neg (by rw [e0]; exact hv), Int32.le_iff_toInt_le, Int32.toInt_sub, show (0 : Int32).toInt = 0 from rfl, show (999 : Int32).toInt = 999 from rfl]
    simp only [Int.bmod]
    split <;> exact propext ⟨fun _ => by omega, fun _ => by omega⟩
def calT (op : Int32) (x y : sTm) : sTm := if isN x.1 x.2 = true ∧ isN y.1 y.2 = true then (if op = 47 ∧ told (y.2.getD 0 0) = 0 then (12, []) else if -999 ≤ opV op (told (x.2.getD 0 0)) (told (y.2.getD 0 0)) ∧ opV op (told (x.2.getD 0 0)) (told (y.2.getD 0 0)) ≤ 999 then (0, [lfI (opV op (told (x.2.getD 0 0)) (told (y.2.getD 0 0)))]) else (11, [])) else (11, [])
def prT (x y : sTm) : sTm := if sN x.1 + sN y.1 ≤ 4 then (sP x.1 y.1, x.2 ++ y.2) else (11, [])
def evS (w : Nat → Int32) (va : Nat → sTm) (self i : Nat) : sTm :=
  if w i = 39 then (0, [999 + (10 * dg (w (i + 1)) + dg (w (i + 2)))]) else if isD (w i) = true then (0, [999 + dg (w i)]) else if isA (w i) = true then (0, [1999 + ag (w i)]) else if w i = 35 then (0, [2007 + self]) else if (va (vN (w i))).1 < 9 then va (vN (w i)) else (11, [])
def evE (w : Nat → Int32) (i : Nat) : Nat := if w i = 39 then i + 3 else i + 1
abbrev isO (x : Int32) : Prop := x = 40 ∨ x = 43 ∨ x = 45 ∨ x = 47
def ev (w : Nat → Int32) (va : Nat → sTm) (self : Nat) : Nat → Nat → sTm × Nat
  | 0, i => (evS w va self i, evE w i)
  | k + 1, i => if isO (w i) then
      (if (ev w va self k (i + 1)).1.1 < 9 then
        (if (ev w va self k (if w i = 40 then (ev w va self k (i + 1)).2 + 1 else (ev w va self k (i + 1)).2)).1.1 < 9 then
          (if w i = 40 then (prT (ev w va self k (i + 1)).1 (ev w va self k ((ev w va self k (i + 1)).2 + 1)).1, (ev w va self k ((ev w va self k (i + 1)).2 + 1)).2 + 1)
           else (calT (w i) (ev w va self k (i + 1)).1 (ev w va self k (ev w va self k (i + 1)).2).1, (ev w va self k (ev w va self k (i + 1)).2).2))
         else ev w va self k (if w i = 40 then (ev w va self k (i + 1)).2 + 1 else (ev w va self k (i + 1)).2))
       else ev w va self k (i + 1))
    else (evS w va self i, evE w i)
def vT (v : sTm) : Prop := tv v.1 v.2 ∨ v = (11, []) ∨ v = (12, [])
def vV (v : sTm) : Prop := tv v.1 v.2 ∨ v = (10, [])
/-- a well-formed expression from i to j -/
def x0 (w : Nat → Int32) (n i j : Nat) : Prop := i < n ∧ ¬ isO (w i) ∧ ((w i = 39 ∧ i + 2 < n ∧ isD (w (i + 1)) = true ∧ isD (w (i + 2)) = true ∧ j = i + 3) ∨ (¬ w i = 39 ∧ (isD (w i) = true ∨ isA (w i) = true ∨ isV (w i) = true ∨ w i = 35) ∧ j = i + 1))
def xp (w : Nat → Int32) (n : Nat) : Nat → Nat → Nat → Prop
  | 0, i, j => x0 w n i j
  | k + 1, i, j => (i < n ∧ w i = 40 ∧ ∃ j1 j2, xp w n k (i + 1) j1 ∧ j1 < n ∧ w j1 = 44 ∧ xp w n k (j1 + 1) j2 ∧ j2 < n ∧ w j2 = 41 ∧ j = j2 + 1) ∨ (i < n ∧ (w i = 43 ∨ w i = 45 ∨ w i = 47) ∧ ∃ j1, xp w n k (i + 1) j1 ∧ xp w n k j1 j) ∨ x0 w n i j
section EV
variable {w : Nat → Int32} {va : Nat → sTm} {self n : Nat}
theorem x0_n {i j : Nat} (h : x0 w n i j) : j ≤ n ∧ i < j := by
  obtain ⟨h1, _, ⟨_, h2, _, _, h3⟩ | ⟨_, _, h3⟩⟩ := h <;> omega
theorem xp_n : ∀ k {i j : Nat}, xp w n k i j → j ≤ n ∧ i < j
  | 0, _, _, h => x0_n h
  | k + 1, i, j, h => by
    rcases h with ⟨h1, _, j1, j2, a1, a2, a3, a4, a5, a6, rfl⟩ | ⟨h1, _, j1, a1, a2⟩ | h
    · have := xp_n k a1; have := xp_n k a4; omega
    · have := xp_n k a1; have := xp_n k a2; omega
    · exact x0_n h
theorem isO_39 : ¬ isO 39 := by unfold isO; decide
theorem ev_s {k i : Nat} (h : ¬ isO (w i)) : ev w va self k i = (evS w va self i, evE w i) := by
  cases k with
  | zero => rfl
  | succ k => unfold ev; rw [if_neg h]
theorem evE_s {i j : Nat} (h : x0 w n i j) : evE w i = j := by
  obtain ⟨_, _, ⟨h1, _, _, _, h3⟩ | ⟨h1, _, h3⟩⟩ := h
  · unfold evE; rw [if_pos h1]; exact h3.symm
  · unfold evE; rw [if_neg h1]; exact h3.symm
theorem ev_o1 {k i : Nat} (h : isO (w i)) (h1 : ¬ (ev w va self k (i + 1)).1.1 < 9) : ev w va self (k + 1) i = ev w va self k (i + 1) := by
  rw [ev, if_pos h, if_neg h1]
theorem ev_p2 {k i : Nat} (h : w i = 40) (h1 : (ev w va self k (i + 1)).1.1 < 9) (h2 : ¬ (ev w va self k ((ev w va self k (i + 1)).2 + 1)).1.1 < 9) : ev w va self (k + 1) i = ev w va self k ((ev w va self k (i + 1)).2 + 1) := by
  rw [ev, if_pos (.inl h), if_pos h1, if_pos h, if_neg h2]
theorem ev_p3 {k i : Nat} (h : w i = 40) (h1 : (ev w va self k (i + 1)).1.1 < 9) (h2 : (ev w va self k ((ev w va self k (i + 1)).2 + 1)).1.1 < 9) : ev w va self (k + 1) i = (prT (ev w va self k (i + 1)).1 (ev w va self k ((ev w va self k (i + 1)).2 + 1)).1, (ev w va self k ((ev w va self k (i + 1)).2 + 1)).2 + 1) := by
  rw [ev, if_pos (.inl h), if_pos h1, if_pos h, if_pos h2, if_pos h]
theorem n40 {x : Int32} (h : x = 43 ∨ x = 45 ∨ x = 47) : ¬ x = 40 := by
  rcases h with rfl | rfl | rfl <;> decide
theorem ev_c2 {k i : Nat} (h : w i = 43 ∨ w i = 45 ∨ w i = 47) (h1 : (ev w va self k (i + 1)).1.1 < 9) (h2 : ¬ (ev w va self k (ev w va self k (i + 1)).2).1.1 < 9) : ev w va self (k + 1) i = ev w va self k (ev w va self k (i + 1)).2 := by
  rw [ev, if_pos (.inr h), if_pos h1, if_neg (n40 h), if_neg h2]
theorem ev_c3 {k i : Nat} (h : w i = 43 ∨ w i = 45 ∨ w i = 47) (h1 : (ev w va self k (i + 1)).1.1 < 9) (h2 : (ev w va self k (ev w va self k (i + 1)).2).1.1 < 9) : ev w va self (k + 1) i = (calT (w i) (ev w va self k (i + 1)).1 (ev w va self k (ev w va self k (i + 1)).2).1, (ev w va self k (ev w va self k (i + 1)).2).2) := by
  rw [ev, if_pos (.inr h), if_pos h1, if_neg (n40 h), if_pos h2, if_neg (n40 h)]
theorem vT_cal {op : Int32} {x y : sTm} : vT (calT op x y) := by
  unfold calT
  split
  · split
    · exact .inr (.inr rfl)
    · split
      · rename_i h; exact .inl (tv_0 (by have := (lfI_s h).1; omega))
      · exact .inr (.inl rfl)
  · exact .inr (.inl rfl)
theorem vT_pr {x y : sTm} (hx : tv x.1 x.2) (hy : tv y.1 y.2) : vT (prT x y) := by
  unfold prT; split
  · rename_i h; exact .inl (tv_pair hx hy h)
  · exact .inr (.inl rfl)
theorem vT_9 {v : sTm} (h : vT v) (h9 : v.1 < 9) : tv v.1 v.2 := by
  rcases h with h | rfl | rfl
  · exact h
  · exact absurd h9 (by decide)
  · exact absurd h9 (by decide)
theorem vT_S {i j : Nat} (hs : self < 6) (hv : ∀ k, k < 6 → vV (va k)) (h : x0 w n i j) : vT (evS w va self i) := by
  obtain ⟨h1, h0, h⟩ := h
  unfold evS
  rcases h with ⟨h2, h3, h4, h5, _⟩ | ⟨h2, h3, _⟩
  · rw [if_pos h2]
    have := (dg_s h4).2; have := (dg_s h5).2
    exact .inl (tv_0 (by omega))
  · rw [if_neg h2]
    by_cases a1 : isD (w i) = true
    · rw [if_pos a1]; have := (dg_s a1).2; exact .inl (tv_0 (by omega))
    · rw [if_neg a1]
      by_cases a2 : isA (w i) = true
      · rw [if_pos a2]; have := (ag_s a2).2; exact .inl (tv_0 (by omega))
      · rw [if_neg a2]
        by_cases a3 : w i = 35
        · rw [if_pos a3]; exact .inl (tv_0 (by omega))
        · rw [if_neg a3]
          have a4 : isV (w i) = true := by rcases h3 with h | h | h | h <;> first | exact absurd h a1 | exact absurd h a2 | exact h | exact absurd h a3
          by_cases a5 : (va (vN (w i))).1 < 9
          · rw [if_pos a5]
            rcases hv _ (vN_s a4).2 with h | h
            · exact .inl h
            · rw [h] at a5; exact absurd a5 (by decide)
          · rw [if_neg a5]; exact .inr (.inl rfl)
theorem ev_all (hs : self < 6) (hv : ∀ k, k < 6 → vV (va k)) : ∀ k {i j : Nat}, xp w n k i j → vT (ev w va self k i).1 ∧ i ≤ (ev w va self k i).2 ∧ (ev w va self k i).2 ≤ j ∧ ((ev w va self k i).1.1 < 9 → (ev w va self k i).2 = j)
  | 0, i, j, h => by
    have h1 := x0_n h
    have h2 := evE_s h
    exact ⟨vT_S hs hv h, by show i ≤ evE w i; omega, by show evE w i ≤ j; omega, fun _ => h2⟩
  | k + 1, i, j, h => by
    rcases h with ⟨h1, h40, j1, j2, a1, a2, a3, a4, a5, a6, rfl⟩ | ⟨h1, ho, j1, a1, a2⟩ | h
    · obtain ⟨l1, l2, l3, l4⟩ := ev_all hs hv k a1
      have n4 := xp_n k a4
      by_cases b1 : (ev w va self k (i + 1)).1.1 < 9
      · have e1 := l4 b1
        obtain ⟨r1, r2, r3, r4⟩ := ev_all hs hv k a4
        rw [← e1] at r1 r2 r3 r4
        by_cases b2 : (ev w va self k ((ev w va self k (i + 1)).2 + 1)).1.1 < 9
        · rw [ev_p3 h40 b1 b2]
          have e2 := r4 b2
          exact ⟨vT_pr (vT_9 l1 b1) (vT_9 r1 b2), by simp only; omega, by simp only; omega, fun _ => by simp only; omega⟩
        · rw [ev_p2 h40 b1 b2]
          exact ⟨r1, by omega, by omega, fun hh => absurd hh b2⟩
      · rw [ev_o1 (.inl h40) b1]
        have := xp_n k a1
        exact ⟨l1, by omega, by omega, fun hh => absurd hh b1⟩
    · obtain ⟨l1, l2, l3, l4⟩ := ev_all hs hv k a1
      have n4 := xp_n k a2
      by_cases b1 : (ev w va self k (i + 1)).1.1 < 9
      · have e1 := l4 b1
        obtain ⟨r1, r2, r3, r4⟩ := ev_all hs hv k a2
        rw [← e1] at r1 r2 r3 r4
        by_cases b2 : (ev w va self k (ev w va self k (i + 1)).2).1.1 < 9
        · rw [ev_c3 ho b1 b2]
          exact ⟨vT_cal, by simp only; omega, by simp only; omega, fun _ => r4 b2⟩
        · rw [ev_c2 ho b1 b2]
          exact ⟨r1, by omega, by omega, fun hh => absurd hh b2⟩
      · rw [ev_o1 (.inr ho) b1]
        have := xp_n k a1
        exact ⟨l1, by omega, by omega, fun hh => absurd hh b1⟩
    · have h1 := x0_n h
      have h2 := evE_s h
      rw [ev_s h.2.1]
      exact ⟨vT_S hs hv h, by show i ≤ evE w i; omega, by show evE w i ≤ j; omega, fun _ => h2⟩
end EV
