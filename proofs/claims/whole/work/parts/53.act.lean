/-! ACTIONS; the class does them so -/
abbrev sO : Type := Nat × Nat × sS2 × (Nat → sTm) × sTm
def pA (w : Nat → Int32) (self : Nat) (S : sS2) (va : Nat → sTm) (ns : sTm) (i : Nat) : sO :=
  if w i = 33 then
    (if (ev w va self 4 (i + 1)).1.1 < 9 then
      (if (ev w va self 4 (ev w va self 4 (i + 1)).2).1.1 < 9 then
        (if isR (ev w va self 4 (i + 1)).1.1 (ev w va self 4 (i + 1)).1.2 = true ∧ S.1 6 (6 * self + ((ev w va self 4 (i + 1)).1.2.getD 0 0 - 2007)) < 4 then (0, 0, pPut S (6 * self + ((ev w va self 4 (i + 1)).1.2.getD 0 0 - 2007)) (ev w va self 4 (ev w va self 4 (i + 1)).2).1, va, ns) else (1, 0, S, va, ns))
       else ((ev w va self 4 (ev w va self 4 (i + 1)).2).1.1 - 10, 0, S, va, ns))
     else ((ev w va self 4 (i + 1)).1.1 - 10, 0, S, va, ns))
  else if w i = 64 then (match pMake S (dg (w (i + 1))) (0, [999]) with
    | none => (1, 0, S, va, ns)
    | some q => (0, 0, pLink q.2 self q.1, vset va (vN (w (i + 2))) (0, [2007 + q.1]), ns))
  else if w i = 42 then (0, 0, (aU S.1 2 self (if w (i + 1) = 49 then 1 else 0), S.2), va, ns)
  else if (ev w va self 4 (i + 1)).1.1 < 9 then
    (if w i = 126 then (0, 0, S, va, (ev w va self 4 (i + 1)).1) else if w i = 36 then (3, (ev w va self 4 (i + 1)).1.2.getD 0 0, S, va, ns) else if isR (ev w va self 4 (i + 1)).1.1 (ev w va self 4 (i + 1)).1.2 = true then (0, 0, pLink S self ((ev w va self 4 (i + 1)).1.2.getD 0 0 - 2007), va, ns) else (1, 0, S, va, ns))
  else ((ev w va self 4 (i + 1)).1.1 - 10, 0, S, va, ns)
def aRR (self j : Nat) (f : mF) (g : mG) (o : sO) (F' : mF) (G' : mG) : Prop :=
  cA F' G' o.2.2.1.1 o.2.2.1.2 ∧ F' 133 2 = nI self ∧ F' 134 2 = nI self ∧ F' 134 3 = nI (if o.1 = 3 then 0 else o.1) ∧ F' 133 4 = (if o.1 = 3 then told o.2.1 else -5000) ∧ (∀ k, k < 6 → G' 138 k = cTh (o.2.2.2.1 k)) ∧ G' 133 3 = cTh o.2.2.2.2 ∧ (o.1 = 0 → F' 135 1 = nP j) ∧ (∀ k, F' (15 + 5 * self + 1) k = f (15 + 5 * self + 1) k) ∧ F' (15 + 5 * self) 1 = f (15 + 5 * self) 1 ∧ ∀ x k, 139 ≤ x → F' x k = f x k ∧ G' x k = g x k
section AC
variable {xs : List Int32} {f : mF} {g : mG} {t u c s n d self : Nat} {va : Nat → sTm} {ns : sTm} {S : sS2}
theorem cA_F {a : sA} {b : sQ} {e p : Int32} (h : cA f g a b) : cA (m_u (m_u f 134 3 e) 135 1 p) (gva g va) a b :=
  cA_fr (fun x k hx => by rw [m_un (by omega), m_un (by omega)]) (fun x k hx => gva_n (by omega)) h
theorem aR_i {F' : mF} {G' : mG} {o : sO} {e p j : Nat} (h6 : self < 6) (hs3 : f 133 2 = nI self) (hs4 : f 134 2 = nI self) (hr : f 133 4 = -5000) (hn : g 133 3 = cTh ns) (hc : cA F' G' o.2.2.1.1 o.2.2.1.2) (hF : ∀ x k, (129 ≤ x ∨ x = 15 + 5 * self ∨ x = 15 + 5 * self + 1) → F' x k = m_u (m_u f 134 3 (nI e)) 135 1 (nP p) x k) (hG : ∀ x k, 129 ≤ x → G' x k = gva g o.2.2.2.1 x k) (he : o.1 = e) (h3 : ¬ o.1 = 3) (hp : o.1 = 0 → p = j) (hns : o.2.2.2.2 = ns) : aRR self j f g o F' G' := by
  refine ⟨hc, ?_, ?_, ?_, ?_, fun k hk => ?_, ?_, fun h => ?_, fun k => ?_, ?_, fun x k hx => ?_⟩
  · rw [hF _ _ (by omega), m_un (by omega), m_un (by omega)]; exact hs3
  · rw [hF _ _ (by omega), m_un (by omega), m_un (by omega)]; exact hs4
  · rw [hF _ _ (by omega), m_un (by omega), m_uu, if_neg h3, he]
  · rw [hF _ _ (by omega), m_un (by omega), m_un (by omega), if_neg h3]; exact hr
  · rw [hG _ _ (by omega)]; exact gva_r hk
  · rw [hG _ _ (by omega), gva_n (by omega), hns]; exact hn
  · rw [hF _ _ (by omega), m_uu, hp h]
  · rw [hF _ _ (by omega), m_un (by omega), m_un (by omega)]
  · rw [hF _ _ (by omega), m_un (by omega), m_un (by omega)]
  · exact ⟨by rw [hF _ _ (by omega), m_un (by omega), m_un (by omega)], by rw [hG _ _ (by omega), gva_n (by omega)]⟩
theorem c_leaf02 {x : sTm} {M : aM} (hd : 1 ≤ d) (hx : tv x.1 x.2) : am_Y d 48 [.long (cTh x), .int 0] M = some (.inl (some (.int (told (x.2.getD 0 0)))), M) := by
  rw [cTh_t hx]; exact t_leafAt0 hd hx
theorem c_isActor2 {x : sTm} {M : aM} (hd : 1 ≤ d) (hx : tv x.1 x.2) : am_Y d 55 [.long (cTh x)] M = some (.inl (some (.int (m_b (isR x.1 x.2)))), M) := by
  rw [cTh_t hx]; exact t_isActor hd hx
theorem isR_s {x : sTm} (hx : tv x.1 x.2) (h : isR x.1 x.2 = true) : x.2.getD 0 0 - 2007 < 6 ∧ told (x.2.getD 0 0) - 3000 = nI (x.2.getD 0 0 - 2007) := by
  have h1 := of_decide_eq_true h
  have h2 := getD_lt hx (sN_pos _ hx.1)
  refine ⟨by omega, ?_⟩
  generalize x.2.getD 0 0 = a at *
  obtain ⟨k, rfl⟩ : ∃ k, a = 2007 + k := ⟨a - 2007, by omega⟩
  rw [← told_r, show (3000 : Int32) = nI 3000 from rfl, nI_sub (by omega), show 3000 + k - 3000 = 2007 + k - 2007 by omega]
theorem vT_12 {v : sTm} (h : vT v) (h9 : ¬ v.1 < 9) : (v.1 - 10 = 1 ∨ v.1 - 10 = 2) ∧ ¬ v.1 - 10 = 3 ∧ ¬ v.1 - 10 = 0 := by
  rcases h with h | rfl | rfl
  · exact absurd h.1 h9
  · exact ⟨.inl rfl, by decide, by decide⟩
  · exact ⟨.inr rfl, by decide, by decide⟩
theorem c_act33 {i j : Nat} (hd : 12 ≤ d) (hc : cA f g S.1 S.2) (hb : bd S.1) (h6 : self < 6) (hs3 : f 133 2 = nI self) (hs4 : f 134 2 = nI self) (hr : f 133 4 = -5000) (hn : g 133 3 = cTh ns) (hV : ∀ k, k < 6 → vV (va k)) (hT : mX f (15 + 5 * self) n) (h33 : f (15 + 5 * self + 1) i = 33) {m : Nat} (a1 : xp (f (15 + 5 * self + 1)) n 4 (i + 1) m) (a2 : xp (f (15 + 5 * self + 1)) n 4 m j) : ∃ F' G', am_Y d 39 [.ref 133] (mM xs (m_u (m_u f 134 3 0) 135 1 (nP (i + 1))) (gva g va) t (15 + 5 * self) c s) = some (.inl none, mM xs F' G' t (15 + 5 * self) c s) ∧ aRR self j f g (pA (f (15 + 5 * self + 1)) self S va ns i) F' G' := by
  obtain ⟨d, rfl⟩ : ∃ e, d = e + 1 := ⟨d - 1, by omega⟩
  have h1 : 1 ≤ d := by omega
  obtain ⟨l1, l2, l3, l4⟩ := ev_all (va := va) h6 hV 4 a1
  have ih1 := c_eval0 (xs := xs) (g := g) (t := t) (c := c) (s := s) (d := d) (e := 0) (by omega) hT hs4 h6 hV a1
  unfold pA
  rw [if_pos h33]
  by_cases b1 : (ev (f (15 + 5 * self + 1)) va self 4 (i + 1)).1.1 < 9
  · rw [trO_9 b1, l4 b1] at ih1
    rw [if_pos b1, l4 b1]
    obtain ⟨r1, r2, r3, r4⟩ := ev_all (va := va) h6 hV 4 a2
    have ih2 := c_eval0 (xs := xs) (g := g) (t := t) (c := c) (s := s) (d := d) (e := 0) (by omega) hT hs4 h6 hV a2
    by_cases b2 : (ev (f (15 + 5 * self + 1)) va self 4 m).1.1 < 9
    · rw [trO_9 b2, r4 b2] at ih2
      rw [if_pos b2]
      have hia := c_isActor2 (d := d) (M := mM xs (m_u (m_u f 134 3 0) 135 1 (nP j)) (gva g va) t (15 + 5 * self) c s) h1 (vT_9 l1 b1)
      have hlf := c_leaf02 (d := d) (M := mM xs (m_u (m_u f 134 3 0) 135 1 (nP j)) (gva g va) t (15 + 5 * self) c s) h1 (vT_9 l1 b1)
      have s2 : m_u (m_u f 134 3 0) 135 1 (nP j) 133 2 = nI self := by rw [m_un (by omega), m_un (by omega)]; exact hs3
      by_cases b3 : isR (ev (f (15 + 5 * self + 1)) va self 4 (i + 1)).1.1 (ev (f (15 + 5 * self + 1)) va self 4 (i + 1)).1.2 = true
      · obtain ⟨q1, q2⟩ := isR_s (vT_9 l1 b1) b3
        have hcF : cA (m_u (m_u f 134 3 0) 135 1 (nP j)) (gva g va) S.1 S.2 := cA_F hc
        have hcnt : m_u (m_u f 134 3 0) 135 1 (nP j) (45 + 2 * (6 * self + ((ev (f (15 + 5 * self + 1)) va self 4 (i + 1)).1.2.getD 0 0 - 2007))) 1 = nI (S.1 6 (6 * self + ((ev (f (15 + 5 * self + 1)) va self 4 (i + 1)).1.2.getD 0 0 - 2007))) := hcF.2.2.2.2.2.2.1 _ (by omega)
        have hle := hb.2.1 (6 * self + ((ev (f (15 + 5 * self + 1)) va self 4 (i + 1)).1.2.getD 0 0 - 2007)) (by omega)
        have wy := c_way (xs := xs) (f := m_u (m_u f 134 3 0) 135 1 (nP j)) (g := gva g va) (t := t) (u := 15 + 5 * self) (c := c) (s := s) h1 (show self < 7 by omega) q1
        have hW := mW_w (show 6 * self + ((ev (f (15 + 5 * self + 1)) va self 4 (i + 1)).1.2.getD 0 0 - 2007) < 42 by omega)
        by_cases b4 : S.1 6 (6 * self + ((ev (f (15 + 5 * self + 1)) va self 4 (i + 1)).1.2.getD 0 0 - 2007)) < 4
        · rw [if_pos ⟨b3, b4⟩]
          obtain ⟨F', G', y1, y2, y3, y4⟩ := c_wput (xs := xs) (t := t) (u := 15 + 5 * self) (c := c) (s := s) (x := (ev (f (15 + 5 * self + 1)) va self 4 m).1) h1 hcF hb (show 6 * self + ((ev (f (15 + 5 * self + 1)) va self 4 (i + 1)).1.2.getD 0 0 - 2007) < 42 by omega)
          refine ⟨F', G', ?_, aR_i (e := 0) (p := j) h6 hs3 hs4 hr hn y2 (fun x k hx => y3 x k (by omega)) (fun x k hx => y4 x k hx) rfl (show ¬ (0 : Nat) = 3 by decide) (fun _ => rfl) rfl⟩
          have lt4 : nI (S.1 6 (6 * self + ((ev (f (15 + 5 * self + 1)) va self 4 (i + 1)).1.2.getD 0 0 - 2007))) < 4 := by rw [l_4, nI_ltI (by omega) (by omega)]; exact b4
          simp (maxSteps := 4000000) (disch := first | omega | assumption) only [↓b_ix, ↓b_l3, ↓b_a3_0, ↓b_a3_1, ↓b_a3_2, ↓b_l4, ↓b_a4_0, ↓b_a4_1, ↓b_a4_2, ↓b_a4_3, ↓b_l129, ↓b_a129_0, ↓b_l130, ↓b_i130_1, ↓b_wi130_1, ↓b_l133, ↓b_a133_0, ↓b_a133_1, ↓b_i133_2, ↓b_wi133_2, ↓b_j133_3, ↓b_wj133_3, ↓b_i133_4, ↓b_wi133_4, ↓b_l134, ↓b_a134_0, ↓b_a134_1, ↓b_i134_2, ↓b_wi134_2, ↓b_i134_3, ↓b_wi134_3, ↓b_l135, ↓b_i135_1, ↓b_wi135_1, ↓b_l139, ↓b_a139_0, ↓b_a139_1, ↓b_a139_2, ↓b_a139_3, ↓b_a139_4, ↓b_a139_5, ↓b_a139_6, ↓b_a139_7, ↓b_a139_8, ↓b_a139_9, ↓b_a139_10, ↓b_a139_11, ↓b_a139_12, ↓b_a139_13, ↓b_a139_14, ↓b_i139_15, ↓b_wi139_15, ↓b_i139_16, ↓b_wi139_16, ↓b_i139_17, ↓b_wi139_17, ↓b_a139_18, ↓b_i139_19, ↓b_wi139_19, ↓b_i139_20, ↓b_wi139_20, ↓b_i139_21, ↓b_wi139_21, ↓b_l6, ↓b_i6, ↓b_wi6, ↓b_l140, ↓b_i140, ↓b_wi140, ↓b_l141, ↓b_i141, ↓b_wi141, ↓b_l142, ↓b_i142, ↓b_wi142, ↓b_l143, ↓b_i143, ↓b_wi143, ↓b_l144, ↓b_j144, ↓b_wj144, ↓b_l145, ↓b_j145, ↓b_wj145, ↓b_l146, ↓b_i146, ↓b_wi146, ↓b_l147, ↓b_i147, ↓b_wi147, ↓b_l148, ↓b_i148, ↓b_wi148, ↓b_l149, ↓b_i149, ↓b_wi149, ↓b_l150, ↓b_j150, ↓b_wj150, ↓b_l151, ↓b_i151, ↓b_wi151, ↓b_l152, ↓b_j152, ↓b_wj152, ↓b_l153, ↓b_i153, ↓b_wi153, ↓b_l154, ↓b_i154, ↓b_wi154, ↓b_l155, ↓b_j155, ↓b_wj155, ↓b_l156, ↓b_j156, ↓b_wj156, ↓b_l138, ↓b_j138, ↓b_wj138, ↓b_a5, ↓b_a13, ↓b_a44, ↓b_lA, ↓b_aA_0, ↓b_aA_1, ↓b_iA_2, ↓b_wiA_2, ↓b_iA_4, ↓b_wiA_4, ↓b_iA_5, ↓b_wiA_5, ↓b_iA_6, ↓b_wiA_6, ↓b_jA_3, ↓b_wjA_3, ↓b_lT, ↓b_lTc, ↓b_aT, ↓b_iT, ↓b_wiT, ↓b_iTc, ↓b_wiTc, ↓b_lW, ↓b_lWc, ↓b_aW, ↓b_iW, ↓b_wiW, ↓b_jWc, ↓b_wjWc, ↓b_rt, ↓b_ru, ↓b_wt, ↓b_wu, ↓b_0l, ↓b_0, ↓b_1, ↓b_2, m_tk, ↓reduceIte, cond_true, cond_false, Option.bind_some, y_Stepper_putUnderWay, e_Stepper_putUnderWay_0, e_Stepper_putUnderWay_16, e_Stepper_putUnderWay_32, e_Stepper_putUnderWay_49, e_Stepper_putUnderWay_90, ↓bJ ih1, ↓bJ ih2, cTh_0 l1, cTh_0 r1, b1, b2, ↓bI hia, b3, m_b0, s2, ↓bI hlf, q2, ↓bA wy, ↓b_iW _ hW, ↓b_lW _ hW, hcnt, lt4, ↓bV y1, i_11, i_01, i_1_0, i_0_1, not_true, not_false_eq_true, if_true, if_false, Bool.true_eq_false, Bool.false_eq_true, decide_true, decide_false]
        · rw [if_neg (fun hh => b4 hh.2)]
          refine ⟨m_u (m_u f 134 3 1) 135 1 (nP j), gva g va, ?_, aR_i (e := 1) (p := j) h6 hs3 hs4 hr hn (cA_F hc) (fun x k hx => rfl) (fun x k hx => rfl) rfl (show ¬ (1 : Nat) = 3 by decide) (fun _ => rfl) rfl⟩
          have lt4 : ¬ nI (S.1 6 (6 * self + ((ev (f (15 + 5 * self + 1)) va self 4 (i + 1)).1.2.getD 0 0 - 2007))) < 4 := by rw [l_4, nI_ltI (by omega) (by omega)]; exact b4
          simp (maxSteps := 4000000) (disch := first | omega | assumption) only [↓b_ix, ↓b_l3, ↓b_a3_0, ↓b_a3_1, ↓b_a3_2, ↓b_l4, ↓b_a4_0, ↓b_a4_1, ↓b_a4_2, ↓b_a4_3, ↓b_l129, ↓b_a129_0, ↓b_l130, ↓b_i130_1, ↓b_wi130_1, ↓b_l133, ↓b_a133_0, ↓b_a133_1, ↓b_i133_2, ↓b_wi133_2, ↓b_j133_3, ↓b_wj133_3, ↓b_i133_4, ↓b_wi133_4, ↓b_l134, ↓b_a134_0, ↓b_a134_1, ↓b_i134_2, ↓b_wi134_2, ↓b_i134_3, ↓b_wi134_3, ↓b_l135, ↓b_i135_1, ↓b_wi135_1, ↓b_l139, ↓b_a139_0, ↓b_a139_1, ↓b_a139_2, ↓b_a139_3, ↓b_a139_4, ↓b_a139_5, ↓b_a139_6, ↓b_a139_7, ↓b_a139_8, ↓b_a139_9, ↓b_a139_10, ↓b_a139_11, ↓b_a139_12, ↓b_a139_13, ↓b_a139_14, ↓b_i139_15, ↓b_wi139_15, ↓b_i139_16, ↓b_wi139_16, ↓b_i139_17, ↓b_wi139_17, ↓b_a139_18, ↓b_i139_19, ↓b_wi139_19, ↓b_i139_20, ↓b_wi139_20, ↓b_i139_21, ↓b_wi139_21, ↓b_l6, ↓b_i6, ↓b_wi6, ↓b_l140, ↓b_i140, ↓b_wi140, ↓b_l141, ↓b_i141, ↓b_wi141, ↓b_l142, ↓b_i142, ↓b_wi142, ↓b_l143, ↓b_i143, ↓b_wi143, ↓b_l144, ↓b_j144, ↓b_wj144, ↓b_l145, ↓b_j145, ↓b_wj145, ↓b_l146, ↓b_i146, ↓b_wi146, ↓b_l147, ↓b_i147, ↓b_wi147, ↓b_l148, ↓b_i148, ↓b_wi148, ↓b_l149, ↓b_i149, ↓b_wi149, ↓b_l150, ↓b_j150, ↓b_wj150, ↓b_l151, ↓b_i151, ↓b_wi151, ↓b_l152, ↓b_j152, ↓b_wj152, ↓b_l153, ↓b_i153, ↓b_wi153, ↓b_l154, ↓b_i154, ↓b_wi154, ↓b_l155, ↓b_j155, ↓b_wj155, ↓b_l156, ↓b_j156, ↓b_wj156, ↓b_l138, ↓b_j138, ↓b_wj138, ↓b_a5, ↓b_a13, ↓b_a44, ↓b_lA, ↓b_aA_0, ↓b_aA_1, ↓b_iA_2, ↓b_wiA_2, ↓b_iA_4, ↓b_wiA_4, ↓b_iA_5, ↓b_wiA_5, ↓b_iA_6, ↓b_wiA_6, ↓b_jA_3, ↓b_wjA_3, ↓b_lT, ↓b_lTc, ↓b_aT, ↓b_iT, ↓b_wiT, ↓b_iTc, ↓b_wiTc, ↓b_lW, ↓b_lWc, ↓b_aW, ↓b_iW, ↓b_wiW, ↓b_jWc, ↓b_wjWc, ↓b_rt, ↓b_ru, ↓b_wt, ↓b_wu, ↓b_0l, ↓b_0, ↓b_1, ↓b_2, m_tk, ↓reduceIte, cond_true, cond_false, Option.bind_some, y_Stepper_putUnderWay, e_Stepper_putUnderWay_0, e_Stepper_putUnderWay_16, e_Stepper_putUnderWay_32, e_Stepper_putUnderWay_49, e_Stepper_putUnderWay_90, ↓bJ ih1, ↓bJ ih2, cTh_0 l1, cTh_0 r1, b1, b2, ↓bI hia, b3, m_b0, s2, ↓bI hlf, q2, ↓bA wy, ↓b_iW _ hW, ↓b_lW _ hW, hcnt, lt4, ↓bJ (c_failed h1), i_11, i_01, i_1_0, i_0_1, not_true, not_false_eq_true, if_true, if_false, Bool.true_eq_false, Bool.false_eq_true, decide_true, decide_false]
      · rw [if_neg (fun hh => b3 hh.1)]
        have b3' : isR (ev (f (15 + 5 * self + 1)) va self 4 (i + 1)).1.1 (ev (f (15 + 5 * self + 1)) va self 4 (i + 1)).1.2 = false := by simpa using b3
        refine ⟨m_u (m_u f 134 3 1) 135 1 (nP j), gva g va, ?_, aR_i (e := 1) (p := j) h6 hs3 hs4 hr hn (cA_F hc) (fun x k hx => rfl) (fun x k hx => rfl) rfl (show ¬ (1 : Nat) = 3 by decide) (fun _ => rfl) rfl⟩
        simp (maxSteps := 4000000) (disch := first | omega | assumption) only [↓b_ix, ↓b_l3, ↓b_a3_0, ↓b_a3_1, ↓b_a3_2, ↓b_l4, ↓b_a4_0, ↓b_a4_1, ↓b_a4_2, ↓b_a4_3, ↓b_l129, ↓b_a129_0, ↓b_l130, ↓b_i130_1, ↓b_wi130_1, ↓b_l133, ↓b_a133_0, ↓b_a133_1, ↓b_i133_2, ↓b_wi133_2, ↓b_j133_3, ↓b_wj133_3, ↓b_i133_4, ↓b_wi133_4, ↓b_l134, ↓b_a134_0, ↓b_a134_1, ↓b_i134_2, ↓b_wi134_2, ↓b_i134_3, ↓b_wi134_3, ↓b_l135, ↓b_i135_1, ↓b_wi135_1, ↓b_l139, ↓b_a139_0, ↓b_a139_1, ↓b_a139_2, ↓b_a139_3, ↓b_a139_4, ↓b_a139_5, ↓b_a139_6, ↓b_a139_7, ↓b_a139_8, ↓b_a139_9, ↓b_a139_10, ↓b_a139_11, ↓b_a139_12, ↓b_a139_13, ↓b_a139_14, ↓b_i139_15, ↓b_wi139_15, ↓b_i139_16, ↓b_wi139_16, ↓b_i139_17, ↓b_wi139_17, ↓b_a139_18, ↓b_i139_19, ↓b_wi139_19, ↓b_i139_20, ↓b_wi139_20, ↓b_i139_21, ↓b_wi139_21, ↓b_l6, ↓b_i6, ↓b_wi6, ↓b_l140, ↓b_i140, ↓b_wi140, ↓b_l141, ↓b_i141, ↓b_wi141, ↓b_l142, ↓b_i142, ↓b_wi142, ↓b_l143, ↓b_i143, ↓b_wi143, ↓b_l144, ↓b_j144, ↓b_wj144, ↓b_l145, ↓b_j145, ↓b_wj145, ↓b_l146, ↓b_i146, ↓b_wi146, ↓b_l147, ↓b_i147, ↓b_wi147, ↓b_l148, ↓b_i148, ↓b_wi148, ↓b_l149, ↓b_i149, ↓b_wi149, ↓b_l150, ↓b_j150, ↓b_wj150, ↓b_l151, ↓b_i151, ↓b_wi151, ↓b_l152, ↓b_j152, ↓b_wj152, ↓b_l153, ↓b_i153, ↓b_wi153, ↓b_l154, ↓b_i154, ↓b_wi154, ↓b_l155, ↓b_j155, ↓b_wj155, ↓b_l156, ↓b_j156, ↓b_wj156, ↓b_l138, ↓b_j138, ↓b_wj138, ↓b_a5, ↓b_a13, ↓b_a44, ↓b_lA, ↓b_aA_0, ↓b_aA_1, ↓b_iA_2, ↓b_wiA_2, ↓b_iA_4, ↓b_wiA_4, ↓b_iA_5, ↓b_wiA_5, ↓b_iA_6, ↓b_wiA_6, ↓b_jA_3, ↓b_wjA_3, ↓b_lT, ↓b_lTc, ↓b_aT, ↓b_iT, ↓b_wiT, ↓b_iTc, ↓b_wiTc, ↓b_lW, ↓b_lWc, ↓b_aW, ↓b_iW, ↓b_wiW, ↓b_jWc, ↓b_wjWc, ↓b_rt, ↓b_ru, ↓b_wt, ↓b_wu, ↓b_0l, ↓b_0, ↓b_1, ↓b_2, m_tk, ↓reduceIte, cond_true, cond_false, Option.bind_some, y_Stepper_putUnderWay, e_Stepper_putUnderWay_0, e_Stepper_putUnderWay_16, e_Stepper_putUnderWay_32, e_Stepper_putUnderWay_49, e_Stepper_putUnderWay_90, ↓bJ ih1, ↓bJ ih2, cTh_0 l1, cTh_0 r1, b1, b2, ↓bI hia, b3', m_b0, ↓bJ (c_failed h1), i_11, i_01, i_1_0, i_0_1, not_true, not_false_eq_true, if_true, if_false, Bool.true_eq_false, Bool.false_eq_true, decide_true, decide_false]
    · rw [if_neg b2]
      rw [trO_n b2] at ih2
      have h3 := vT_12 r1 b2
      refine ⟨_, _, ?_, aR_i (e := (ev (f (15 + 5 * self + 1)) va self 4 m).1.1 - 10) (p := (ev (f (15 + 5 * self + 1)) va self 4 m).2) h6 hs3 hs4 hr hn (cA_F hc) (fun x k hx => rfl) (fun x k hx => rfl) rfl h3.2.1 (fun hh => absurd hh h3.2.2) rfl⟩
      simp (maxSteps := 4000000) (disch := first | omega | assumption) only [↓b_ix, ↓b_l3, ↓b_a3_0, ↓b_a3_1, ↓b_a3_2, ↓b_l4, ↓b_a4_0, ↓b_a4_1, ↓b_a4_2, ↓b_a4_3, ↓b_l129, ↓b_a129_0, ↓b_l130, ↓b_i130_1, ↓b_wi130_1, ↓b_l133, ↓b_a133_0, ↓b_a133_1, ↓b_i133_2, ↓b_wi133_2, ↓b_j133_3, ↓b_wj133_3, ↓b_i133_4, ↓b_wi133_4, ↓b_l134, ↓b_a134_0, ↓b_a134_1, ↓b_i134_2, ↓b_wi134_2, ↓b_i134_3, ↓b_wi134_3, ↓b_l135, ↓b_i135_1, ↓b_wi135_1, ↓b_l139, ↓b_a139_0, ↓b_a139_1, ↓b_a139_2, ↓b_a139_3, ↓b_a139_4, ↓b_a139_5, ↓b_a139_6, ↓b_a139_7, ↓b_a139_8, ↓b_a139_9, ↓b_a139_10, ↓b_a139_11, ↓b_a139_12, ↓b_a139_13, ↓b_a139_14, ↓b_i139_15, ↓b_wi139_15, ↓b_i139_16, ↓b_wi139_16, ↓b_i139_17, ↓b_wi139_17, ↓b_a139_18, ↓b_i139_19, ↓b_wi139_19, ↓b_i139_20, ↓b_wi139_20, ↓b_i139_21, ↓b_wi139_21, ↓b_l6, ↓b_i6, ↓b_wi6, ↓b_l140, ↓b_i140, ↓b_wi140, ↓b_l141, ↓b_i141, ↓b_wi141, ↓b_l142, ↓b_i142, ↓b_wi142, ↓b_l143, ↓b_i143, ↓b_wi143, ↓b_l144, ↓b_j144, ↓b_wj144, ↓b_l145, ↓b_j145, ↓b_wj145, ↓b_l146, ↓b_i146, ↓b_wi146, ↓b_l147, ↓b_i147, ↓b_wi147, ↓b_l148, ↓b_i148, ↓b_wi148, ↓b_l149, ↓b_i149, ↓b_wi149, ↓b_l150, ↓b_j150, ↓b_wj150, ↓b_l151, ↓b_i151, ↓b_wi151, ↓b_l152, ↓b_j152, ↓b_wj152, ↓b_l153, ↓b_i153, ↓b_wi153, ↓b_l154, ↓b_i154, ↓b_wi154, ↓b_l155, ↓b_j155, ↓b_wj155, ↓b_l156, ↓b_j156, ↓b_wj156, ↓b_l138, ↓b_j138, ↓b_wj138, ↓b_a5, ↓b_a13, ↓b_a44, ↓b_lA, ↓b_aA_0, ↓b_aA_1, ↓b_iA_2, ↓b_wiA_2, ↓b_iA_4, ↓b_wiA_4, ↓b_iA_5, ↓b_wiA_5, ↓b_iA_6, ↓b_wiA_6, ↓b_jA_3, ↓b_wjA_3, ↓b_lT, ↓b_lTc, ↓b_aT, ↓b_iT, ↓b_wiT, ↓b_iTc, ↓b_wiTc, ↓b_lW, ↓b_lWc, ↓b_aW, ↓b_iW, ↓b_wiW, ↓b_jWc, ↓b_wjWc, ↓b_rt, ↓b_ru, ↓b_wt, ↓b_wu, ↓b_0l, ↓b_0, ↓b_1, ↓b_2, m_tk, ↓reduceIte, cond_true, cond_false, Option.bind_some, y_Stepper_putUnderWay, e_Stepper_putUnderWay_0, e_Stepper_putUnderWay_16, e_Stepper_putUnderWay_32, e_Stepper_putUnderWay_49, e_Stepper_putUnderWay_90, ↓bJ ih1, ↓bJ ih2, cTh_0 l1, cTh_0 r1, b1, b2, i_11, i_01, i_1_0, i_0_1, not_true, not_false_eq_true, if_true, if_false, Bool.true_eq_false, Bool.false_eq_true, decide_true, decide_false]
  · rw [if_neg b1]
    rw [trO_n b1] at ih1
    have h3 := vT_12 l1 b1
    refine ⟨_, _, ?_, aR_i (e := (ev (f (15 + 5 * self + 1)) va self 4 (i + 1)).1.1 - 10) (p := (ev (f (15 + 5 * self + 1)) va self 4 (i + 1)).2) h6 hs3 hs4 hr hn (cA_F hc) (fun x k hx => rfl) (fun x k hx => rfl) rfl h3.2.1 (fun hh => absurd hh h3.2.2) rfl⟩
    simp (maxSteps := 4000000) (disch := first | omega | assumption) only [↓b_ix, ↓b_l3, ↓b_a3_0, ↓b_a3_1, ↓b_a3_2, ↓b_l4, ↓b_a4_0, ↓b_a4_1, ↓b_a4_2, ↓b_a4_3, ↓b_l129, ↓b_a129_0, ↓b_l130, ↓b_i130_1, ↓b_wi130_1, ↓b_l133, ↓b_a133_0, ↓b_a133_1, ↓b_i133_2, ↓b_wi133_2, ↓b_j133_3, ↓b_wj133_3, ↓b_i133_4, ↓b_wi133_4, ↓b_l134, ↓b_a134_0, ↓b_a134_1, ↓b_i134_2, ↓b_wi134_2, ↓b_i134_3, ↓b_wi134_3, ↓b_l135, ↓b_i135_1, ↓b_wi135_1, ↓b_l139, ↓b_a139_0, ↓b_a139_1, ↓b_a139_2, ↓b_a139_3, ↓b_a139_4, ↓b_a139_5, ↓b_a139_6, ↓b_a139_7, ↓b_a139_8, ↓b_a139_9, ↓b_a139_10, ↓b_a139_11, ↓b_a139_12, ↓b_a139_13, ↓b_a139_14, ↓b_i139_15, ↓b_wi139_15, ↓b_i139_16, ↓b_wi139_16, ↓b_i139_17, ↓b_wi139_17, ↓b_a139_18, ↓b_i139_19, ↓b_wi139_19, ↓b_i139_20, ↓b_wi139_20, ↓b_i139_21, ↓b_wi139_21, ↓b_l6, ↓b_i6, ↓b_wi6, ↓b_l140, ↓b_i140, ↓b_wi140, ↓b_l141, ↓b_i141, ↓b_wi141, ↓b_l142, ↓b_i142, ↓b_wi142, ↓b_l143, ↓b_i143, ↓b_wi143, ↓b_l144, ↓b_j144, ↓b_wj144, ↓b_l145, ↓b_j145, ↓b_wj145, ↓b_l146, ↓b_i146, ↓b_wi146, ↓b_l147, ↓b_i147, ↓b_wi147, ↓b_l148, ↓b_i148, ↓b_wi148, ↓b_l149, ↓b_i149, ↓b_wi149, ↓b_l150, ↓b_j150, ↓b_wj150, ↓b_l151, ↓b_i151, ↓b_wi151, ↓b_l152, ↓b_j152, ↓b_wj152, ↓b_l153, ↓b_i153, ↓b_wi153, ↓b_l154, ↓b_i154, ↓b_wi154, ↓b_l155, ↓b_j155, ↓b_wj155, ↓b_l156, ↓b_j156, ↓b_wj156, ↓b_l138, ↓b_j138, ↓b_wj138, ↓b_a5, ↓b_a13, ↓b_a44, ↓b_lA, ↓b_aA_0, ↓b_aA_1, ↓b_iA_2, ↓b_wiA_2, ↓b_iA_4, ↓b_wiA_4, ↓b_iA_5, ↓b_wiA_5, ↓b_iA_6, ↓b_wiA_6, ↓b_jA_3, ↓b_wjA_3, ↓b_lT, ↓b_lTc, ↓b_aT, ↓b_iT, ↓b_wiT, ↓b_iTc, ↓b_wiTc, ↓b_lW, ↓b_lWc, ↓b_aW, ↓b_iW, ↓b_wiW, ↓b_jWc, ↓b_wjWc, ↓b_rt, ↓b_ru, ↓b_wt, ↓b_wu, ↓b_0l, ↓b_0, ↓b_1, ↓b_2, m_tk, ↓reduceIte, cond_true, cond_false, Option.bind_some, y_Stepper_putUnderWay, e_Stepper_putUnderWay_0, e_Stepper_putUnderWay_16, e_Stepper_putUnderWay_32, e_Stepper_putUnderWay_49, e_Stepper_putUnderWay_90, ↓bJ ih1, cTh_0 l1, b1, i_11, i_01, i_1_0, i_0_1, not_true, not_false_eq_true, if_true, if_false, Bool.true_eq_false, Bool.false_eq_true, decide_true, decide_false]
theorem c_use {i j : Nat} {v : sTm} (hd : 2 ≤ d) (hc : cA f g S.1 S.2) (hb : bd S.1) (h6 : self < 6) (hs3 : f 133 2 = nI self) (hs4 : f 134 2 = nI self) (hr : f 133 4 = -5000) (hn : g 133 3 = cTh ns) (hv : tv v.1 v.2) {x : Int32} (hx : x = 126 ∨ x = 38 ∨ x = 36) : ∃ F' G', am_Y d 41 [.ref 133, .int x, .long (cTh v)] (mM xs (m_u (m_u f 134 3 0) 135 1 (nP j)) (gva g va) t (15 + 5 * self) c s) = some (.inl none, mM xs F' G' t (15 + 5 * self) c s) ∧ aRR self j f g (if x = 126 then (0, 0, S, va, v) else if x = 36 then (3, v.2.getD 0 0, S, va, ns) else if isR v.1 v.2 = true then (0, 0, pLink S self (v.2.getD 0 0 - 2007), va, ns) else (1, 0, S, va, ns)) F' G' := by
  obtain ⟨d, rfl⟩ : ∃ e, d = e + 1 := ⟨d - 1, by omega⟩
  have h1 : 1 ≤ d := by omega
  have hcF : cA (m_u (m_u f 134 3 0) 135 1 (nP j)) (gva g va) S.1 S.2 := cA_F hc
  have s2 : m_u (m_u f 134 3 0) 135 1 (nP j) 133 2 = nI self := by rw [m_un (by omega), m_un (by omega)]; exact hs3
  rcases hx with rfl | rfl | rfl
  · rw [if_pos rfl]
    refine ⟨m_u (m_u f 134 3 0) 135 1 (nP j), m_w (gva g va) 133 3 (cTh v), ?_, ?_⟩
    · simp (maxSteps := 4000000) (disch := first | omega | assumption) only [↓b_ix, ↓b_l3, ↓b_a3_0, ↓b_a3_1, ↓b_a3_2, ↓b_l4, ↓b_a4_0, ↓b_a4_1, ↓b_a4_2, ↓b_a4_3, ↓b_l129, ↓b_a129_0, ↓b_l130, ↓b_i130_1, ↓b_wi130_1, ↓b_l133, ↓b_a133_0, ↓b_a133_1, ↓b_i133_2, ↓b_wi133_2, ↓b_j133_3, ↓b_wj133_3, ↓b_i133_4, ↓b_wi133_4, ↓b_l134, ↓b_a134_0, ↓b_a134_1, ↓b_i134_2, ↓b_wi134_2, ↓b_i134_3, ↓b_wi134_3, ↓b_l135, ↓b_i135_1, ↓b_wi135_1, ↓b_l139, ↓b_a139_0, ↓b_a139_1, ↓b_a139_2, ↓b_a139_3, ↓b_a139_4, ↓b_a139_5, ↓b_a139_6, ↓b_a139_7, ↓b_a139_8, ↓b_a139_9, ↓b_a139_10, ↓b_a139_11, ↓b_a139_12, ↓b_a139_13, ↓b_a139_14, ↓b_i139_15, ↓b_wi139_15, ↓b_i139_16, ↓b_wi139_16, ↓b_i139_17, ↓b_wi139_17, ↓b_a139_18, ↓b_i139_19, ↓b_wi139_19, ↓b_i139_20, ↓b_wi139_20, ↓b_i139_21, ↓b_wi139_21, ↓b_l6, ↓b_i6, ↓b_wi6, ↓b_l140, ↓b_i140, ↓b_wi140, ↓b_l141, ↓b_i141, ↓b_wi141, ↓b_l142, ↓b_i142, ↓b_wi142, ↓b_l143, ↓b_i143, ↓b_wi143, ↓b_l144, ↓b_j144, ↓b_wj144, ↓b_l145, ↓b_j145, ↓b_wj145, ↓b_l146, ↓b_i146, ↓b_wi146, ↓b_l147, ↓b_i147, ↓b_wi147, ↓b_l148, ↓b_i148, ↓b_wi148, ↓b_l149, ↓b_i149, ↓b_wi149, ↓b_l150, ↓b_j150, ↓b_wj150, ↓b_l151, ↓b_i151, ↓b_wi151, ↓b_l152, ↓b_j152, ↓b_wj152, ↓b_l153, ↓b_i153, ↓b_wi153, ↓b_l154, ↓b_i154, ↓b_wi154, ↓b_l155, ↓b_j155, ↓b_wj155, ↓b_l156, ↓b_j156, ↓b_wj156, ↓b_l138, ↓b_j138, ↓b_wj138, ↓b_a5, ↓b_a13, ↓b_a44, ↓b_lA, ↓b_aA_0, ↓b_aA_1, ↓b_iA_2, ↓b_wiA_2, ↓b_iA_4, ↓b_wiA_4, ↓b_iA_5, ↓b_wiA_5, ↓b_iA_6, ↓b_wiA_6, ↓b_jA_3, ↓b_wjA_3, ↓b_lT, ↓b_lTc, ↓b_aT, ↓b_iT, ↓b_wiT, ↓b_iTc, ↓b_wiTc, ↓b_lW, ↓b_lWc, ↓b_aW, ↓b_iW, ↓b_wiW, ↓b_jWc, ↓b_wjWc, ↓b_rt, ↓b_ru, ↓b_wt, ↓b_wu, ↓b_0l, ↓b_0, ↓b_1, ↓b_2, m_tk, ↓reduceIte, cond_true, cond_false, Option.bind_some, y_Stepper_use, e_Stepper_use_0, e_Stepper_use_14, e_Stepper_use_32, e_Stepper_use_62, e_Stepper_use_71, i_11, i_01, i_1_0, i_0_1, not_true, not_false_eq_true, if_true, if_false, Bool.true_eq_false, Bool.false_eq_true, decide_true, decide_false]
    · refine ⟨cA_fr (fun x k hx => rfl) (fun x k hx => m_wn (by omega)) hcF, s2, ?_, ?_, ?_, fun k hk => ?_, m_ww _, fun _ => m_uu _, fun k => ?_, ?_, fun x k hx => ?_⟩
      · rw [m_un (by omega), m_un (by omega)]; exact hs4
      · rw [m_un (by omega), m_uu]; rfl
      · rw [m_un (by omega), m_un (by omega)]; exact hr
      · rw [m_wn (by omega)]; exact gva_r hk
      · rw [m_un (by omega), m_un (by omega)]
      · rw [m_un (by omega), m_un (by omega)]
      · exact ⟨by rw [m_un (by omega), m_un (by omega)], by rw [m_wn (by omega), gva_n (by omega)]⟩
  · rw [if_neg (by decide), if_neg (by decide)]
    have hia := c_isActor2 (d := d) (M := mM xs (m_u (m_u f 134 3 0) 135 1 (nP j)) (gva g va) t (15 + 5 * self) c s) h1 hv
    have hlf := c_leaf02 (d := d) (M := mM xs (m_u (m_u f 134 3 0) 135 1 (nP j)) (gva g va) t (15 + 5 * self) c s) h1 hv
    by_cases b3 : isR v.1 v.2 = true
    · obtain ⟨q1, q2⟩ := isR_s hv b3
      rw [if_pos b3]
      obtain ⟨F', y1, y2, y3⟩ := c_link (xs := xs) (t := t) (u := 15 + 5 * self) (c := c) (s := s) h1 hcF hb h6 q1
      refine ⟨F', gva g va, ?_, aR_i (e := 0) (p := j) h6 hs3 hs4 hr hn y2 (fun x k hx => y3 x k (by omega)) (fun x k hx => rfl) rfl (show ¬ (0 : Nat) = 3 by decide) (fun _ => rfl) rfl⟩
      simp (maxSteps := 4000000) (disch := first | omega | assumption) only [↓b_ix, ↓b_l3, ↓b_a3_0, ↓b_a3_1, ↓b_a3_2, ↓b_l4, ↓b_a4_0, ↓b_a4_1, ↓b_a4_2, ↓b_a4_3, ↓b_l129, ↓b_a129_0, ↓b_l130, ↓b_i130_1, ↓b_wi130_1, ↓b_l133, ↓b_a133_0, ↓b_a133_1, ↓b_i133_2, ↓b_wi133_2, ↓b_j133_3, ↓b_wj133_3, ↓b_i133_4, ↓b_wi133_4, ↓b_l134, ↓b_a134_0, ↓b_a134_1, ↓b_i134_2, ↓b_wi134_2, ↓b_i134_3, ↓b_wi134_3, ↓b_l135, ↓b_i135_1, ↓b_wi135_1, ↓b_l139, ↓b_a139_0, ↓b_a139_1, ↓b_a139_2, ↓b_a139_3, ↓b_a139_4, ↓b_a139_5, ↓b_a139_6, ↓b_a139_7, ↓b_a139_8, ↓b_a139_9, ↓b_a139_10, ↓b_a139_11, ↓b_a139_12, ↓b_a139_13, ↓b_a139_14, ↓b_i139_15, ↓b_wi139_15, ↓b_i139_16, ↓b_wi139_16, ↓b_i139_17, ↓b_wi139_17, ↓b_a139_18, ↓b_i139_19, ↓b_wi139_19, ↓b_i139_20, ↓b_wi139_20, ↓b_i139_21, ↓b_wi139_21, ↓b_l6, ↓b_i6, ↓b_wi6, ↓b_l140, ↓b_i140, ↓b_wi140, ↓b_l141, ↓b_i141, ↓b_wi141, ↓b_l142, ↓b_i142, ↓b_wi142, ↓b_l143, ↓b_i143, ↓b_wi143, ↓b_l144, ↓b_j144, ↓b_wj144, ↓b_l145, ↓b_j145, ↓b_wj145, ↓b_l146, ↓b_i146, ↓b_wi146, ↓b_l147, ↓b_i147, ↓b_wi147, ↓b_l148, ↓b_i148, ↓b_wi148, ↓b_l149, ↓b_i149, ↓b_wi149, ↓b_l150, ↓b_j150, ↓b_wj150, ↓b_l151, ↓b_i151, ↓b_wi151, ↓b_l152, ↓b_j152, ↓b_wj152, ↓b_l153, ↓b_i153, ↓b_wi153, ↓b_l154, ↓b_i154, ↓b_wi154, ↓b_l155, ↓b_j155, ↓b_wj155, ↓b_l156, ↓b_j156, ↓b_wj156, ↓b_l138, ↓b_j138, ↓b_wj138, ↓b_a5, ↓b_a13, ↓b_a44, ↓b_lA, ↓b_aA_0, ↓b_aA_1, ↓b_iA_2, ↓b_wiA_2, ↓b_iA_4, ↓b_wiA_4, ↓b_iA_5, ↓b_wiA_5, ↓b_iA_6, ↓b_wiA_6, ↓b_jA_3, ↓b_wjA_3, ↓b_lT, ↓b_lTc, ↓b_aT, ↓b_iT, ↓b_wiT, ↓b_iTc, ↓b_wiTc, ↓b_lW, ↓b_lWc, ↓b_aW, ↓b_iW, ↓b_wiW, ↓b_jWc, ↓b_wjWc, ↓b_rt, ↓b_ru, ↓b_wt, ↓b_wu, ↓b_0l, ↓b_0, ↓b_1, ↓b_2, m_tk, ↓reduceIte, cond_true, cond_false, Option.bind_some, y_Stepper_use, e_Stepper_use_0, e_Stepper_use_14, e_Stepper_use_32, e_Stepper_use_62, e_Stepper_use_71, show ¬ (38 : Int32) = 126 by decide, show ¬ (38 : Int32) = 36 by decide, ↓bI hia, b3, m_b0, s2, ↓bI hlf, q2, ↓bV y1, i_11, i_01, i_1_0, i_0_1, not_true, not_false_eq_true, if_true, if_false, Bool.true_eq_false, Bool.false_eq_true, decide_true, decide_false]
    · have b3' : isR v.1 v.2 = false := by simpa using b3
      rw [if_neg b3]
      refine ⟨m_u (m_u f 134 3 1) 135 1 (nP j), gva g va, ?_, aR_i (e := 1) (p := j) h6 hs3 hs4 hr hn (cA_F hc) (fun x k hx => rfl) (fun x k hx => rfl) rfl (show ¬ (1 : Nat) = 3 by decide) (fun _ => rfl) rfl⟩
      simp (maxSteps := 4000000) (disch := first | omega | assumption) only [↓b_ix, ↓b_l3, ↓b_a3_0, ↓b_a3_1, ↓b_a3_2, ↓b_l4, ↓b_a4_0, ↓b_a4_1, ↓b_a4_2, ↓b_a4_3, ↓b_l129, ↓b_a129_0, ↓b_l130, ↓b_i130_1, ↓b_wi130_1, ↓b_l133, ↓b_a133_0, ↓b_a133_1, ↓b_i133_2, ↓b_wi133_2, ↓b_j133_3, ↓b_wj133_3, ↓b_i133_4, ↓b_wi133_4, ↓b_l134, ↓b_a134_0, ↓b_a134_1, ↓b_i134_2, ↓b_wi134_2, ↓b_i134_3, ↓b_wi134_3, ↓b_l135, ↓b_i135_1, ↓b_wi135_1, ↓b_l139, ↓b_a139_0, ↓b_a139_1, ↓b_a139_2, ↓b_a139_3, ↓b_a139_4, ↓b_a139_5, ↓b_a139_6, ↓b_a139_7, ↓b_a139_8, ↓b_a139_9, ↓b_a139_10, ↓b_a139_11, ↓b_a139_12, ↓b_a139_13, ↓b_a139_14, ↓b_i139_15, ↓b_wi139_15, ↓b_i139_16, ↓b_wi139_16, ↓b_i139_17, ↓b_wi139_17, ↓b_a139_18, ↓b_i139_19, ↓b_wi139_19, ↓b_i139_20, ↓b_wi139_20, ↓b_i139_21, ↓b_wi139_21, ↓b_l6, ↓b_i6, ↓b_wi6, ↓b_l140, ↓b_i140, ↓b_wi140, ↓b_l141, ↓b_i141, ↓b_wi141, ↓b_l142, ↓b_i142, ↓b_wi142, ↓b_l143, ↓b_i143, ↓b_wi143, ↓b_l144, ↓b_j144, ↓b_wj144, ↓b_l145, ↓b_j145, ↓b_wj145, ↓b_l146, ↓b_i146, ↓b_wi146, ↓b_l147, ↓b_i147, ↓b_wi147, ↓b_l148, ↓b_i148, ↓b_wi148, ↓b_l149, ↓b_i149, ↓b_wi149, ↓b_l150, ↓b_j150, ↓b_wj150, ↓b_l151, ↓b_i151, ↓b_wi151, ↓b_l152, ↓b_j152, ↓b_wj152, ↓b_l153, ↓b_i153, ↓b_wi153, ↓b_l154, ↓b_i154, ↓b_wi154, ↓b_l155, ↓b_j155, ↓b_wj155, ↓b_l156, ↓b_j156, ↓b_wj156, ↓b_l138, ↓b_j138, ↓b_wj138, ↓b_a5, ↓b_a13, ↓b_a44, ↓b_lA, ↓b_aA_0, ↓b_aA_1, ↓b_iA_2, ↓b_wiA_2, ↓b_iA_4, ↓b_wiA_4, ↓b_iA_5, ↓b_wiA_5, ↓b_iA_6, ↓b_wiA_6, ↓b_jA_3, ↓b_wjA_3, ↓b_lT, ↓b_lTc, ↓b_aT, ↓b_iT, ↓b_wiT, ↓b_iTc, ↓b_wiTc, ↓b_lW, ↓b_lWc, ↓b_aW, ↓b_iW, ↓b_wiW, ↓b_jWc, ↓b_wjWc, ↓b_rt, ↓b_ru, ↓b_wt, ↓b_wu, ↓b_0l, ↓b_0, ↓b_1, ↓b_2, m_tk, ↓reduceIte, cond_true, cond_false, Option.bind_some, y_Stepper_use, e_Stepper_use_0, e_Stepper_use_14, e_Stepper_use_32, e_Stepper_use_62, e_Stepper_use_71, show ¬ (38 : Int32) = 126 by decide, show ¬ (38 : Int32) = 36 by decide, ↓bI hia, b3', m_b0, ↓bJ (c_failed h1), i_11, i_01, i_1_0, i_0_1, not_true, not_false_eq_true, if_true, if_false, Bool.true_eq_false, Bool.false_eq_true, decide_true, decide_false]
  · rw [if_neg (by decide), if_pos rfl]
    have hlf := c_leaf02 (d := d) (M := mM xs (m_u (m_u f 134 3 0) 135 1 (nP j)) (gva g va) t (15 + 5 * self) c s) h1 hv
    refine ⟨m_u (m_u (m_u f 134 3 0) 135 1 (nP j)) 133 4 (told (v.2.getD 0 0)), gva g va, ?_, ?_⟩
    · simp (maxSteps := 4000000) (disch := first | omega | assumption) only [↓b_ix, ↓b_l3, ↓b_a3_0, ↓b_a3_1, ↓b_a3_2, ↓b_l4, ↓b_a4_0, ↓b_a4_1, ↓b_a4_2, ↓b_a4_3, ↓b_l129, ↓b_a129_0, ↓b_l130, ↓b_i130_1, ↓b_wi130_1, ↓b_l133, ↓b_a133_0, ↓b_a133_1, ↓b_i133_2, ↓b_wi133_2, ↓b_j133_3, ↓b_wj133_3, ↓b_i133_4, ↓b_wi133_4, ↓b_l134, ↓b_a134_0, ↓b_a134_1, ↓b_i134_2, ↓b_wi134_2, ↓b_i134_3, ↓b_wi134_3, ↓b_l135, ↓b_i135_1, ↓b_wi135_1, ↓b_l139, ↓b_a139_0, ↓b_a139_1, ↓b_a139_2, ↓b_a139_3, ↓b_a139_4, ↓b_a139_5, ↓b_a139_6, ↓b_a139_7, ↓b_a139_8, ↓b_a139_9, ↓b_a139_10, ↓b_a139_11, ↓b_a139_12, ↓b_a139_13, ↓b_a139_14, ↓b_i139_15, ↓b_wi139_15, ↓b_i139_16, ↓b_wi139_16, ↓b_i139_17, ↓b_wi139_17, ↓b_a139_18, ↓b_i139_19, ↓b_wi139_19, ↓b_i139_20, ↓b_wi139_20, ↓b_i139_21, ↓b_wi139_21, ↓b_l6, ↓b_i6, ↓b_wi6, ↓b_l140, ↓b_i140, ↓b_wi140, ↓b_l141, ↓b_i141, ↓b_wi141, ↓b_l142, ↓b_i142, ↓b_wi142, ↓b_l143, ↓b_i143, ↓b_wi143, ↓b_l144, ↓b_j144, ↓b_wj144, ↓b_l145, ↓b_j145, ↓b_wj145, ↓b_l146, ↓b_i146, ↓b_wi146, ↓b_l147, ↓b_i147, ↓b_wi147, ↓b_l148, ↓b_i148, ↓b_wi148, ↓b_l149, ↓b_i149, ↓b_wi149, ↓b_l150, ↓b_j150, ↓b_wj150, ↓b_l151, ↓b_i151, ↓b_wi151, ↓b_l152, ↓b_j152, ↓b_wj152, ↓b_l153, ↓b_i153, ↓b_wi153, ↓b_l154, ↓b_i154, ↓b_wi154, ↓b_l155, ↓b_j155, ↓b_wj155, ↓b_l156, ↓b_j156, ↓b_wj156, ↓b_l138, ↓b_j138, ↓b_wj138, ↓b_a5, ↓b_a13, ↓b_a44, ↓b_lA, ↓b_aA_0, ↓b_aA_1, ↓b_iA_2, ↓b_wiA_2, ↓b_iA_4, ↓b_wiA_4, ↓b_iA_5, ↓b_wiA_5, ↓b_iA_6, ↓b_wiA_6, ↓b_jA_3, ↓b_wjA_3, ↓b_lT, ↓b_lTc, ↓b_aT, ↓b_iT, ↓b_wiT, ↓b_iTc, ↓b_wiTc, ↓b_lW, ↓b_lWc, ↓b_aW, ↓b_iW, ↓b_wiW, ↓b_jWc, ↓b_wjWc, ↓b_rt, ↓b_ru, ↓b_wt, ↓b_wu, ↓b_0l, ↓b_0, ↓b_1, ↓b_2, m_tk, ↓reduceIte, cond_true, cond_false, Option.bind_some, y_Stepper_use, e_Stepper_use_0, e_Stepper_use_14, e_Stepper_use_32, e_Stepper_use_62, e_Stepper_use_71, show ¬ (36 : Int32) = 126 by decide, ↓bI hlf, i_11, i_01, i_1_0, i_0_1, not_true, not_false_eq_true, if_true, if_false, Bool.true_eq_false, Bool.false_eq_true, decide_true, decide_false]
    · refine ⟨cA_fr (fun x k hx => m_un (by omega)) (fun x k hx => rfl) hcF, ?_, ?_, ?_, m_uu _, fun k hk => gva_r hk, ?_, fun h => absurd (show (3 : Nat) = 0 from h) (by decide), fun k => ?_, ?_, fun x k hx => ?_⟩
      · rw [m_un (by omega)]; exact s2
      · rw [m_un (by omega), m_un (by omega), m_un (by omega)]; exact hs4
      · rw [m_un (by omega), m_un (by omega), m_uu]; rfl
      · rw [gva_n (by omega)]; exact hn
      · rw [m_un (by omega), m_un (by omega), m_un (by omega)]
      · rw [m_un (by omega), m_un (by omega), m_un (by omega)]
      · exact ⟨by rw [m_un (by omega), m_un (by omega), m_un (by omega)], gva_n (by omega)⟩
theorem isV_of3 {x : Int32} (h : 48 ≤ x ∧ x ≤ 50) : isD x = true ∧ dg x < 3 ∧ x - 48 = nI (dg x) := by
  have h1 := rng h
  rw [show (48 : Int32).toInt = 48 from rfl, show (50 : Int32).toInt = 50 from rfl] at h1
  have hd : isD x = true := decide_eq_true ⟨h.1, by rw [Int32.le_iff_toInt_le, show (57 : Int32).toInt = 57 from rfl]; omega⟩
  obtain ⟨q1, q2⟩ := dg_s hd
  have h3 : dg x < 3 := by unfold dg; omega
  refine ⟨hd, h3, ?_⟩
  generalize dg x = a at *
  rw [q1, l_48, nI_sub (by omega)]; congr 1; omega
theorem c_act64 {i j : Nat} (hd : 5 ≤ d) (hc : cA f g S.1 S.2) (hb : bd S.1) (h6 : self < 6) (hal : S.1 1 self = 1) (hs3 : f 133 2 = nI self) (hs4 : f 134 2 = nI self) (hr : f 133 4 = -5000) (hn : g 133 3 = cTh ns) (hT : mX f (15 + 5 * self) n) (h64 : f (15 + 5 * self + 1) i = 64) (hi : i + 2 < n) (h3 : 48 ≤ f (15 + 5 * self + 1) (i + 1) ∧ f (15 + 5 * self + 1) (i + 1) ≤ 50) (hv : isV (f (15 + 5 * self + 1) (i + 2)) = true) (hj : j = i + 3) : ∃ F' G', am_Y d 40 [.ref 133] (mM xs (m_u (m_u f 134 3 0) 135 1 (nP (i + 1))) (gva g va) t (15 + 5 * self) c s) = some (.inl none, mM xs F' G' t (15 + 5 * self) c s) ∧ aRR self j f g (pA (f (15 + 5 * self + 1)) self S va ns i) F' G' := by
  obtain ⟨d, rfl⟩ : ∃ e, d = e + 1 := ⟨d - 1, by omega⟩
  have h1 : 1 ≤ d := by omega
  have hw := mX_w (v := 0) hT
  have n1 := c_next2 (xs := xs) (g := gva g va) (t := t) (c := c) (s := s) (i := i + 1) h1 (mX_u (v := 0) hT)
  rw [hw, show px (f (15 + 5 * self + 1)) n (i + 1) = f (15 + 5 * self + 1) (i + 1) from if_pos (by omega), if_pos (by omega)] at n1
  have n2 := c_next2 (xs := xs) (g := gva g va) (t := t) (c := c) (s := s) (i := i + 1 + 1) h1 (mX_u (v := 0) hT)
  rw [hw, show px (f (15 + 5 * self + 1)) n (i + 1 + 1) = f (15 + 5 * self + 1) (i + 2) from if_pos (by omega), if_pos (by omega)] at n2
  obtain ⟨d1, d2, d3⟩ := isV_of3 h3
  obtain ⟨v1, v2⟩ := vN_s hv
  have nn : 0 ≤ nI (vN (f (15 + 5 * self + 1) (i + 2))) := nI_pos' (by omega)
  have p0 : ¬ nI (dg (f (15 + 5 * self + 1) (i + 1))) < 0 := nI_pos (by omega)
  have p3 : ¬ 3 ≤ nI (dg (f (15 + 5 * self + 1) (i + 1))) := by rw [l_3, nI_leI (by omega) (by omega)]; omega
  have ol := t_ofLeaf (d := d) (M := mM xs (m_u (m_u f 134 3 0) 135 1 (nP (i + 1 + 1 + 1))) (gva g va) t (15 + 5 * self) c s) h1 (show 999 + 0 < 2013 by decide)
  rw [← told_d (by omega), show nI 0 = 0 from rfl, show lN (tC 0 [999 + 0]) = cTh (0, [999]) from rfl] at ol
  have hcF : cA (m_u (m_u f 134 3 0) 135 1 (nP (i + 1 + 1 + 1))) (gva g va) S.1 S.2 := cA_F hc
  obtain ⟨r, F1, G1, y1, y2, y3⟩ := c_make (xs := xs) (t := t) (u := 15 + 5 * self) (c := c) (s := s) (st := (0, [999])) (show 3 ≤ d by omega) hcF hb d2
  unfold pA
  rw [if_neg (by rw [h64]; decide), if_pos h64]
  cases hm : pMake S (dg (f (15 + 5 * self + 1) (i + 1))) (0, [999]) with
  | none =>
    rw [hm] at y3
    obtain ⟨rfl, rfl, rfl⟩ := y3
    refine ⟨m_u (m_u f 134 3 1) 135 1 (nP (i + 1 + 1 + 1)), gva g va, ?_, aR_i (e := 1) (p := i + 1 + 1 + 1) h6 hs3 hs4 hr hn (cA_F hc) (fun x k hx => rfl) (fun x k hx => rfl) rfl (show ¬ (1 : Nat) = 3 by decide) (fun _ => by omega) rfl⟩
    simp (maxSteps := 4000000) (disch := first | omega | assumption) only [↓b_ix, ↓b_l3, ↓b_a3_0, ↓b_a3_1, ↓b_a3_2, ↓b_l4, ↓b_a4_0, ↓b_a4_1, ↓b_a4_2, ↓b_a4_3, ↓b_l129, ↓b_a129_0, ↓b_l130, ↓b_i130_1, ↓b_wi130_1, ↓b_l133, ↓b_a133_0, ↓b_a133_1, ↓b_i133_2, ↓b_wi133_2, ↓b_j133_3, ↓b_wj133_3, ↓b_i133_4, ↓b_wi133_4, ↓b_l134, ↓b_a134_0, ↓b_a134_1, ↓b_i134_2, ↓b_wi134_2, ↓b_i134_3, ↓b_wi134_3, ↓b_l135, ↓b_i135_1, ↓b_wi135_1, ↓b_l139, ↓b_a139_0, ↓b_a139_1, ↓b_a139_2, ↓b_a139_3, ↓b_a139_4, ↓b_a139_5, ↓b_a139_6, ↓b_a139_7, ↓b_a139_8, ↓b_a139_9, ↓b_a139_10, ↓b_a139_11, ↓b_a139_12, ↓b_a139_13, ↓b_a139_14, ↓b_i139_15, ↓b_wi139_15, ↓b_i139_16, ↓b_wi139_16, ↓b_i139_17, ↓b_wi139_17, ↓b_a139_18, ↓b_i139_19, ↓b_wi139_19, ↓b_i139_20, ↓b_wi139_20, ↓b_i139_21, ↓b_wi139_21, ↓b_l6, ↓b_i6, ↓b_wi6, ↓b_l140, ↓b_i140, ↓b_wi140, ↓b_l141, ↓b_i141, ↓b_wi141, ↓b_l142, ↓b_i142, ↓b_wi142, ↓b_l143, ↓b_i143, ↓b_wi143, ↓b_l144, ↓b_j144, ↓b_wj144, ↓b_l145, ↓b_j145, ↓b_wj145, ↓b_l146, ↓b_i146, ↓b_wi146, ↓b_l147, ↓b_i147, ↓b_wi147, ↓b_l148, ↓b_i148, ↓b_wi148, ↓b_l149, ↓b_i149, ↓b_wi149, ↓b_l150, ↓b_j150, ↓b_wj150, ↓b_l151, ↓b_i151, ↓b_wi151, ↓b_l152, ↓b_j152, ↓b_wj152, ↓b_l153, ↓b_i153, ↓b_wi153, ↓b_l154, ↓b_i154, ↓b_wi154, ↓b_l155, ↓b_j155, ↓b_wj155, ↓b_l156, ↓b_j156, ↓b_wj156, ↓b_l138, ↓b_j138, ↓b_wj138, ↓b_a5, ↓b_a13, ↓b_a44, ↓b_lA, ↓b_aA_0, ↓b_aA_1, ↓b_iA_2, ↓b_wiA_2, ↓b_iA_4, ↓b_wiA_4, ↓b_iA_5, ↓b_wiA_5, ↓b_iA_6, ↓b_wiA_6, ↓b_jA_3, ↓b_wjA_3, ↓b_lT, ↓b_lTc, ↓b_aT, ↓b_iT, ↓b_wiT, ↓b_iTc, ↓b_wiTc, ↓b_lW, ↓b_lWc, ↓b_aW, ↓b_iW, ↓b_wiW, ↓b_jWc, ↓b_wjWc, ↓b_rt, ↓b_ru, ↓b_wt, ↓b_wu, ↓b_0l, ↓b_0, ↓b_1, ↓b_2, m_tk, ↓reduceIte, cond_true, cond_false, Option.bind_some, y_Stepper_makeLinked, e_Stepper_makeLinked_0, e_Stepper_makeLinked_41, e_Stepper_makeLinked_51, e_Stepper_makeLinked_78, ↓bI n1, ↓bI n2, ↓bI (c_cvar h1), d3, p0, p3, v1, nn, ↓bJ ol, ↓bI y1, show ¬ (0 : Int32) ≤ -1 by decide, ↓bJ (c_failed h1), i_11, i_01, i_1_0, i_0_1, not_true, not_false_eq_true, if_true, if_false, Bool.true_eq_false, Bool.false_eq_true, decide_true, decide_false]
  | some q =>
    rw [hm] at y3
    obtain ⟨rfl, z1, z2⟩ := y3
    have hq : q.1 < 6 ∧ S.1 1 q.1 = 0 ∧ bd q.2.1 := by
      unfold pMake at hm
      by_cases e0 : S.1 0 (dg (f (15 + 5 * self + 1) (i + 1))) = 0
      · rw [if_pos e0] at hm; exact (nomatch hm)
      · rw [if_neg e0] at hm
        cases hf : fFree S.1 6 0 with
        | none => rw [hf] at hm; exact (nomatch hm)
        | some k =>
          rw [hf] at hm
          have := fFree_s 6 0 k hf
          have hm2 := Option.some.inj hm
          subst hm2
          refine ⟨by show k < 6; omega, this.2.2, ?_⟩
          refine bd_u (bd_u ?_ ⟨by omega, by omega, by omega, by omega, by omega, fun _ => hb.2.2.1 _ (by omega), by omega⟩) ⟨by omega, by omega, by omega, by omega, by omega, by omega, by omega⟩
          refine ⟨fun i hi => ?_, fun j hj => ?_, fun q hq => ?_, fun p hp => ?_⟩
          · rw [aCp_n (by omega), aCp_n (by omega), aCp_n (by omega), aCp_n (by omega)]; exact hb.1 i hi
          · rw [aCp_n (by omega)]; exact hb.2.1 j hj
          · rw [aCp_n (by omega)]; exact hb.2.2.1 q hq
          · rw [aCp_n (by omega)]; exact hb.2.2.2 p hp
    have hne : ¬ q.1 = self := fun e => by rw [e] at hq; omega
    obtain ⟨F2, k1, k2, k3⟩ := c_link (xs := xs) (t := t) (u := 15 + 5 * self) (c := c) (s := s) h1 z1 hq.2.2 h6 hq.1
    have ol2 := t_ofLeaf (d := d) (M := mM xs F2 G1 t (15 + 5 * self) c s) h1 (show 2007 + q.1 < 2013 by omega)
    rw [← told_r, ← nI_add, show nI 3000 = 3000 from rfl, show lN (tC 0 [2007 + q.1]) = cTh (0, [2007 + q.1]) from rfl] at ol2
    have s2 : F1 133 2 = nI self := by rw [z2 _ _ (by omega), m_un (by omega), m_un (by omega)]; exact hs3
    have pq : 0 ≤ nI q.1 := nI_pos' (by omega)
    refine ⟨F2, m_w G1 138 (vN (f (15 + 5 * self + 1) (i + 2))) (cTh (0, [2007 + q.1])), ?_, aR_i (e := 0) (p := i + 1 + 1 + 1) h6 hs3 hs4 hr hn (cA_fr (fun x k hx => rfl) (fun x k hx => m_wn (by omega)) k2) (fun x k hx => ?_) (fun x k hx => ?_) rfl (show ¬ (0 : Nat) = 3 by decide) (fun _ => by omega) rfl⟩
    · simp (maxSteps := 4000000) (disch := first | omega | assumption) only [↓b_ix, ↓b_l3, ↓b_a3_0, ↓b_a3_1, ↓b_a3_2, ↓b_l4, ↓b_a4_0, ↓b_a4_1, ↓b_a4_2, ↓b_a4_3, ↓b_l129, ↓b_a129_0, ↓b_l130, ↓b_i130_1, ↓b_wi130_1, ↓b_l133, ↓b_a133_0, ↓b_a133_1, ↓b_i133_2, ↓b_wi133_2, ↓b_j133_3, ↓b_wj133_3, ↓b_i133_4, ↓b_wi133_4, ↓b_l134, ↓b_a134_0, ↓b_a134_1, ↓b_i134_2, ↓b_wi134_2, ↓b_i134_3, ↓b_wi134_3, ↓b_l135, ↓b_i135_1, ↓b_wi135_1, ↓b_l139, ↓b_a139_0, ↓b_a139_1, ↓b_a139_2, ↓b_a139_3, ↓b_a139_4, ↓b_a139_5, ↓b_a139_6, ↓b_a139_7, ↓b_a139_8, ↓b_a139_9, ↓b_a139_10, ↓b_a139_11, ↓b_a139_12, ↓b_a139_13, ↓b_a139_14, ↓b_i139_15, ↓b_wi139_15, ↓b_i139_16, ↓b_wi139_16, ↓b_i139_17, ↓b_wi139_17, ↓b_a139_18, ↓b_i139_19, ↓b_wi139_19, ↓b_i139_20, ↓b_wi139_20, ↓b_i139_21, ↓b_wi139_21, ↓b_l6, ↓b_i6, ↓b_wi6, ↓b_l140, ↓b_i140, ↓b_wi140, ↓b_l141, ↓b_i141, ↓b_wi141, ↓b_l142, ↓b_i142, ↓b_wi142, ↓b_l143, ↓b_i143, ↓b_wi143, ↓b_l144, ↓b_j144, ↓b_wj144, ↓b_l145, ↓b_j145, ↓b_wj145, ↓b_l146, ↓b_i146, ↓b_wi146, ↓b_l147, ↓b_i147, ↓b_wi147, ↓b_l148, ↓b_i148, ↓b_wi148, ↓b_l149, ↓b_i149, ↓b_wi149, ↓b_l150, ↓b_j150, ↓b_wj150, ↓b_l151, ↓b_i151, ↓b_wi151, ↓b_l152, ↓b_j152, ↓b_wj152, ↓b_l153, ↓b_i153, ↓b_wi153, ↓b_l154, ↓b_i154, ↓b_wi154, ↓b_l155, ↓b_j155, ↓b_wj155, ↓b_l156, ↓b_j156, ↓b_wj156, ↓b_l138, ↓b_j138, ↓b_wj138, ↓b_a5, ↓b_a13, ↓b_a44, ↓b_lA, ↓b_aA_0, ↓b_aA_1, ↓b_iA_2, ↓b_wiA_2, ↓b_iA_4, ↓b_wiA_4, ↓b_iA_5, ↓b_wiA_5, ↓b_iA_6, ↓b_wiA_6, ↓b_jA_3, ↓b_wjA_3, ↓b_lT, ↓b_lTc, ↓b_aT, ↓b_iT, ↓b_wiT, ↓b_iTc, ↓b_wiTc, ↓b_lW, ↓b_lWc, ↓b_aW, ↓b_iW, ↓b_wiW, ↓b_jWc, ↓b_wjWc, ↓b_rt, ↓b_ru, ↓b_wt, ↓b_wu, ↓b_0l, ↓b_0, ↓b_1, ↓b_2, m_tk, ↓reduceIte, cond_true, cond_false, Option.bind_some, y_Stepper_makeLinked, e_Stepper_makeLinked_0, e_Stepper_makeLinked_41, e_Stepper_makeLinked_51, e_Stepper_makeLinked_78, ↓bI n1, ↓bI n2, ↓bI (c_cvar h1), d3, p0, p3, v1, nn, ↓bJ ol, ↓bI y1, pq, s2, ↓bV k1, ↓bJ ol2, i_11, i_01, i_1_0, i_0_1, not_true, not_false_eq_true, if_true, if_false, Bool.true_eq_false, Bool.false_eq_true, decide_true, decide_false]
    · rw [k3 _ _ (by omega), z2 _ _ (by omega)]; rfl
    · show m_w G1 138 _ _ x k = gva g (vset va (vN (f (15 + 5 * self + 1) (i + 2))) (0, [2007 + q.1])) x k
      rw [← gva_w v2]
      simp only [m_w]
      by_cases e : x = 138 ∧ k = vN (f (15 + 5 * self + 1) (i + 2))
      · rw [if_pos e, if_pos e]
      · rw [if_neg e, if_neg e]; exact y2 x k hx
end AC
