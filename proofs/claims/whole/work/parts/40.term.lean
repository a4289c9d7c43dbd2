/-! TERMS: a shape by its number (0: a leaf), its leaves; as the class has it, as the model has it -/
def sN (i : Nat) : Nat := [1, 2, 3, 3, 4, 4, 4, 4, 4].getD i 0
def sD (i : Nat) : Nat := [0, 11, 221, 122, 3321, 2331, 2222, 1332, 1233].getD i 0
def sB (i : Nat) : Nat := [0, 1, 3, 5, 7, 11, 19, 13, 21].getD i 0
def sP (i j : Nat) : Nat := ([[1, 3, 7, 8], [2, 6], [4], [5]].getD i []).getD j 9
def sL (i : Nat) : Nat := [9, 0, 1, 0, 2, 3, 1, 0, 0].getD i 9
def sR (i : Nat) : Nat := [9, 0, 0, 1, 0, 0, 1, 2, 3].getD i 9
def fF (x : Nat) : Nat := if x < 1999 then x + 1 else if x < 2007 then x + 1001 else x + 1993
def cL : List Nat → Nat
  | [] => 0
  | a :: r => fF a + 4096 * cL r
def mL : List Nat → Nat
  | [] => 0
  | a :: r => a + 2048 * mL r
def tC (i : Nat) (l : List Nat) : Nat := cL l + 281474976710656 * sD i
def tM (i : Nat) (l : List Nat) : Nat := sN i + 8 * sB i + 1024 * mL l
def tv (i : Nat) (l : List Nat) : Prop := i < 9 ∧ l.length = sN i ∧ ∀ a ∈ l, a < 2013
theorem fF_lt {x : Nat} (h : x < 2013) : fF x < 4096 := by unfold fF; split <;> (try split) <;> omega
theorem fF_pos (x : Nat) : 0 < fF x := by unfold fF; split <;> (try split) <;> omega
theorem fF_inj {x y : Nat} (h : fF x = fF y) (hx : x < 2013) (hy : y < 2013) : x = y := by
  unfold fF at h; repeat' split at h
  all_goals omega
theorem cL_lt : ∀ l : List Nat, (∀ a ∈ l, a < 2013) → cL l < 4096 ^ l.length
  | [], _ => by decide
  | a :: r, h => by
    have h1 := fF_lt (h a List.mem_cons_self)
    have h2 := cL_lt r fun b hb => h b (List.mem_cons_of_mem _ hb)
    simp only [cL, List.length_cons, Nat.pow_succ]; omega
theorem mL_lt : ∀ l : List Nat, (∀ a ∈ l, a < 2013) → mL l < 2048 ^ l.length
  | [], _ => by decide
  | a :: r, h => by
    have h1 := (h a List.mem_cons_self)
    have h2 := mL_lt r fun b hb => h b (List.mem_cons_of_mem _ hb)
    simp only [mL, List.length_cons, Nat.pow_succ]; omega
theorem cL_app : ∀ l r : List Nat, cL (l ++ r) = cL l + 4096 ^ l.length * cL r
  | [], r => by simp [cL]
  | a :: l, r => by
    simp only [List.cons_append, cL, cL_app l r, List.length_cons, Nat.pow_succ, Nat.mul_add, Nat.add_assoc]
    congr 2; rw [← Nat.mul_assoc, Nat.mul_comm 4096]
theorem mL_app : ∀ l r : List Nat, mL (l ++ r) = mL l + 2048 ^ l.length * mL r
  | [], r => by simp [mL]
  | a :: l, r => by
    simp only [List.cons_append, mL, mL_app l r, List.length_cons, Nat.pow_succ, Nat.mul_add, Nat.add_assoc]
    congr 2; rw [← Nat.mul_assoc, Nat.mul_comm 2048]
theorem cL_mod {l : List Nat} (h : ∀ a ∈ l, a < 2013) (k : Nat) : cL l % 4096 ^ k = cL (l.take k) := by
  by_cases hk : k ≤ l.length
  · have e : cL l = cL (l.take k) + 4096 ^ k * cL (l.drop k) := by
      have := cL_app (l.take k) (l.drop k)
      rw [List.take_append_drop, List.length_take, Nat.min_eq_left hk] at this; exact this
    have hb : cL (l.take k) < 4096 ^ k := by
      have := cL_lt (l.take k) fun a ha => h a (List.mem_of_mem_take ha)
      rwa [List.length_take, Nat.min_eq_left hk] at this
    rw [e, Nat.add_mul_mod_self_left, Nat.mod_eq_of_lt hb]
  · rw [List.take_of_length_le (by omega)]
    exact Nat.mod_eq_of_lt (Nat.lt_of_lt_of_le (cL_lt l h) (Nat.pow_le_pow_right (by decide) (by omega)))
theorem cL_div {l : List Nat} (h : ∀ a ∈ l, a < 2013) (k : Nat) : cL l / 4096 ^ k = cL (l.drop k) := by
  by_cases hk : k ≤ l.length
  · have e : cL l = cL (l.take k) + 4096 ^ k * cL (l.drop k) := by
      have := cL_app (l.take k) (l.drop k)
      rw [List.take_append_drop, List.length_take, Nat.min_eq_left hk] at this; exact this
    have hb : cL (l.take k) < 4096 ^ k := by
      have := cL_lt (l.take k) fun a ha => h a (List.mem_of_mem_take ha)
      rwa [List.length_take, Nat.min_eq_left hk] at this
    rw [e, Nat.add_mul_div_left _ _ (Nat.pow_pos (by decide)), Nat.div_eq_of_lt hb, Nat.zero_add]
  · rw [List.drop_of_length_le (by omega)]
    exact Nat.div_eq_of_lt (Nat.lt_of_lt_of_le (cL_lt l h) (Nat.pow_le_pow_right (by decide) (by omega)))
theorem mL_mod {l : List Nat} (h : ∀ a ∈ l, a < 2013) (k : Nat) : mL l % 2048 ^ k = mL (l.take k) := by
  by_cases hk : k ≤ l.length
  · have e : mL l = mL (l.take k) + 2048 ^ k * mL (l.drop k) := by
      have := mL_app (l.take k) (l.drop k)
      rw [List.take_append_drop, List.length_take, Nat.min_eq_left hk] at this; exact this
    have hb : mL (l.take k) < 2048 ^ k := by
      have := mL_lt (l.take k) fun a ha => h a (List.mem_of_mem_take ha)
      rwa [List.length_take, Nat.min_eq_left hk] at this
    rw [e, Nat.add_mul_mod_self_left, Nat.mod_eq_of_lt hb]
  · rw [List.take_of_length_le (by omega)]
    exact Nat.mod_eq_of_lt (Nat.lt_of_lt_of_le (mL_lt l h) (Nat.pow_le_pow_right (by decide) (by omega)))
theorem mL_div {l : List Nat} (h : ∀ a ∈ l, a < 2013) (k : Nat) : mL l / 2048 ^ k = mL (l.drop k) := by
  by_cases hk : k ≤ l.length
  · have e : mL l = mL (l.take k) + 2048 ^ k * mL (l.drop k) := by
      have := mL_app (l.take k) (l.drop k)
      rw [List.take_append_drop, List.length_take, Nat.min_eq_left hk] at this; exact this
    have hb : mL (l.take k) < 2048 ^ k := by
      have := mL_lt (l.take k) fun a ha => h a (List.mem_of_mem_take ha)
      rwa [List.length_take, Nat.min_eq_left hk] at this
    rw [e, Nat.add_mul_div_left _ _ (Nat.pow_pos (by decide)), Nat.div_eq_of_lt hb, Nat.zero_add]
  · rw [List.drop_of_length_le (by omega)]
    exact Nat.div_eq_of_lt (Nat.lt_of_lt_of_le (mL_lt l h) (Nat.pow_le_pow_right (by decide) (by omega)))
theorem cL_inj : ∀ l r : List Nat, (∀ a ∈ l, a < 2013) → (∀ a ∈ r, a < 2013) → cL l = cL r → l = r
  | [], [], _, _, _ => rfl
  | [], b :: r, _, _, e => by simp only [cL] at e; have := fF_pos b; omega
  | a :: l, [], _, _, e => by simp only [cL] at e; have := fF_pos a; omega
  | a :: l, b :: r, hl, hr, e => by
    have h1 := fF_lt (hl a List.mem_cons_self)
    have h2 := fF_lt (hr b List.mem_cons_self)
    simp only [cL] at e
    have e1 : fF a = fF b := by omega
    have e2 : cL l = cL r := by omega
    rw [fF_inj e1 (hl a List.mem_cons_self) (hr b List.mem_cons_self), cL_inj l r (fun x hx => hl x (List.mem_cons_of_mem _ hx)) (fun x hx => hr x (List.mem_cons_of_mem _ hx)) e2]
theorem mL_inj : ∀ l r : List Nat, l.length = r.length → (∀ a ∈ l, a < 2013) → (∀ a ∈ r, a < 2013) → mL l = mL r → l = r
  | [], [], _, _, _, _ => rfl
  | [], b :: r, h, _, _, e => by simp at h
  | a :: l, [], h, _, _, e => by simp at h
  | a :: l, b :: r, h, hl, hr, e => by
    have h1 := (hl a List.mem_cons_self)
    have h2 := (hr b List.mem_cons_self)
    simp only [mL] at e
    have e1 : a = b := by omega
    have e2 : mL l = mL r := by omega
    rw [e1, mL_inj l r (by simpa using h) (fun x hx => hl x (List.mem_cons_of_mem _ hx)) (fun x hx => hr x (List.mem_cons_of_mem _ hx)) e2]
theorem sN_le : ∀ i, sN i ≤ 4 := by
  intro i
  by_cases h : i < 9
  · revert i; decide
  · have : sN i = 0 := by unfold sN; rw [List.getD_eq_getElem?_getD, List.getElem?_eq_none (by simp; omega)]; rfl
    omega
theorem sN_pos : ∀ i, i < 9 → 1 ≤ sN i := by decide
theorem sD_lt : ∀ i, i < 9 → sD i < 4096 := by decide
theorem sB_lt : ∀ i, i < 9 → sB i < 128 := by decide
theorem tv_c {i : Nat} {l : List Nat} (h : tv i l) : cL l < 281474976710656 := by
  have := cL_lt l h.2.2
  rw [h.2.1] at this
  exact Nat.lt_of_lt_of_le this (Nat.le_trans (Nat.pow_le_pow_right (by decide) (sN_le i)) (by decide))
theorem tv_m {i : Nat} {l : List Nat} (h : tv i l) : mL l < 17592186044416 := by
  have := mL_lt l h.2.2
  rw [h.2.1] at this
  exact Nat.lt_of_lt_of_le this (Nat.le_trans (Nat.pow_le_pow_right (by decide) (sN_le i)) (by decide))
theorem tC_lt {i : Nat} {l : List Nat} (h : tv i l) : tC i l < 2 ^ 61 := by
  have h1 := tv_c h; have h2 := sD_lt i h.1; unfold tC; omega
theorem tM_lt {i : Nat} {l : List Nat} (h : tv i l) : tM i l < 2 ^ 61 := by
  have h1 := tv_m h; have h2 := sB_lt i h.1; have h3 := sN_le i; unfold tM; omega
theorem tC_pos {i : Nat} {l : List Nat} (h : tv i l) : 0 < tC i l := by
  have h1 := sN_pos i h.1
  rw [← h.2.1] at h1
  match l, h1 with
  | a :: r, _ => unfold tC cL; have := fF_pos a; omega
theorem tM_pos {i : Nat} {l : List Nat} (h : tv i l) : 0 < tM i l := by
  have h1 := sN_pos i h.1; unfold tM; omega
theorem tC_inj {i j : Nat} {l r : List Nat} (h : tv i l) (k : tv j r) (e : tC i l = tC j r) : i = j ∧ l = r := by
  have h1 := tv_c h; have h2 := tv_c k
  unfold tC at e
  have e1 : sD i = sD j := by omega
  have e2 : cL l = cL r := by omega
  have : ∀ i, i < 9 → ∀ j, j < 9 → sD i = sD j → i = j := by decide
  exact ⟨this i h.1 j k.1 e1, cL_inj l r h.2.2 k.2.2 e2⟩
theorem tM_inj {i j : Nat} {l r : List Nat} (h : tv i l) (k : tv j r) (e : tM i l = tM j r) : i = j ∧ l = r := by
  have h1 := sN_le i; have h2 := sN_le j
  have h3 := sB_lt i h.1; have h4 := sB_lt j k.1
  unfold tM at e
  have e0 : sN i = sN j := by omega
  have e1 : sB i = sB j := by omega
  have e2 : mL l = mL r := by omega
  have : ∀ i, i < 9 → ∀ j, j < 9 → sN i = sN j → sB i = sB j → i = j := by decide
  exact ⟨this i h.1 j k.1 e0 e1, mL_inj l r (by rw [h.2.1, k.2.1, e0]) h.2.2 k.2.2 e2⟩
theorem tCM {i j : Nat} {l r : List Nat} (h : tv i l) (k : tv j r) : (tC i l = tC j r) = (tM i l = tM j r) :=
  propext ⟨fun e => by obtain ⟨rfl, rfl⟩ := tC_inj h k e; rfl, fun e => by obtain ⟨rfl, rfl⟩ := tM_inj h k e; rfl⟩
theorem pow12 (k : Nat) : 2 ^ (k * 12) = 4096 ^ k := by rw [Nat.mul_comm, Nat.pow_mul]
theorem pow11 (k : Nat) : 2 ^ (11 * k) = 2048 ^ k := by rw [Nat.pow_mul]
/-- the k-th 12 bits -/
theorem tC_fd {i : Nat} {l : List Nat} (h : tv i l) {k : Nat} (hk : k < 4) : tC i l >>> (k * 12) % 4096 = if k < sN i then fF (l.getD k 0) else 0 := by
  rw [Nat.shiftRight_eq_div_pow, pow12]
  have e1 : tC i l / 4096 ^ k % 4096 = cL l / 4096 ^ k % 4096 := by
    unfold tC
    match k, hk with
    | 0, _ => omega
    | 1, _ => omega
    | 2, _ => omega
    | 3, _ => omega
  rw [e1, cL_div h.2.2, ← h.2.1]
  by_cases hb : k < l.length
  · rw [if_pos hb, List.drop_eq_getElem_cons hb, cL, Nat.add_mul_mod_self_left, List.getD_eq_getElem?_getD, List.getElem?_eq_getElem hb, Option.getD_some]
    exact Nat.mod_eq_of_lt (fF_lt (h.2.2 _ (List.getElem_mem hb)))
  · rw [if_neg hb, List.drop_of_length_le (by omega)]; rfl
theorem tC_sh {i : Nat} {l : List Nat} (h : tv i l) : tC i l >>> 48 = sD i := by
  have := tv_c h
  rw [Nat.shiftRight_eq_div_pow]; unfold tC; omega
theorem tC_lo {i : Nat} {l : List Nat} (h : tv i l) : tC i l % 281474976710656 = cL l := by
  have := tv_c h
  unfold tC; omega
theorem tM_n {i : Nat} {l : List Nat} (h : tv i l) : tM i l % 8 = sN i := by
  have := sN_le i
  unfold tM; omega
theorem tM_B {i : Nat} {l : List Nat} (h : tv i l) : tM i l >>> 3 = sB i + 128 * mL l := by
  have := sN_le i
  rw [Nat.shiftRight_eq_div_pow]; unfold tM; omega
theorem tM_L {i : Nat} {l : List Nat} (h : tv i l) : tM i l >>> 10 = mL l := by
  have := sN_le i
  have := sB_lt i h.1
  rw [Nat.shiftRight_eq_div_pow]; unfold tM; omega
theorem tM_lf {i : Nat} {l : List Nat} (h : tv i l) {k : Nat} (hk : k < sN i) : tM i l >>> (10 + 11 * k) % 2048 = l.getD k 0 := by
  rw [Nat.shiftRight_add, tM_L h, Nat.shiftRight_eq_div_pow, pow11, mL_div h.2.2]
  have hb : k < l.length := by rw [h.2.1]; exact hk
  rw [List.drop_eq_getElem_cons hb, mL, Nat.add_mul_mod_self_left, List.getD_eq_getElem?_getD, List.getElem?_eq_getElem hb, Option.getD_some]
  exact Nat.mod_eq_of_lt (Nat.lt_trans (h.2.2 _ (List.getElem_mem hb)) (by decide))
theorem getD_lt {i : Nat} {l : List Nat} (h : tv i l) {k : Nat} (hk : k < sN i) : l.getD k 0 < 2013 := by
  have hb : k < l.length := by rw [h.2.1]; exact hk
  rw [List.getD_eq_getElem?_getD, List.getElem?_eq_getElem hb, Option.getD_some]; exact h.2.2 _ (List.getElem_mem hb)
