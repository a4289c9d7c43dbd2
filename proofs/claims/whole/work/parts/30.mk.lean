/-! A MEMORY MADE OF FUNCTIONS: numbers, long numbers, the texts of the two readers, the two counts (written by a program) -/
abbrev mF : Type := Nat → Nat → Int32
abbrev mG : Type := Nat → Nat → Int64
def m_K : List Nat := [10, 10, 10, 8, 7, 14, 12, 6, 13, 6, 13, 6, 13, 15, 0, 6, 13, 4, 11, 0, 6, 13, 4, 11, 0, 6, 13, 4, 11, 0, 6, 13, 4, 11, 0, 6, 13, 4, 11, 0, 6, 13, 4, 11, 16, 4, 11, 4, 11, 4, 11, 4, 11, 4, 11, 4, 11, 4, 11, 4, 11, 4, 11, 4, 11, 4, 11, 4, 11, 4, 11, 4, 11, 4, 11, 4, 11, 4, 11, 4, 11, 4, 11, 4, 11, 4, 11, 4, 11, 4, 11, 4, 11, 4, 11, 4, 11, 4, 11, 4, 11, 4, 11, 4, 11, 4, 11, 4, 11, 4, 11, 4, 11, 4, 11, 4, 11, 4, 11, 4, 11, 4, 11, 4, 11, 4, 11, 4, 11, 2, 3, 6, 13, 5, 1, 3, 6, 13, 11, 9, 10, 10, 12, 10, 11, 11, 10, 12, 10, 12, 11, 10, 11, 10, 12, 11, 11]
def m_N : List Nat := [0, 5, 5, 3, 4, 3, 3, 2, 60, 2, 60, 2, 60, 6, 7, 2, 60, 2, 6, 7, 2, 60, 2, 6, 7, 2, 60, 2, 6, 7, 2, 60, 2, 6, 7, 2, 60, 2, 6, 7, 2, 60, 2, 6, 42, 2, 8, 2, 8, 2, 8, 2, 8, 2, 8, 2, 8, 2, 8, 2, 8, 2, 8, 2, 8, 2, 8, 2, 8, 2, 8, 2, 8, 2, 8, 2, 8, 2, 8, 2, 8, 2, 8, 2, 8, 2, 8, 2, 8, 2, 8, 2, 8, 2, 8, 2, 8, 2, 8, 2, 8, 2, 8, 2, 8, 2, 8, 2, 8, 2, 8, 2, 8, 2, 8, 2, 8, 2, 8, 2, 8, 2, 8, 2, 8, 2, 8, 2, 8, 1, 2, 2, 60, 5, 4, 2, 2, 60, 6, 22, 540, 9, 3, 6, 6, 36, 6, 6, 6, 36, 336, 42, 6, 5, 5, 5, 1]
def m_C : List (List Nat) := [[], [], [], [8, 133, 137], [9, 10, 17, 48], [11, 13, 15], [], [12, 0], [], [14, 0], [], [16, 0], [], [18, 23, 28, 33, 38, 43], [19, 21, 0, 1, 0, 0, 0], [20, 0], [], [22, 0], [], [24, 26, 0, 1, 0, 0, 0], [25, 0], [], [27, 0], [], [29, 31, 0, 1, 0, 0, 0], [30, 0], [], [32, 0], [], [34, 36, 0, 1, 0, 0, 0], [35, 0], [], [37, 0], [], [39, 41, 0, 1, 0, 0, 0], [40, 0], [], [42, 0], [], [44, 46, 0, 1, 0, 0, 0], [45, 0], [], [47, 0], [], [49, 51, 53, 55, 57, 59, 61, 63, 65, 67, 69, 71, 73, 75, 77, 79, 81, 83, 85, 87, 89, 91, 93, 95, 97, 99, 101, 103, 105, 107, 109, 111, 113, 115, 117, 119, 121, 123, 125, 127, 129, 131], [50, 0], [], [52, 0], [], [54, 0], [], [56, 0], [], [58, 0], [], [60, 0], [], [62, 0], [], [64, 0], [], [66, 0], [], [68, 0], [], [70, 0], [], [72, 0], [], [74, 0], [], [76, 0], [], [78, 0], [], [80, 0], [], [82, 0], [], [84, 0], [], [86, 0], [], [88, 0], [], [90, 0], [], [92, 0], [], [94, 0], [], [96, 0], [], [98, 0], [], [100, 0], [], [102, 0], [], [104, 0], [], [106, 0], [], [108, 0], [], [110, 0], [], [112, 0], [], [114, 0], [], [116, 0], [], [118, 0], [], [120, 0], [], [122, 0], [], [124, 0], [], [126, 0], [], [128, 0], [], [130, 0], [], [132, 0], [], [134], [2, 0], [136, 0], [], [8, 138, 0, 1, 0], [139, 142, 0, 0], [3, 0], [141, 0], [], [], [144, 145, 146, 147, 148, 149, 150, 151, 152, 153, 154, 155, 156, 157, 158, 0, 0, 0, 159, 0, 0, 0], [], [], [], [], [], [], [], [], [], [], [], [], [], [], [], [], []]
def m_kd (a : Nat) : Nat := m_K.getD a 0
def m_sz (a : Nat) : Nat := m_N.getD a 0
def m_cd (a k : Nat) : Nat := bif Nat.beq (m_kd a) 11 then 1 else (m_C.getD a []).getD k 0
def m_cv (f : mF) (g : mG) (t u a k : Nat) : Value := match m_cd a k with
  | 0 => .int (f a k)
  | 1 => .long (g a k)
  | 2 => .ref t
  | 3 => .ref u
  | n + 4 => .ref n
def m_ce (f : mF) (g : mG) (t u a : Nat) : aC := (m_kd a, (List.range (m_sz a)).map (m_cv f g t u a))
def m_tens : List Int32 := [1, 10, 100, 1000, 10000]
def m_deep : List Int32 := [0, 1, 11, 111, 1111]
def mM (xs : List Int32) (f : mF) (g : mG) (t u c s : Nat) : aM := ((10, xs.map Value.int) :: (10, m_tens.map Value.int) :: (10, m_deep.map Value.int) :: (List.range 154).map (fun j => m_ce f g t u (j + 3)), c, s)
def m_u (f : mF) (a k : Nat) (v : Int32) : mF := fun b j => if b = a ∧ j = k then v else f b j
def m_w (g : mG) (a k : Nat) (v : Int64) : mG := fun b j => if b = a ∧ j = k then v else g b j
theorem i_11 : (1 &&& 1 : Int32) = 1 := by decide
theorem i_01 : (0 &&& 1 : Int32) = 0 := by decide
theorem i_0_1 : ((0 : Int32) = 1) = False := by decide
theorem i_0_2 : ((0 : Int32) = 2) = False := by decide
theorem i_0_3 : ((0 : Int32) = 3) = False := by decide
theorem i_0_4 : ((0 : Int32) = 4) = False := by decide
theorem i_0_5 : ((0 : Int32) = 5) = False := by decide
theorem i_0_6 : ((0 : Int32) = 6) = False := by decide
theorem i_0_7 : ((0 : Int32) = 7) = False := by decide
theorem i_0_8 : ((0 : Int32) = 8) = False := by decide
theorem i_0_9 : ((0 : Int32) = 9) = False := by decide
theorem i_0_10 : ((0 : Int32) = 10) = False := by decide
theorem i_0_11 : ((0 : Int32) = 11) = False := by decide
theorem i_0_12 : ((0 : Int32) = 12) = False := by decide
theorem i_1_0 : ((1 : Int32) = 0) = False := by decide
theorem i_1_2 : ((1 : Int32) = 2) = False := by decide
theorem i_1_3 : ((1 : Int32) = 3) = False := by decide
theorem i_1_4 : ((1 : Int32) = 4) = False := by decide
theorem i_1_5 : ((1 : Int32) = 5) = False := by decide
theorem i_1_6 : ((1 : Int32) = 6) = False := by decide
theorem i_1_7 : ((1 : Int32) = 7) = False := by decide
theorem i_1_8 : ((1 : Int32) = 8) = False := by decide
theorem i_1_9 : ((1 : Int32) = 9) = False := by decide
theorem i_1_10 : ((1 : Int32) = 10) = False := by decide
theorem i_1_11 : ((1 : Int32) = 11) = False := by decide
theorem i_1_12 : ((1 : Int32) = 12) = False := by decide
theorem i_2_0 : ((2 : Int32) = 0) = False := by decide
theorem i_2_1 : ((2 : Int32) = 1) = False := by decide
theorem i_2_3 : ((2 : Int32) = 3) = False := by decide
theorem i_2_4 : ((2 : Int32) = 4) = False := by decide
theorem i_2_5 : ((2 : Int32) = 5) = False := by decide
theorem i_2_6 : ((2 : Int32) = 6) = False := by decide
theorem i_2_7 : ((2 : Int32) = 7) = False := by decide
theorem i_2_8 : ((2 : Int32) = 8) = False := by decide
theorem i_2_9 : ((2 : Int32) = 9) = False := by decide
theorem i_2_10 : ((2 : Int32) = 10) = False := by decide
theorem i_2_11 : ((2 : Int32) = 11) = False := by decide
theorem i_2_12 : ((2 : Int32) = 12) = False := by decide
theorem i_3_0 : ((3 : Int32) = 0) = False := by decide
theorem i_3_1 : ((3 : Int32) = 1) = False := by decide
theorem i_3_2 : ((3 : Int32) = 2) = False := by decide
theorem i_3_4 : ((3 : Int32) = 4) = False := by decide
theorem i_3_5 : ((3 : Int32) = 5) = False := by decide
theorem i_3_6 : ((3 : Int32) = 6) = False := by decide
theorem i_3_7 : ((3 : Int32) = 7) = False := by decide
theorem i_3_8 : ((3 : Int32) = 8) = False := by decide
theorem i_3_9 : ((3 : Int32) = 9) = False := by decide
theorem i_3_10 : ((3 : Int32) = 10) = False := by decide
theorem i_3_11 : ((3 : Int32) = 11) = False := by decide
theorem i_3_12 : ((3 : Int32) = 12) = False := by decide
theorem i_4_0 : ((4 : Int32) = 0) = False := by decide
theorem i_4_1 : ((4 : Int32) = 1) = False := by decide
theorem i_4_2 : ((4 : Int32) = 2) = False := by decide
theorem i_4_3 : ((4 : Int32) = 3) = False := by decide
theorem i_4_5 : ((4 : Int32) = 5) = False := by decide
theorem i_4_6 : ((4 : Int32) = 6) = False := by decide
theorem i_4_7 : ((4 : Int32) = 7) = False := by decide
theorem i_4_8 : ((4 : Int32) = 8) = False := by decide
theorem i_4_9 : ((4 : Int32) = 9) = False := by decide
theorem i_4_10 : ((4 : Int32) = 10) = False := by decide
theorem i_4_11 : ((4 : Int32) = 11) = False := by decide
theorem i_4_12 : ((4 : Int32) = 12) = False := by decide
theorem i_5_0 : ((5 : Int32) = 0) = False := by decide
theorem i_5_1 : ((5 : Int32) = 1) = False := by decide
theorem i_5_2 : ((5 : Int32) = 2) = False := by decide
theorem i_5_3 : ((5 : Int32) = 3) = False := by decide
theorem i_5_4 : ((5 : Int32) = 4) = False := by decide
theorem i_5_6 : ((5 : Int32) = 6) = False := by decide
theorem i_5_7 : ((5 : Int32) = 7) = False := by decide
theorem i_5_8 : ((5 : Int32) = 8) = False := by decide
theorem i_5_9 : ((5 : Int32) = 9) = False := by decide
theorem i_5_10 : ((5 : Int32) = 10) = False := by decide
theorem i_5_11 : ((5 : Int32) = 11) = False := by decide
theorem i_5_12 : ((5 : Int32) = 12) = False := by decide
theorem i_6_0 : ((6 : Int32) = 0) = False := by decide
theorem i_6_1 : ((6 : Int32) = 1) = False := by decide
theorem i_6_2 : ((6 : Int32) = 2) = False := by decide
theorem i_6_3 : ((6 : Int32) = 3) = False := by decide
theorem i_6_4 : ((6 : Int32) = 4) = False := by decide
theorem i_6_5 : ((6 : Int32) = 5) = False := by decide
theorem i_6_7 : ((6 : Int32) = 7) = False := by decide
theorem i_6_8 : ((6 : Int32) = 8) = False := by decide
theorem i_6_9 : ((6 : Int32) = 9) = False := by decide
theorem i_6_10 : ((6 : Int32) = 10) = False := by decide
theorem i_6_11 : ((6 : Int32) = 11) = False := by decide
theorem i_6_12 : ((6 : Int32) = 12) = False := by decide
theorem i_7_0 : ((7 : Int32) = 0) = False := by decide
theorem i_7_1 : ((7 : Int32) = 1) = False := by decide
theorem i_7_2 : ((7 : Int32) = 2) = False := by decide
theorem i_7_3 : ((7 : Int32) = 3) = False := by decide
theorem i_7_4 : ((7 : Int32) = 4) = False := by decide
theorem i_7_5 : ((7 : Int32) = 5) = False := by decide
theorem i_7_6 : ((7 : Int32) = 6) = False := by decide
theorem i_7_8 : ((7 : Int32) = 8) = False := by decide
theorem i_7_9 : ((7 : Int32) = 9) = False := by decide
theorem i_7_10 : ((7 : Int32) = 10) = False := by decide
theorem i_7_11 : ((7 : Int32) = 11) = False := by decide
theorem i_7_12 : ((7 : Int32) = 12) = False := by decide
theorem i_8_0 : ((8 : Int32) = 0) = False := by decide
theorem i_8_1 : ((8 : Int32) = 1) = False := by decide
theorem i_8_2 : ((8 : Int32) = 2) = False := by decide
theorem i_8_3 : ((8 : Int32) = 3) = False := by decide
theorem i_8_4 : ((8 : Int32) = 4) = False := by decide
theorem i_8_5 : ((8 : Int32) = 5) = False := by decide
theorem i_8_6 : ((8 : Int32) = 6) = False := by decide
theorem i_8_7 : ((8 : Int32) = 7) = False := by decide
theorem i_8_9 : ((8 : Int32) = 9) = False := by decide
theorem i_8_10 : ((8 : Int32) = 10) = False := by decide
theorem i_8_11 : ((8 : Int32) = 11) = False := by decide
theorem i_8_12 : ((8 : Int32) = 12) = False := by decide
theorem i_9_0 : ((9 : Int32) = 0) = False := by decide
theorem i_9_1 : ((9 : Int32) = 1) = False := by decide
theorem i_9_2 : ((9 : Int32) = 2) = False := by decide
theorem i_9_3 : ((9 : Int32) = 3) = False := by decide
theorem i_9_4 : ((9 : Int32) = 4) = False := by decide
theorem i_9_5 : ((9 : Int32) = 5) = False := by decide
theorem i_9_6 : ((9 : Int32) = 6) = False := by decide
theorem i_9_7 : ((9 : Int32) = 7) = False := by decide
theorem i_9_8 : ((9 : Int32) = 8) = False := by decide
theorem i_9_10 : ((9 : Int32) = 10) = False := by decide
theorem i_9_11 : ((9 : Int32) = 11) = False := by decide
theorem i_9_12 : ((9 : Int32) = 12) = False := by decide
theorem i_10_0 : ((10 : Int32) = 0) = False := by decide
theorem i_10_1 : ((10 : Int32) = 1) = False := by decide
theorem i_10_2 : ((10 : Int32) = 2) = False := by decide
theorem i_10_3 : ((10 : Int32) = 3) = False := by decide
theorem i_10_4 : ((10 : Int32) = 4) = False := by decide
theorem i_10_5 : ((10 : Int32) = 5) = False := by decide
theorem i_10_6 : ((10 : Int32) = 6) = False := by decide
theorem i_10_7 : ((10 : Int32) = 7) = False := by decide
theorem i_10_8 : ((10 : Int32) = 8) = False := by decide
theorem i_10_9 : ((10 : Int32) = 9) = False := by decide
theorem i_10_11 : ((10 : Int32) = 11) = False := by decide
theorem i_10_12 : ((10 : Int32) = 12) = False := by decide
theorem i_11_0 : ((11 : Int32) = 0) = False := by decide
theorem i_11_1 : ((11 : Int32) = 1) = False := by decide
theorem i_11_2 : ((11 : Int32) = 2) = False := by decide
theorem i_11_3 : ((11 : Int32) = 3) = False := by decide
theorem i_11_4 : ((11 : Int32) = 4) = False := by decide
theorem i_11_5 : ((11 : Int32) = 5) = False := by decide
theorem i_11_6 : ((11 : Int32) = 6) = False := by decide
theorem i_11_7 : ((11 : Int32) = 7) = False := by decide
theorem i_11_8 : ((11 : Int32) = 8) = False := by decide
theorem i_11_9 : ((11 : Int32) = 9) = False := by decide
theorem i_11_10 : ((11 : Int32) = 10) = False := by decide
theorem i_11_12 : ((11 : Int32) = 12) = False := by decide
theorem i_12_0 : ((12 : Int32) = 0) = False := by decide
theorem i_12_1 : ((12 : Int32) = 1) = False := by decide
theorem i_12_2 : ((12 : Int32) = 2) = False := by decide
theorem i_12_3 : ((12 : Int32) = 3) = False := by decide
theorem i_12_4 : ((12 : Int32) = 4) = False := by decide
theorem i_12_5 : ((12 : Int32) = 5) = False := by decide
theorem i_12_6 : ((12 : Int32) = 6) = False := by decide
theorem i_12_7 : ((12 : Int32) = 7) = False := by decide
theorem i_12_8 : ((12 : Int32) = 8) = False := by decide
theorem i_12_9 : ((12 : Int32) = 9) = False := by decide
theorem i_12_10 : ((12 : Int32) = 10) = False := by decide
theorem i_12_11 : ((12 : Int32) = 11) = False := by decide
theorem i2_0 : ((2 : Int32) ≤ 0) = False := by decide
theorem i2_1 : ((2 : Int32) ≤ 1) = False := by decide
theorem i2_2 : ((2 : Int32) ≤ 2) = True := by decide
theorem i2_3 : ((2 : Int32) ≤ 3) = True := by decide
theorem i2_4 : ((2 : Int32) ≤ 4) = True := by decide
theorem i2_5 : ((2 : Int32) ≤ 5) = True := by decide
theorem i2_6 : ((2 : Int32) ≤ 6) = True := by decide
theorem i2_7 : ((2 : Int32) ≤ 7) = True := by decide
theorem i2_8 : ((2 : Int32) ≤ 8) = True := by decide
theorem i2_9 : ((2 : Int32) ≤ 9) = True := by decide
theorem i2_10 : ((2 : Int32) ≤ 10) = True := by decide
theorem i2_11 : ((2 : Int32) ≤ 11) = True := by decide
theorem i2_12 : ((2 : Int32) ≤ 12) = True := by decide
section MK
variable {xs : List Int32} {f : mF} {g : mG} {t u c s : Nat} {a ci k : Nat}
theorem m_get (h3 : 3 ≤ a) (h : a < 157) : (mM xs f g t u c s).1[a]? = some (m_ce f g t u a) := by
  obtain ⟨b, rfl⟩ : ∃ b, a = b + 3 := ⟨a - 3, by omega⟩
  simp only [mM, List.getElem?_cons_succ, List.getElem?_map, List.getElem?_range (show b < 154 by omega), Option.map_some]
theorem m_cg (h : k < m_sz a) : (m_ce f g t u a).2[k]? = some (m_cv f g t u a k) := by
  simp only [m_ce, List.getElem?_map, List.getElem?_range h, Option.map_some]
theorem m_rd (h3 : 3 ≤ a) (h : a < 157) (hk : m_kd a = ci) (hn : k < m_sz a) : am_rd (mM xs f g t u c s) a ci k = some (m_cv f g t u a k) := by
  subst hk
  simp only [am_rd, m_get h3 h, Option.bind_some, m_cg hn]
  simp only [m_ce, Nat.beq_refl, cond_true]
theorem m_rI (h3 : 3 ≤ a) (h : a < 157) (hk : m_kd a = ci) (hn : k < m_sz a) (hc : m_cd a k = 0) : am_rI (mM xs f g t u c s) a ci k = some (f a k) := by
  simp only [am_rI, m_rd h3 h hk hn, Option.bind_some, m_cv, hc, am_vI]
theorem m_rJ (h3 : 3 ≤ a) (h : a < 157) (hk : m_kd a = ci) (hn : k < m_sz a) (hc : m_cd a k = 1) : am_rJ (mM xs f g t u c s) a ci k = some (g a k) := by
  simp only [am_rJ, m_rd h3 h hk hn, Option.bind_some, m_cv, hc, am_vJ]
theorem m_rA {r : Nat} (h3 : 3 ≤ a) (h : a < 157) (hk : m_kd a = ci) (hn : k < m_sz a) (hc : m_cd a k = r + 4) : am_rA (mM xs f g t u c s) a ci k = some r := by
  simp only [am_rA, m_rd h3 h hk hn, Option.bind_some, m_cv, hc, am_vA]
theorem m_rt : am_rA (mM xs f g t u c s) 130 3 0 = some t := by
  simp only [am_rA, m_rd (a := 130) (k := 0) (ci := 3) (by decide) (by decide) (by decide) (by decide), Option.bind_some]; rfl
theorem m_ru : am_rA (mM xs f g t u c s) 135 3 0 = some u := by
  simp only [am_rA, m_rd (a := 135) (k := 0) (ci := 3) (by decide) (by decide) (by decide) (by decide), Option.bind_some]; rfl
theorem m_ln (h3 : 3 ≤ a) (h : a < 157) (hk : m_kd a = ci) : am_ln (mM xs f g t u c s) a ci = some (m_sz a) := by
  subst hk
  simp only [am_ln, m_get h3 h, Option.bind_some]
  simp only [m_ce, Nat.beq_refl, cond_true, List.length_map, List.length_range]
theorem m_rset {α : Type} (n i : Nat) (h : Nat → α) (v : α) : ((List.range n).map h).set i v = (List.range n).map (fun j => if j = i then v else h j) := by
  apply List.ext_getElem?
  intro j
  rw [List.getElem?_set]
  simp only [List.length_map, List.length_range, List.getElem?_map]
  by_cases e : i = j
  · subst e
    by_cases hj : i < n
    · simp [hj]
    · simp [hj]
  · rw [if_neg e]
    by_cases hj : j < n
    · simp [List.getElem?_range hj, Ne.symm e]
    · have : (List.range n)[j]? = none := by simp; omega
      simp [this]
theorem m_wr {f' : mF} {g' : mG} {t' u' : Nat} {v : Value} (h3 : 3 ≤ a) (h : a < 157) (hk : m_kd a = ci) (hn : k < m_sz a) (hv : ∀ b j, m_cv f' g' t' u' b j = if b = a ∧ j = k then v else m_cv f g t u b j) :
    am_wr (mM xs f g t u c s) a ci k v = some (mM xs f' g' t' u' c s) := by
  subst hk
  obtain ⟨b, rfl⟩ : ∃ b, a = b + 3 := ⟨a - 3, by omega⟩
  have hro : Nat.ble am_ro (b + 3) = true := Nat.ble_eq_true_of_le h3
  have hlt : Nat.blt k (m_ce f g t u (b + 3)).2.length = true := by
    simp only [m_ce, List.length_map, List.length_range]; exact Nat.ble_eq_true_of_le hn
  have hkk : Nat.beq (m_ce f g t u (b + 3)).1 (m_kd (b + 3)) = true := Nat.beq_refl _
  simp only [am_wr, m_get h3 h, Option.bind_some, hro, hlt, hkk, Bool.and_self, cond_true]
  simp only [mM, List.set_cons_succ, m_rset]
  have : (fun j => if j = b then ((m_ce f g t u (b + 3)).1, (m_ce f g t u (b + 3)).2.set k v) else m_ce f g t u (j + 3)) = fun j => m_ce f' g' t' u' (j + 3) := by
    funext j
    by_cases e : j = b
    · subst e
      rw [if_pos rfl]
      simp only [m_ce, m_rset]
      congr 2
      funext i
      rw [hv]
      simp
    · rw [if_neg e]
      simp only [m_ce]
      congr 2
      funext i
      rw [hv, if_neg (by omega)]
  rw [this]
theorem m_wI {v : Int32} (h3 : 3 ≤ a) (h : a < 157) (hk : m_kd a = ci) (hn : k < m_sz a) (hc : m_cd a k = 0) : am_wr (mM xs f g t u c s) a ci k (.int v) = some (mM xs (m_u f a k v) g t u c s) := by
  refine m_wr h3 h hk hn fun b j => ?_
  by_cases e : b = a ∧ j = k
  · obtain ⟨rfl, rfl⟩ := e
    simp only [m_cv, hc, m_u, and_self, if_true]
  · rw [if_neg e]; simp only [m_cv, m_u, if_neg e]
theorem m_wJ {v : Int64} (h3 : 3 ≤ a) (h : a < 157) (hk : m_kd a = ci) (hn : k < m_sz a) (hc : m_cd a k = 1) : am_wr (mM xs f g t u c s) a ci k (.long v) = some (mM xs f (m_w g a k v) t u c s) := by
  refine m_wr h3 h hk hn fun b j => ?_
  by_cases e : b = a ∧ j = k
  · obtain ⟨rfl, rfl⟩ := e
    simp only [m_cv, hc, m_w, and_self, if_true]
  · rw [if_neg e]; simp only [m_cv, m_w, if_neg e]
theorem m_c2 : ∀ b j, m_cd b j = 2 → b = 130 ∧ j = 0 := by
  intro b j h
  have hb : b < 157 := Nat.lt_of_not_le fun hb => by
    have e1 : m_kd b = 0 := by simp only [m_kd]; exact List.getElem?_eq_none (l := m_K) (i := b) (by simpa [m_K] using hb) |> fun e => by simp [List.getD, e]
    have e2 : m_C.getD b [] = [] := List.getElem?_eq_none (l := m_C) (i := b) (by simpa [m_C] using hb) |> fun e => by simp [List.getD, e]
    have e3 : m_cd b j = 0 := by unfold m_cd; rw [e1, e2]; rfl
    rw [e3] at h; exact absurd h (by decide)
  by_cases hj : j < 43
  · have : ∀ b, b < 157 → ∀ j, j < 43 → m_cd b j = 2 → b = 130 ∧ j = 0 := by decide +kernel
    exact this b hb j hj h
  · exfalso
    have h43 : ∀ b, b < 157 → (m_C.getD b []).length ≤ 43 := by decide +kernel
    have e2 : (m_C.getD b []).getD j 0 = 0 := List.getElem?_eq_none (l := m_C.getD b []) (i := j) (by have := h43 b hb; omega) |> fun e => by rw [List.getD_eq_getElem?_getD, e]; rfl
    unfold m_cd at h; rw [e2] at h
    cases hh : Nat.beq (m_kd b) 11 <;> rw [hh] at h <;> exact absurd h (by decide)
theorem m_c3 : ∀ b j, m_cd b j = 3 → b = 135 ∧ j = 0 := by
  intro b j h
  have hb : b < 157 := Nat.lt_of_not_le fun hb => by
    have e1 : m_kd b = 0 := by simp only [m_kd]; exact List.getElem?_eq_none (l := m_K) (i := b) (by simpa [m_K] using hb) |> fun e => by simp [List.getD, e]
    have e2 : m_C.getD b [] = [] := List.getElem?_eq_none (l := m_C) (i := b) (by simpa [m_C] using hb) |> fun e => by simp [List.getD, e]
    have e3 : m_cd b j = 0 := by unfold m_cd; rw [e1, e2]; rfl
    rw [e3] at h; exact absurd h (by decide)
  by_cases hj : j < 43
  · have : ∀ b, b < 157 → ∀ j, j < 43 → m_cd b j = 3 → b = 135 ∧ j = 0 := by decide +kernel
    exact this b hb j hj h
  · exfalso
    have h43 : ∀ b, b < 157 → (m_C.getD b []).length ≤ 43 := by decide +kernel
    have e2 : (m_C.getD b []).getD j 0 = 0 := List.getElem?_eq_none (l := m_C.getD b []) (i := j) (by have := h43 b hb; omega) |> fun e => by rw [List.getD_eq_getElem?_getD, e]; rfl
    unfold m_cd at h; rw [e2] at h
    cases hh : Nat.beq (m_kd b) 11 <;> rw [hh] at h <;> exact absurd h (by decide)
theorem m_wt {r : Nat} : am_wr (mM xs f g t u c s) 130 3 0 (.ref r) = some (mM xs f g r u c s) := by
  refine m_wr (by decide) (by decide) (by decide) (by decide) fun b j => ?_
  by_cases e : b = 130 ∧ j = 0
  · obtain ⟨rfl, rfl⟩ := e
    rfl
  · rw [if_neg e]; simp only [m_cv]
    split <;> rename_i h <;> first | rfl | exact absurd (m_c2 b j h) e
theorem m_wu {r : Nat} : am_wr (mM xs f g t u c s) 135 3 0 (.ref r) = some (mM xs f g t r c s) := by
  refine m_wr (by decide) (by decide) (by decide) (by decide) fun b j => ?_
  by_cases e : b = 135 ∧ j = 0
  · obtain ⟨rfl, rfl⟩ := e
    rfl
  · rw [if_neg e]; simp only [m_cv]
    split <;> rename_i h <;> first | rfl | exact absurd (m_c3 b j h) e
theorem m_tk {c' s' : Nat} : am_tk (mM xs f g t u c s) c' s' = mM xs f g t u (c + c') (s + s') := rfl
theorem m_us {v : Int32} (h : v = f a k) : m_u f a k v = f := by
  funext b j; simp only [m_u]; split
  · rename_i e; rw [e.1, e.2, h]
  · rfl
theorem m_uu (v : Int32) : m_u f a k v a k = v := by simp [m_u]
theorem m_ww (v : Int64) : m_w g a k v a k = v := by simp [m_w]
theorem m_un {v : Int32} {b j : Nat} (h : b ≠ a ∨ j ≠ k) : m_u f a k v b j = f b j := by simp only [m_u]; rw [if_neg (by omega)]
theorem m_wn {v : Int64} {b j : Nat} (h : b ≠ a ∨ j ≠ k) : m_w g a k v b j = g b j := by simp only [m_w]; rw [if_neg (by omega)]
theorem m_u2 {v w : Int32} : m_u (m_u f a k v) a k w = m_u f a k w := by funext b j; simp only [m_u]; split <;> rfl
theorem m_w2 {v w : Int64} : m_w (m_w g a k v) a k w = m_w g a k w := by funext b j; simp only [m_w]; split <;> rfl
/-- the texts of programs and actors; the rows of ways and mailboxes -/
def mT (T : Nat) : Prop := (∃ p, p < 3 ∧ T = 7 + 2 * p) ∨ (∃ i, i < 6 ∧ T = 15 + 5 * i)
def mW (W n : Nat) : Prop := (∃ j, j < 42 ∧ W = 45 + 2 * j ∧ n = 8) ∨ (∃ i, i < 6 ∧ W = 17 + 5 * i ∧ n = 6)
theorem mT_p {p : Nat} (h : p < 3) : mT (7 + 2 * p) := .inl ⟨p, h, rfl⟩
theorem mT_a {i : Nat} (h : i < 6) : mT (15 + 5 * i) := .inr ⟨i, h, rfl⟩
theorem mW_w {j : Nat} (h : j < 42) : mW (45 + 2 * j) 8 := .inl ⟨j, h, rfl, rfl⟩
theorem mW_m {i : Nat} (h : i < 6) : mW (17 + 5 * i) 6 := .inr ⟨i, h, rfl, rfl⟩
theorem mT_s : ∀ T, mT T → 3 ≤ T ∧ T + 1 < 139 ∧ m_kd T = 6 ∧ m_sz T = 2 ∧ m_cd T 0 = T + 1 + 4 ∧ m_cd T 1 = 0 ∧ m_kd (T + 1) = 13 ∧ m_sz (T + 1) = 60 := by
  intro T h
  rcases h with ⟨p, h, rfl⟩ | ⟨p, h, rfl⟩
  · revert p; decide +kernel
  · revert p; decide +kernel
theorem mT_c {T : Nat} (h : mT T) (k : Nat) : m_cd (T + 1) k = 0 := by
  have e := (mT_s T h).2.2.2.2.2.2.1
  have : m_C.getD (T + 1) [] = [] := by
    rcases h with ⟨p, h, rfl⟩ | ⟨p, h, rfl⟩
    · clear e; revert p; decide +kernel
    · clear e; revert p; decide +kernel
  unfold m_cd; rw [e, this]; rfl
theorem mW_s : ∀ W n, mW W n → 3 ≤ W ∧ W + 1 < 139 ∧ m_kd W = 4 ∧ m_sz W = 2 ∧ m_cd W 0 = W + 1 + 4 ∧ m_cd W 1 = 0 ∧ m_kd (W + 1) = 11 ∧ m_sz (W + 1) = n ∧ n ≤ 8 ∧ 6 ≤ n := by
  intro W n h
  rcases h with ⟨p, h, rfl, rfl⟩ | ⟨p, h, rfl, rfl⟩
  · revert p; decide +kernel
  · revert p; decide +kernel
theorem m_cJ {a : Nat} (h : m_kd a = 11) (k : Nat) : m_cd a k = 1 := by simp [m_cd, h]

theorem m_l3 : am_ln (mM xs f g t u c s) 3 8 = some 3 := m_ln (by decide) (by decide) (by decide)
theorem m_a3_0 : am_rA (mM xs f g t u c s) 3 8 0 = some 4 := m_rA (by decide) (by decide) (by decide) (by decide) (by decide)
theorem m_a3_1 : am_rA (mM xs f g t u c s) 3 8 1 = some 129 := m_rA (by decide) (by decide) (by decide) (by decide) (by decide)
theorem m_a3_2 : am_rA (mM xs f g t u c s) 3 8 2 = some 133 := m_rA (by decide) (by decide) (by decide) (by decide) (by decide)
theorem m_l4 : am_ln (mM xs f g t u c s) 4 7 = some 4 := m_ln (by decide) (by decide) (by decide)
theorem m_a4_0 : am_rA (mM xs f g t u c s) 4 7 0 = some 5 := m_rA (by decide) (by decide) (by decide) (by decide) (by decide)
theorem m_a4_1 : am_rA (mM xs f g t u c s) 4 7 1 = some 6 := m_rA (by decide) (by decide) (by decide) (by decide) (by decide)
theorem m_a4_2 : am_rA (mM xs f g t u c s) 4 7 2 = some 13 := m_rA (by decide) (by decide) (by decide) (by decide) (by decide)
theorem m_a4_3 : am_rA (mM xs f g t u c s) 4 7 3 = some 44 := m_rA (by decide) (by decide) (by decide) (by decide) (by decide)
theorem m_l129 : am_ln (mM xs f g t u c s) 129 2 = some 1 := m_ln (by decide) (by decide) (by decide)
theorem m_a129_0 : am_rA (mM xs f g t u c s) 129 2 0 = some 130 := m_rA (by decide) (by decide) (by decide) (by decide) (by decide)
theorem m_l130 : am_ln (mM xs f g t u c s) 130 3 = some 2 := m_ln (by decide) (by decide) (by decide)
theorem m_i130_1 : am_rI (mM xs f g t u c s) 130 3 1 = some (f 130 1) := m_rI (by decide) (by decide) (by decide) (by decide) (by decide)
theorem m_wi130_1 {v : Int32} : am_wr (mM xs f g t u c s) 130 3 1 (.int v) = some (mM xs (m_u f 130 1 v) g t u c s) := m_wI (by decide) (by decide) (by decide) (by decide) (by decide)
theorem m_l133 : am_ln (mM xs f g t u c s) 133 5 = some 5 := m_ln (by decide) (by decide) (by decide)
theorem m_a133_0 : am_rA (mM xs f g t u c s) 133 5 0 = some 4 := m_rA (by decide) (by decide) (by decide) (by decide) (by decide)
theorem m_a133_1 : am_rA (mM xs f g t u c s) 133 5 1 = some 134 := m_rA (by decide) (by decide) (by decide) (by decide) (by decide)
theorem m_i133_2 : am_rI (mM xs f g t u c s) 133 5 2 = some (f 133 2) := m_rI (by decide) (by decide) (by decide) (by decide) (by decide)
theorem m_wi133_2 {v : Int32} : am_wr (mM xs f g t u c s) 133 5 2 (.int v) = some (mM xs (m_u f 133 2 v) g t u c s) := m_wI (by decide) (by decide) (by decide) (by decide) (by decide)
theorem m_j133_3 : am_rJ (mM xs f g t u c s) 133 5 3 = some (g 133 3) := m_rJ (by decide) (by decide) (by decide) (by decide) (by decide)
theorem m_wj133_3 {v : Int64} : am_wr (mM xs f g t u c s) 133 5 3 (.long v) = some (mM xs f (m_w g 133 3 v) t u c s) := m_wJ (by decide) (by decide) (by decide) (by decide) (by decide)
theorem m_i133_4 : am_rI (mM xs f g t u c s) 133 5 4 = some (f 133 4) := m_rI (by decide) (by decide) (by decide) (by decide) (by decide)
theorem m_wi133_4 {v : Int32} : am_wr (mM xs f g t u c s) 133 5 4 (.int v) = some (mM xs (m_u f 133 4 v) g t u c s) := m_wI (by decide) (by decide) (by decide) (by decide) (by decide)
theorem m_l134 : am_ln (mM xs f g t u c s) 134 1 = some 4 := m_ln (by decide) (by decide) (by decide)
theorem m_a134_0 : am_rA (mM xs f g t u c s) 134 1 0 = some 135 := m_rA (by decide) (by decide) (by decide) (by decide) (by decide)
theorem m_a134_1 : am_rA (mM xs f g t u c s) 134 1 1 = some 138 := m_rA (by decide) (by decide) (by decide) (by decide) (by decide)
theorem m_i134_2 : am_rI (mM xs f g t u c s) 134 1 2 = some (f 134 2) := m_rI (by decide) (by decide) (by decide) (by decide) (by decide)
theorem m_wi134_2 {v : Int32} : am_wr (mM xs f g t u c s) 134 1 2 (.int v) = some (mM xs (m_u f 134 2 v) g t u c s) := m_wI (by decide) (by decide) (by decide) (by decide) (by decide)
theorem m_i134_3 : am_rI (mM xs f g t u c s) 134 1 3 = some (f 134 3) := m_rI (by decide) (by decide) (by decide) (by decide) (by decide)
theorem m_wi134_3 {v : Int32} : am_wr (mM xs f g t u c s) 134 1 3 (.int v) = some (mM xs (m_u f 134 3 v) g t u c s) := m_wI (by decide) (by decide) (by decide) (by decide) (by decide)
theorem m_l135 : am_ln (mM xs f g t u c s) 135 3 = some 2 := m_ln (by decide) (by decide) (by decide)
theorem m_i135_1 : am_rI (mM xs f g t u c s) 135 3 1 = some (f 135 1) := m_rI (by decide) (by decide) (by decide) (by decide) (by decide)
theorem m_wi135_1 {v : Int32} : am_wr (mM xs f g t u c s) 135 3 1 (.int v) = some (mM xs (m_u f 135 1 v) g t u c s) := m_wI (by decide) (by decide) (by decide) (by decide) (by decide)
theorem m_l139 : am_ln (mM xs f g t u c s) 139 9 = some 22 := m_ln (by decide) (by decide) (by decide)
theorem m_a139_0 : am_rA (mM xs f g t u c s) 139 9 0 = some 140 := m_rA (by decide) (by decide) (by decide) (by decide) (by decide)
theorem m_a139_1 : am_rA (mM xs f g t u c s) 139 9 1 = some 141 := m_rA (by decide) (by decide) (by decide) (by decide) (by decide)
theorem m_a139_2 : am_rA (mM xs f g t u c s) 139 9 2 = some 142 := m_rA (by decide) (by decide) (by decide) (by decide) (by decide)
theorem m_a139_3 : am_rA (mM xs f g t u c s) 139 9 3 = some 143 := m_rA (by decide) (by decide) (by decide) (by decide) (by decide)
theorem m_a139_4 : am_rA (mM xs f g t u c s) 139 9 4 = some 144 := m_rA (by decide) (by decide) (by decide) (by decide) (by decide)
theorem m_a139_5 : am_rA (mM xs f g t u c s) 139 9 5 = some 145 := m_rA (by decide) (by decide) (by decide) (by decide) (by decide)
theorem m_a139_6 : am_rA (mM xs f g t u c s) 139 9 6 = some 146 := m_rA (by decide) (by decide) (by decide) (by decide) (by decide)
theorem m_a139_7 : am_rA (mM xs f g t u c s) 139 9 7 = some 147 := m_rA (by decide) (by decide) (by decide) (by decide) (by decide)
theorem m_a139_8 : am_rA (mM xs f g t u c s) 139 9 8 = some 148 := m_rA (by decide) (by decide) (by decide) (by decide) (by decide)
theorem m_a139_9 : am_rA (mM xs f g t u c s) 139 9 9 = some 149 := m_rA (by decide) (by decide) (by decide) (by decide) (by decide)
theorem m_a139_10 : am_rA (mM xs f g t u c s) 139 9 10 = some 150 := m_rA (by decide) (by decide) (by decide) (by decide) (by decide)
theorem m_a139_11 : am_rA (mM xs f g t u c s) 139 9 11 = some 151 := m_rA (by decide) (by decide) (by decide) (by decide) (by decide)
theorem m_a139_12 : am_rA (mM xs f g t u c s) 139 9 12 = some 152 := m_rA (by decide) (by decide) (by decide) (by decide) (by decide)
theorem m_a139_13 : am_rA (mM xs f g t u c s) 139 9 13 = some 153 := m_rA (by decide) (by decide) (by decide) (by decide) (by decide)
theorem m_a139_14 : am_rA (mM xs f g t u c s) 139 9 14 = some 154 := m_rA (by decide) (by decide) (by decide) (by decide) (by decide)
theorem m_i139_15 : am_rI (mM xs f g t u c s) 139 9 15 = some (f 139 15) := m_rI (by decide) (by decide) (by decide) (by decide) (by decide)
theorem m_wi139_15 {v : Int32} : am_wr (mM xs f g t u c s) 139 9 15 (.int v) = some (mM xs (m_u f 139 15 v) g t u c s) := m_wI (by decide) (by decide) (by decide) (by decide) (by decide)
theorem m_i139_16 : am_rI (mM xs f g t u c s) 139 9 16 = some (f 139 16) := m_rI (by decide) (by decide) (by decide) (by decide) (by decide)
theorem m_wi139_16 {v : Int32} : am_wr (mM xs f g t u c s) 139 9 16 (.int v) = some (mM xs (m_u f 139 16 v) g t u c s) := m_wI (by decide) (by decide) (by decide) (by decide) (by decide)
theorem m_i139_17 : am_rI (mM xs f g t u c s) 139 9 17 = some (f 139 17) := m_rI (by decide) (by decide) (by decide) (by decide) (by decide)
theorem m_wi139_17 {v : Int32} : am_wr (mM xs f g t u c s) 139 9 17 (.int v) = some (mM xs (m_u f 139 17 v) g t u c s) := m_wI (by decide) (by decide) (by decide) (by decide) (by decide)
theorem m_a139_18 : am_rA (mM xs f g t u c s) 139 9 18 = some 155 := m_rA (by decide) (by decide) (by decide) (by decide) (by decide)
theorem m_i139_19 : am_rI (mM xs f g t u c s) 139 9 19 = some (f 139 19) := m_rI (by decide) (by decide) (by decide) (by decide) (by decide)
theorem m_wi139_19 {v : Int32} : am_wr (mM xs f g t u c s) 139 9 19 (.int v) = some (mM xs (m_u f 139 19 v) g t u c s) := m_wI (by decide) (by decide) (by decide) (by decide) (by decide)
theorem m_i139_20 : am_rI (mM xs f g t u c s) 139 9 20 = some (f 139 20) := m_rI (by decide) (by decide) (by decide) (by decide) (by decide)
theorem m_wi139_20 {v : Int32} : am_wr (mM xs f g t u c s) 139 9 20 (.int v) = some (mM xs (m_u f 139 20 v) g t u c s) := m_wI (by decide) (by decide) (by decide) (by decide) (by decide)
theorem m_i139_21 : am_rI (mM xs f g t u c s) 139 9 21 = some (f 139 21) := m_rI (by decide) (by decide) (by decide) (by decide) (by decide)
theorem m_wi139_21 {v : Int32} : am_wr (mM xs f g t u c s) 139 9 21 (.int v) = some (mM xs (m_u f 139 21 v) g t u c s) := m_wI (by decide) (by decide) (by decide) (by decide) (by decide)
theorem m_l6 : am_ln (mM xs f g t u c s) 6 12 = some 3 := m_ln (by decide) (by decide) (by decide)
theorem m_i6 (h : k < 3) : am_rI (mM xs f g t u c s) 6 12 k = some (f 6 k) := m_rI (by decide) (by decide) (by decide) h rfl
theorem m_wi6 {v : Int32} (h : k < 3) : am_wr (mM xs f g t u c s) 6 12 k (.int v) = some (mM xs (m_u f 6 k v) g t u c s) := m_wI (by decide) (by decide) (by decide) h rfl
theorem m_l140 : am_ln (mM xs f g t u c s) 140 10 = some 540 := m_ln (by decide) (by decide) (by decide)
theorem m_i140 (h : k < 540) : am_rI (mM xs f g t u c s) 140 10 k = some (f 140 k) := m_rI (by decide) (by decide) (by decide) h rfl
theorem m_wi140 {v : Int32} (h : k < 540) : am_wr (mM xs f g t u c s) 140 10 k (.int v) = some (mM xs (m_u f 140 k v) g t u c s) := m_wI (by decide) (by decide) (by decide) h rfl
theorem m_l141 : am_ln (mM xs f g t u c s) 141 10 = some 9 := m_ln (by decide) (by decide) (by decide)
theorem m_i141 (h : k < 9) : am_rI (mM xs f g t u c s) 141 10 k = some (f 141 k) := m_rI (by decide) (by decide) (by decide) h rfl
theorem m_wi141 {v : Int32} (h : k < 9) : am_wr (mM xs f g t u c s) 141 10 k (.int v) = some (mM xs (m_u f 141 k v) g t u c s) := m_wI (by decide) (by decide) (by decide) h rfl
theorem m_l142 : am_ln (mM xs f g t u c s) 142 12 = some 3 := m_ln (by decide) (by decide) (by decide)
theorem m_i142 (h : k < 3) : am_rI (mM xs f g t u c s) 142 12 k = some (f 142 k) := m_rI (by decide) (by decide) (by decide) h rfl
theorem m_wi142 {v : Int32} (h : k < 3) : am_wr (mM xs f g t u c s) 142 12 k (.int v) = some (mM xs (m_u f 142 k v) g t u c s) := m_wI (by decide) (by decide) (by decide) h rfl
theorem m_l143 : am_ln (mM xs f g t u c s) 143 10 = some 6 := m_ln (by decide) (by decide) (by decide)
theorem m_i143 (h : k < 6) : am_rI (mM xs f g t u c s) 143 10 k = some (f 143 k) := m_rI (by decide) (by decide) (by decide) h rfl
theorem m_wi143 {v : Int32} (h : k < 6) : am_wr (mM xs f g t u c s) 143 10 k (.int v) = some (mM xs (m_u f 143 k v) g t u c s) := m_wI (by decide) (by decide) (by decide) h rfl
theorem m_l144 : am_ln (mM xs f g t u c s) 144 11 = some 6 := m_ln (by decide) (by decide) (by decide)
theorem m_j144 (h : k < 6) : am_rJ (mM xs f g t u c s) 144 11 k = some (g 144 k) := m_rJ (by decide) (by decide) (by decide) h (m_cJ (by decide) k)
theorem m_wj144 {v : Int64} (h : k < 6) : am_wr (mM xs f g t u c s) 144 11 k (.long v) = some (mM xs f (m_w g 144 k v) t u c s) := m_wJ (by decide) (by decide) (by decide) h (m_cJ (by decide) k)
theorem m_l145 : am_ln (mM xs f g t u c s) 145 11 = some 36 := m_ln (by decide) (by decide) (by decide)
theorem m_j145 (h : k < 36) : am_rJ (mM xs f g t u c s) 145 11 k = some (g 145 k) := m_rJ (by decide) (by decide) (by decide) h (m_cJ (by decide) k)
theorem m_wj145 {v : Int64} (h : k < 36) : am_wr (mM xs f g t u c s) 145 11 k (.long v) = some (mM xs f (m_w g 145 k v) t u c s) := m_wJ (by decide) (by decide) (by decide) h (m_cJ (by decide) k)
theorem m_l146 : am_ln (mM xs f g t u c s) 146 10 = some 6 := m_ln (by decide) (by decide) (by decide)
theorem m_i146 (h : k < 6) : am_rI (mM xs f g t u c s) 146 10 k = some (f 146 k) := m_rI (by decide) (by decide) (by decide) h rfl
theorem m_wi146 {v : Int32} (h : k < 6) : am_wr (mM xs f g t u c s) 146 10 k (.int v) = some (mM xs (m_u f 146 k v) g t u c s) := m_wI (by decide) (by decide) (by decide) h rfl
theorem m_l147 : am_ln (mM xs f g t u c s) 147 12 = some 6 := m_ln (by decide) (by decide) (by decide)
theorem m_i147 (h : k < 6) : am_rI (mM xs f g t u c s) 147 12 k = some (f 147 k) := m_rI (by decide) (by decide) (by decide) h rfl
theorem m_wi147 {v : Int32} (h : k < 6) : am_wr (mM xs f g t u c s) 147 12 k (.int v) = some (mM xs (m_u f 147 k v) g t u c s) := m_wI (by decide) (by decide) (by decide) h rfl
theorem m_l148 : am_ln (mM xs f g t u c s) 148 10 = some 6 := m_ln (by decide) (by decide) (by decide)
theorem m_i148 (h : k < 6) : am_rI (mM xs f g t u c s) 148 10 k = some (f 148 k) := m_rI (by decide) (by decide) (by decide) h rfl
theorem m_wi148 {v : Int32} (h : k < 6) : am_wr (mM xs f g t u c s) 148 10 k (.int v) = some (mM xs (m_u f 148 k v) g t u c s) := m_wI (by decide) (by decide) (by decide) h rfl
theorem m_l149 : am_ln (mM xs f g t u c s) 149 12 = some 36 := m_ln (by decide) (by decide) (by decide)
theorem m_i149 (h : k < 36) : am_rI (mM xs f g t u c s) 149 12 k = some (f 149 k) := m_rI (by decide) (by decide) (by decide) h rfl
theorem m_wi149 {v : Int32} (h : k < 36) : am_wr (mM xs f g t u c s) 149 12 k (.int v) = some (mM xs (m_u f 149 k v) g t u c s) := m_wI (by decide) (by decide) (by decide) h rfl
theorem m_l150 : am_ln (mM xs f g t u c s) 150 11 = some 336 := m_ln (by decide) (by decide) (by decide)
theorem m_j150 (h : k < 336) : am_rJ (mM xs f g t u c s) 150 11 k = some (g 150 k) := m_rJ (by decide) (by decide) (by decide) h (m_cJ (by decide) k)
theorem m_wj150 {v : Int64} (h : k < 336) : am_wr (mM xs f g t u c s) 150 11 k (.long v) = some (mM xs f (m_w g 150 k v) t u c s) := m_wJ (by decide) (by decide) (by decide) h (m_cJ (by decide) k)
theorem m_l151 : am_ln (mM xs f g t u c s) 151 10 = some 42 := m_ln (by decide) (by decide) (by decide)
theorem m_i151 (h : k < 42) : am_rI (mM xs f g t u c s) 151 10 k = some (f 151 k) := m_rI (by decide) (by decide) (by decide) h rfl
theorem m_wi151 {v : Int32} (h : k < 42) : am_wr (mM xs f g t u c s) 151 10 k (.int v) = some (mM xs (m_u f 151 k v) g t u c s) := m_wI (by decide) (by decide) (by decide) h rfl
theorem m_l152 : am_ln (mM xs f g t u c s) 152 11 = some 6 := m_ln (by decide) (by decide) (by decide)
theorem m_j152 (h : k < 6) : am_rJ (mM xs f g t u c s) 152 11 k = some (g 152 k) := m_rJ (by decide) (by decide) (by decide) h (m_cJ (by decide) k)
theorem m_wj152 {v : Int64} (h : k < 6) : am_wr (mM xs f g t u c s) 152 11 k (.long v) = some (mM xs f (m_w g 152 k v) t u c s) := m_wJ (by decide) (by decide) (by decide) h (m_cJ (by decide) k)
theorem m_l153 : am_ln (mM xs f g t u c s) 153 10 = some 5 := m_ln (by decide) (by decide) (by decide)
theorem m_i153 (h : k < 5) : am_rI (mM xs f g t u c s) 153 10 k = some (f 153 k) := m_rI (by decide) (by decide) (by decide) h rfl
theorem m_wi153 {v : Int32} (h : k < 5) : am_wr (mM xs f g t u c s) 153 10 k (.int v) = some (mM xs (m_u f 153 k v) g t u c s) := m_wI (by decide) (by decide) (by decide) h rfl
theorem m_l154 : am_ln (mM xs f g t u c s) 154 12 = some 5 := m_ln (by decide) (by decide) (by decide)
theorem m_i154 (h : k < 5) : am_rI (mM xs f g t u c s) 154 12 k = some (f 154 k) := m_rI (by decide) (by decide) (by decide) h rfl
theorem m_wi154 {v : Int32} (h : k < 5) : am_wr (mM xs f g t u c s) 154 12 k (.int v) = some (mM xs (m_u f 154 k v) g t u c s) := m_wI (by decide) (by decide) (by decide) h rfl
theorem m_l155 : am_ln (mM xs f g t u c s) 155 11 = some 5 := m_ln (by decide) (by decide) (by decide)
theorem m_j155 (h : k < 5) : am_rJ (mM xs f g t u c s) 155 11 k = some (g 155 k) := m_rJ (by decide) (by decide) (by decide) h (m_cJ (by decide) k)
theorem m_wj155 {v : Int64} (h : k < 5) : am_wr (mM xs f g t u c s) 155 11 k (.long v) = some (mM xs f (m_w g 155 k v) t u c s) := m_wJ (by decide) (by decide) (by decide) h (m_cJ (by decide) k)
theorem m_l156 : am_ln (mM xs f g t u c s) 156 11 = some 1 := m_ln (by decide) (by decide) (by decide)
theorem m_j156 (h : k < 1) : am_rJ (mM xs f g t u c s) 156 11 k = some (g 156 k) := m_rJ (by decide) (by decide) (by decide) h (m_cJ (by decide) k)
theorem m_wj156 {v : Int64} (h : k < 1) : am_wr (mM xs f g t u c s) 156 11 k (.long v) = some (mM xs f (m_w g 156 k v) t u c s) := m_wJ (by decide) (by decide) (by decide) h (m_cJ (by decide) k)
theorem m_l138 : am_ln (mM xs f g t u c s) 138 11 = some 6 := m_ln (by decide) (by decide) (by decide)
theorem m_j138 (h : k < 6) : am_rJ (mM xs f g t u c s) 138 11 k = some (g 138 k) := m_rJ (by decide) (by decide) (by decide) h (m_cJ (by decide) k)
theorem m_wj138 {v : Int64} (h : k < 6) : am_wr (mM xs f g t u c s) 138 11 k (.long v) = some (mM xs f (m_w g 138 k v) t u c s) := m_wJ (by decide) (by decide) (by decide) h (m_cJ (by decide) k)
theorem m_a5 (h : k < 3) : am_rA (mM xs f g t u c s) 5 14 k = some (7 + 2 * k) := m_rA (by decide) (by decide) (by decide) h (by revert k; decide +kernel)
theorem m_a13 (h : k < 6) : am_rA (mM xs f g t u c s) 13 15 k = some (14 + 5 * k) := m_rA (by decide) (by decide) (by decide) h (by revert k; decide +kernel)
theorem m_a44 (h : k < 42) : am_rA (mM xs f g t u c s) 44 16 k = some (45 + 2 * k) := m_rA (by decide) (by decide) (by decide) h (by revert k; decide +kernel)
theorem mA_s : ∀ i, i < 6 → 3 ≤ 14 + 5 * i ∧ 14 + 5 * i < 157 ∧ m_kd (14 + 5 * i) = 0 ∧ m_sz (14 + 5 * i) = 7 ∧ m_cd (14 + 5 * i) 0 = 15 + 5 * i + 4 ∧ m_cd (14 + 5 * i) 1 = 17 + 5 * i + 4 ∧ m_cd (14 + 5 * i) 2 = 0 ∧ m_cd (14 + 5 * i) 3 = 1 ∧ m_cd (14 + 5 * i) 4 = 0 ∧ m_cd (14 + 5 * i) 5 = 0 ∧ m_cd (14 + 5 * i) 6 = 0 := by decide +kernel
theorem m_lA {i : Nat} (h : i < 6) : am_ln (mM xs f g t u c s) (14 + 5 * i) 0 = some 7 := by have q := mA_s i h; rw [m_ln q.1 q.2.1 q.2.2.1, q.2.2.2.1]
theorem m_aA_0 {i : Nat} (h : i < 6) : am_rA (mM xs f g t u c s) (14 + 5 * i) 0 0 = some (15 + 5 * i) := by have q := mA_s i h; exact m_rA q.1 q.2.1 q.2.2.1 (by omega) q.2.2.2.2.1
theorem m_aA_1 {i : Nat} (h : i < 6) : am_rA (mM xs f g t u c s) (14 + 5 * i) 0 1 = some (17 + 5 * i) := by have q := mA_s i h; exact m_rA q.1 q.2.1 q.2.2.1 (by omega) q.2.2.2.2.2.1
theorem m_iA_2 {i : Nat} (h : i < 6) : am_rI (mM xs f g t u c s) (14 + 5 * i) 0 2 = some (f (14 + 5 * i) 2) := by have q := mA_s i h; exact m_rI q.1 q.2.1 q.2.2.1 (by omega) q.2.2.2.2.2.2.1
theorem m_wiA_2 {i : Nat} {v : Int32} (h : i < 6) : am_wr (mM xs f g t u c s) (14 + 5 * i) 0 2 (.int v) = some (mM xs (m_u f (14 + 5 * i) 2 v) g t u c s) := by have q := mA_s i h; exact m_wI q.1 q.2.1 q.2.2.1 (by omega) q.2.2.2.2.2.2.1
theorem m_iA_4 {i : Nat} (h : i < 6) : am_rI (mM xs f g t u c s) (14 + 5 * i) 0 4 = some (f (14 + 5 * i) 4) := by have q := mA_s i h; exact m_rI q.1 q.2.1 q.2.2.1 (by omega) q.2.2.2.2.2.2.2.2.1
theorem m_wiA_4 {i : Nat} {v : Int32} (h : i < 6) : am_wr (mM xs f g t u c s) (14 + 5 * i) 0 4 (.int v) = some (mM xs (m_u f (14 + 5 * i) 4 v) g t u c s) := by have q := mA_s i h; exact m_wI q.1 q.2.1 q.2.2.1 (by omega) q.2.2.2.2.2.2.2.2.1
theorem m_iA_5 {i : Nat} (h : i < 6) : am_rI (mM xs f g t u c s) (14 + 5 * i) 0 5 = some (f (14 + 5 * i) 5) := by have q := mA_s i h; exact m_rI q.1 q.2.1 q.2.2.1 (by omega) q.2.2.2.2.2.2.2.2.2.1
theorem m_wiA_5 {i : Nat} {v : Int32} (h : i < 6) : am_wr (mM xs f g t u c s) (14 + 5 * i) 0 5 (.int v) = some (mM xs (m_u f (14 + 5 * i) 5 v) g t u c s) := by have q := mA_s i h; exact m_wI q.1 q.2.1 q.2.2.1 (by omega) q.2.2.2.2.2.2.2.2.2.1
theorem m_iA_6 {i : Nat} (h : i < 6) : am_rI (mM xs f g t u c s) (14 + 5 * i) 0 6 = some (f (14 + 5 * i) 6) := by have q := mA_s i h; exact m_rI q.1 q.2.1 q.2.2.1 (by omega) q.2.2.2.2.2.2.2.2.2.2
theorem m_wiA_6 {i : Nat} {v : Int32} (h : i < 6) : am_wr (mM xs f g t u c s) (14 + 5 * i) 0 6 (.int v) = some (mM xs (m_u f (14 + 5 * i) 6 v) g t u c s) := by have q := mA_s i h; exact m_wI q.1 q.2.1 q.2.2.1 (by omega) q.2.2.2.2.2.2.2.2.2.2
theorem m_jA_3 {i : Nat} (h : i < 6) : am_rJ (mM xs f g t u c s) (14 + 5 * i) 0 3 = some (g (14 + 5 * i) 3) := by have q := mA_s i h; exact m_rJ q.1 q.2.1 q.2.2.1 (by omega) q.2.2.2.2.2.2.2.1
theorem m_wjA_3 {i : Nat} {v : Int64} (h : i < 6) : am_wr (mM xs f g t u c s) (14 + 5 * i) 0 3 (.long v) = some (mM xs f (m_w g (14 + 5 * i) 3 v) t u c s) := by have q := mA_s i h; exact m_wJ q.1 q.2.1 q.2.2.1 (by omega) q.2.2.2.2.2.2.2.1
theorem m_lT {T : Nat} (h : mT T) : am_ln (mM xs f g t u c s) T 6 = some 2 := by have q := mT_s T h; rw [m_ln q.1 (by omega) q.2.2.1, q.2.2.2.1]
theorem m_lTc {T : Nat} (h : mT T) : am_ln (mM xs f g t u c s) (T + 1) 13 = some 60 := by have q := mT_s T h; rw [m_ln (by omega) (by omega) q.2.2.2.2.2.2.1, q.2.2.2.2.2.2.2]
theorem m_aT {T : Nat} (h : mT T) : am_rA (mM xs f g t u c s) T 6 0 = some (T + 1) := by have q := mT_s T h; exact m_rA q.1 (by omega) q.2.2.1 (by omega) q.2.2.2.2.1
theorem m_iT {T : Nat} (h : mT T) : am_rI (mM xs f g t u c s) T 6 1 = some (f T 1) := by have q := mT_s T h; exact m_rI q.1 (by omega) q.2.2.1 (by omega) q.2.2.2.2.2.1
theorem m_wiT {v : Int32} {T : Nat} (h : mT T) : am_wr (mM xs f g t u c s) T 6 1 (.int v) = some (mM xs (m_u f T 1 v) g t u c s) := by have q := mT_s T h; exact m_wI q.1 (by omega) q.2.2.1 (by omega) q.2.2.2.2.2.1
theorem m_iTc {T : Nat} (h : mT T) (hk : k < 60) : am_rI (mM xs f g t u c s) (T + 1) 13 k = some (f (T + 1) k) := by have q := mT_s T h; exact m_rI (by omega) (by omega) q.2.2.2.2.2.2.1 (by omega) (mT_c h k)
theorem m_wiTc {v : Int32} {T : Nat} (h : mT T) (hk : k < 60) : am_wr (mM xs f g t u c s) (T + 1) 13 k (.int v) = some (mM xs (m_u f (T + 1) k v) g t u c s) := by have q := mT_s T h; exact m_wI (by omega) (by omega) q.2.2.2.2.2.2.1 (by omega) (mT_c h k)
theorem m_lW {W n : Nat} (h : mW W n) : am_ln (mM xs f g t u c s) W 4 = some 2 := by have q := mW_s W n h; rw [m_ln q.1 (by omega) q.2.2.1, q.2.2.2.1]
theorem m_lWc {W n : Nat} (h : mW W n) : am_ln (mM xs f g t u c s) (W + 1) 11 = some n := by have q := mW_s W n h; rw [m_ln (by omega) (by omega) q.2.2.2.2.2.2.1, q.2.2.2.2.2.2.2.1]
theorem m_aW {W n : Nat} (h : mW W n) : am_rA (mM xs f g t u c s) W 4 0 = some (W + 1) := by have q := mW_s W n h; exact m_rA q.1 (by omega) q.2.2.1 (by omega) q.2.2.2.2.1
theorem m_iW {W n : Nat} (h : mW W n) : am_rI (mM xs f g t u c s) W 4 1 = some (f W 1) := by have q := mW_s W n h; exact m_rI q.1 (by omega) q.2.2.1 (by omega) q.2.2.2.2.2.1
theorem m_wiW {v : Int32} {W n : Nat} (h : mW W n) : am_wr (mM xs f g t u c s) W 4 1 (.int v) = some (mM xs (m_u f W 1 v) g t u c s) := by have q := mW_s W n h; exact m_wI q.1 (by omega) q.2.2.1 (by omega) q.2.2.2.2.2.1
theorem m_jWc {W n : Nat} (h : mW W n) (hk : k < n) : am_rJ (mM xs f g t u c s) (W + 1) 11 k = some (g (W + 1) k) := by have q := mW_s W n h; exact m_rJ (by omega) (by omega) q.2.2.2.2.2.2.1 (by omega) (m_cJ q.2.2.2.2.2.2.1 k)
theorem m_wjWc {v : Int64} {W n : Nat} (h : mW W n) (hk : k < n) : am_wr (mM xs f g t u c s) (W + 1) 11 k (.long v) = some (mM xs f (m_w g (W + 1) k v) t u c s) := by have q := mW_s W n h; exact m_wJ (by omega) (by omega) q.2.2.2.2.2.2.1 (by omega) (m_cJ q.2.2.2.2.2.2.1 k)
theorem m_0l : am_ln (mM xs f g t u c s) 0 10 = some xs.length := by simp [am_ln, mM, Nat.beq]
theorem m_0 (h : k < xs.length) : am_rI (mM xs f g t u c s) 0 10 k = some (xs[k]) := by simp [am_rI, am_rd, mM, Nat.beq, h, am_vI]
theorem m_1 (h : k < 5) : am_rI (mM xs f g t u c s) 1 10 k = some (m_tens.getD k 0) := by
  match k, h with
  | 0, _ => rfl
  | 1, _ => rfl
  | 2, _ => rfl
  | 3, _ => rfl
  | 4, _ => rfl
theorem m_2 (h : k < 5) : am_rI (mM xs f g t u c s) 2 10 k = some (m_deep.getD k 0) := by
  match k, h with
  | 0, _ => rfl
  | 1, _ => rfl
  | 2, _ => rfl
  | 3, _ => rfl
  | 4, _ => rfl
def m_cpy (f : mF) (A B : Nat) : mF := fun b j => if b = B ∧ j < 60 then f A j else f b j
theorem m_cp {A B : Nat} (hA : mT A) (hB : mT B) (hc : ∀ j, j < 60 → 0 ≤ f (A + 1) j ∧ f (A + 1) j ≤ 65535) : am_cp (mM xs f g t u c s) 13 (A + 1) (B + 1) 60 = some (mM xs (m_cpy f (A + 1) (B + 1)) g t u c s) := by
  have qA := mT_s A hA
  have qB := mT_s B hB
  obtain ⟨b, hb⟩ : ∃ b, B + 1 = b + 3 := ⟨B - 2, by omega⟩
  have eA : (m_ce f g t u (A + 1)) = (13, (List.range 60).map (fun j => Value.int (f (A + 1) j))) := by
    simp only [m_ce, qA.2.2.2.2.2.2.1, qA.2.2.2.2.2.2.2]
    congr 2; funext j; simp only [m_cv, mT_c hA]
  have eB : (m_ce f g t u (B + 1)) = (13, (List.range 60).map (fun j => Value.int (f (B + 1) j))) := by
    simp only [m_ce, qB.2.2.2.2.2.2.1, qB.2.2.2.2.2.2.2]
    congr 2; funext j; simp only [m_cv, mT_c hB]
  have tk : ((List.range 60).map (fun j => Value.int (f (A + 1) j))).take 60 = (List.range 60).map (fun j => Value.int (f (A + 1) j)) := List.take_of_length_le (by simp)
  have dr : ((List.range 60).map (fun j => Value.int (f (B + 1) j))).drop 60 = [] := List.drop_of_length_le (by simp)
  have al : ((List.range 60).map (fun j => Value.int (f (A + 1) j))).all (am_ft 4) = true := by
    rw [List.all_map, List.all_eq_true]
    intro j hj
    have := hc j (by simpa using hj)
    simp only [Function.comp, am_ft, this, decide_true, Bool.and_self]
  simp only [am_cp, m_get (show 3 ≤ A + 1 by omega) (show A + 1 < 157 by omega), m_get (show 3 ≤ B + 1 by omega) (show B + 1 < 157 by omega), Option.bind_some, eA, eB, tk, dr, al]
  have hro : Nat.ble am_ro (A + 1) = true := Nat.ble_eq_true_of_le (show 3 ≤ A + 1 by omega)
  have hro2 : Nat.ble am_ro (B + 1) = true := Nat.ble_eq_true_of_le (show 3 ≤ B + 1 by omega)
  simp only [hro, hro2, Nat.beq_refl, List.length_map, List.length_range, Bool.and_true, List.append_nil, show Nat.ble 60 60 = true from rfl, cond_true, Option.some.injEq]
  simp only [mM, hb, List.set_cons_succ, m_rset]
  have : (fun j => if j = b then ((13, (List.range 60).map (fun j => Value.int (f (A + 1) j))) : aC) else m_ce f g t u (j + 3)) = fun j => m_ce (m_cpy f (A + 1) (b + 3)) g t u (j + 3) := by
    funext j
    by_cases e : j = b
    · subst e
      rw [if_pos rfl, ← hb]
      simp only [m_ce, qB.2.2.2.2.2.2.1, qB.2.2.2.2.2.2.2]
      congr 1
      apply List.map_congr_left
      intro i hi
      have hi : i < 60 := by simpa using hi
      simp only [m_cv, mT_c hB, m_cpy, hi, and_self, if_true]
    · rw [if_neg e]
      simp only [m_ce]
      congr 2
      funext i
      simp only [m_cv, m_cpy]
      rw [if_neg (show ¬ (j + 3 = b + 3 ∧ i < 60) by omega)]
  rw [this]
end MK
