/-! READING AND WRITING, with what comes behind (written by a program) -/
theorem bb {α β : Type} {o : Option α} {v : α} (h : o = some v) (q : α → Option β) : o.bind q = q v := by rw [h]; rfl
theorem bI {β : Type} {o : Option aR} {v : Int32} {M : aM} (h : o = some (.inl (some (.int v)), M)) (q : Int32 → aM → Option β) (x : Nat → aM → Option β) : am_cI o q x = q v M := by rw [h]; rfl
theorem bJ {β : Type} {o : Option aR} {v : Int64} {M : aM} (h : o = some (.inl (some (.long v)), M)) (q : Int64 → aM → Option β) (x : Nat → aM → Option β) : am_cJ o q x = q v M := by rw [h]; rfl
theorem bA {β : Type} {o : Option aR} {v : Nat} {M : aM} (h : o = some (.inl (some (.ref v)), M)) (q : Nat → aM → Option β) (x : Nat → aM → Option β) : am_cA o q x = q v M := by rw [h]; rfl
theorem bV {β : Type} {o : Option aR} {M : aM} (h : o = some (.inl none, M)) (q : aM → Option β) (x : Nat → aM → Option β) : am_cV o q x = q M := by rw [h]; rfl
theorem xI {β : Type} {o : Option aR} {e : Nat} {M : aM} (h : o = some (.inr e, M)) (q : Int32 → aM → Option β) (x : Nat → aM → Option β) : am_cI o q x = x e M := by rw [h]; rfl
theorem xJ {β : Type} {o : Option aR} {e : Nat} {M : aM} (h : o = some (.inr e, M)) (q : Int64 → aM → Option β) (x : Nat → aM → Option β) : am_cJ o q x = x e M := by rw [h]; rfl
theorem xV {β : Type} {o : Option aR} {e : Nat} {M : aM} (h : o = some (.inr e, M)) (q : aM → Option β) (x : Nat → aM → Option β) : am_cV o q x = x e M := by rw [h]; rfl
theorem b_ix {β : Type} {n : Nat} (q : Nat → Option β) (h : n < 2 ^ 31) : (am_ix (nI n)).bind q = q n := bb (ix_n h) q
section BD
variable {β : Type} {xs : List Int32} {f : mF} {g : mG} {t u c s k : Nat}
theorem b_l3 (q : Nat → Option β) : (am_ln (mM xs f g t u c s) 3 8).bind q = q 3 := bb (m_l3) q
theorem b_a3_0 (q : Nat → Option β) : (am_rA (mM xs f g t u c s) 3 8 0).bind q = q 4 := bb (m_a3_0) q
theorem b_a3_1 (q : Nat → Option β) : (am_rA (mM xs f g t u c s) 3 8 1).bind q = q 129 := bb (m_a3_1) q
theorem b_a3_2 (q : Nat → Option β) : (am_rA (mM xs f g t u c s) 3 8 2).bind q = q 133 := bb (m_a3_2) q
theorem b_l4 (q : Nat → Option β) : (am_ln (mM xs f g t u c s) 4 7).bind q = q 4 := bb (m_l4) q
theorem b_a4_0 (q : Nat → Option β) : (am_rA (mM xs f g t u c s) 4 7 0).bind q = q 5 := bb (m_a4_0) q
theorem b_a4_1 (q : Nat → Option β) : (am_rA (mM xs f g t u c s) 4 7 1).bind q = q 6 := bb (m_a4_1) q
theorem b_a4_2 (q : Nat → Option β) : (am_rA (mM xs f g t u c s) 4 7 2).bind q = q 13 := bb (m_a4_2) q
theorem b_a4_3 (q : Nat → Option β) : (am_rA (mM xs f g t u c s) 4 7 3).bind q = q 44 := bb (m_a4_3) q
theorem b_l129 (q : Nat → Option β) : (am_ln (mM xs f g t u c s) 129 2).bind q = q 1 := bb (m_l129) q
theorem b_a129_0 (q : Nat → Option β) : (am_rA (mM xs f g t u c s) 129 2 0).bind q = q 130 := bb (m_a129_0) q
theorem b_l130 (q : Nat → Option β) : (am_ln (mM xs f g t u c s) 130 3).bind q = q 2 := bb (m_l130) q
theorem b_i130_1 (q : Int32 → Option β) : (am_rI (mM xs f g t u c s) 130 3 1).bind q = q (f 130 1) := bb (m_i130_1) q
theorem b_wi130_1 (q : aM → Option β) {v : Int32} : (am_wr (mM xs f g t u c s) 130 3 1 (.int v)).bind q = q (mM xs (m_u f 130 1 v) g t u c s) := bb (m_wi130_1) q
theorem b_l133 (q : Nat → Option β) : (am_ln (mM xs f g t u c s) 133 5).bind q = q 5 := bb (m_l133) q
theorem b_a133_0 (q : Nat → Option β) : (am_rA (mM xs f g t u c s) 133 5 0).bind q = q 4 := bb (m_a133_0) q
theorem b_a133_1 (q : Nat → Option β) : (am_rA (mM xs f g t u c s) 133 5 1).bind q = q 134 := bb (m_a133_1) q
theorem b_i133_2 (q : Int32 → Option β) : (am_rI (mM xs f g t u c s) 133 5 2).bind q = q (f 133 2) := bb (m_i133_2) q
theorem b_wi133_2 (q : aM → Option β) {v : Int32} : (am_wr (mM xs f g t u c s) 133 5 2 (.int v)).bind q = q (mM xs (m_u f 133 2 v) g t u c s) := bb (m_wi133_2) q
theorem b_j133_3 (q : Int64 → Option β) : (am_rJ (mM xs f g t u c s) 133 5 3).bind q = q (g 133 3) := bb (m_j133_3) q
theorem b_wj133_3 (q : aM → Option β) {v : Int64} : (am_wr (mM xs f g t u c s) 133 5 3 (.long v)).bind q = q (mM xs f (m_w g 133 3 v) t u c s) := bb (m_wj133_3) q
theorem b_i133_4 (q : Int32 → Option β) : (am_rI (mM xs f g t u c s) 133 5 4).bind q = q (f 133 4) := bb (m_i133_4) q
theorem b_wi133_4 (q : aM → Option β) {v : Int32} : (am_wr (mM xs f g t u c s) 133 5 4 (.int v)).bind q = q (mM xs (m_u f 133 4 v) g t u c s) := bb (m_wi133_4) q
theorem b_l134 (q : Nat → Option β) : (am_ln (mM xs f g t u c s) 134 1).bind q = q 4 := bb (m_l134) q
theorem b_a134_0 (q : Nat → Option β) : (am_rA (mM xs f g t u c s) 134 1 0).bind q = q 135 := bb (m_a134_0) q
theorem b_a134_1 (q : Nat → Option β) : (am_rA (mM xs f g t u c s) 134 1 1).bind q = q 138 := bb (m_a134_1) q
theorem b_i134_2 (q : Int32 → Option β) : (am_rI (mM xs f g t u c s) 134 1 2).bind q = q (f 134 2) := bb (m_i134_2) q
theorem b_wi134_2 (q : aM → Option β) {v : Int32} : (am_wr (mM xs f g t u c s) 134 1 2 (.int v)).bind q = q (mM xs (m_u f 134 2 v) g t u c s) := bb (m_wi134_2) q
theorem b_i134_3 (q : Int32 → Option β) : (am_rI (mM xs f g t u c s) 134 1 3).bind q = q (f 134 3) := bb (m_i134_3) q
theorem b_wi134_3 (q : aM → Option β) {v : Int32} : (am_wr (mM xs f g t u c s) 134 1 3 (.int v)).bind q = q (mM xs (m_u f 134 3 v) g t u c s) := bb (m_wi134_3) q
theorem b_l135 (q : Nat → Option β) : (am_ln (mM xs f g t u c s) 135 3).bind q = q 2 := bb (m_l135) q
theorem b_i135_1 (q : Int32 → Option β) : (am_rI (mM xs f g t u c s) 135 3 1).bind q = q (f 135 1) := bb (m_i135_1) q
theorem b_wi135_1 (q : aM → Option β) {v : Int32} : (am_wr (mM xs f g t u c s) 135 3 1 (.int v)).bind q = q (mM xs (m_u f 135 1 v) g t u c s) := bb (m_wi135_1) q
theorem b_l139 (q : Nat → Option β) : (am_ln (mM xs f g t u c s) 139 9).bind q = q 22 := bb (m_l139) q
theorem b_a139_0 (q : Nat → Option β) : (am_rA (mM xs f g t u c s) 139 9 0).bind q = q 140 := bb (m_a139_0) q
theorem b_a139_1 (q : Nat → Option β) : (am_rA (mM xs f g t u c s) 139 9 1).bind q = q 141 := bb (m_a139_1) q
theorem b_a139_2 (q : Nat → Option β) : (am_rA (mM xs f g t u c s) 139 9 2).bind q = q 142 := bb (m_a139_2) q
theorem b_a139_3 (q : Nat → Option β) : (am_rA (mM xs f g t u c s) 139 9 3).bind q = q 143 := bb (m_a139_3) q
theorem b_a139_4 (q : Nat → Option β) : (am_rA (mM xs f g t u c s) 139 9 4).bind q = q 144 := bb (m_a139_4) q
theorem b_a139_5 (q : Nat → Option β) : (am_rA (mM xs f g t u c s) 139 9 5).bind q = q 145 := bb (m_a139_5) q
theorem b_a139_6 (q : Nat → Option β) : (am_rA (mM xs f g t u c s) 139 9 6).bind q = q 146 := bb (m_a139_6) q
theorem b_a139_7 (q : Nat → Option β) : (am_rA (mM xs f g t u c s) 139 9 7).bind q = q 147 := bb (m_a139_7) q
theorem b_a139_8 (q : Nat → Option β) : (am_rA (mM xs f g t u c s) 139 9 8).bind q = q 148 := bb (m_a139_8) q
theorem b_a139_9 (q : Nat → Option β) : (am_rA (mM xs f g t u c s) 139 9 9).bind q = q 149 := bb (m_a139_9) q
theorem b_a139_10 (q : Nat → Option β) : (am_rA (mM xs f g t u c s) 139 9 10).bind q = q 150 := bb (m_a139_10) q
theorem b_a139_11 (q : Nat → Option β) : (am_rA (mM xs f g t u c s) 139 9 11).bind q = q 151 := bb (m_a139_11) q
theorem b_a139_12 (q : Nat → Option β) : (am_rA (mM xs f g t u c s) 139 9 12).bind q = q 152 := bb (m_a139_12) q
theorem b_a139_13 (q : Nat → Option β) : (am_rA (mM xs f g t u c s) 139 9 13).bind q = q 153 := bb (m_a139_13) q
theorem b_a139_14 (q : Nat → Option β) : (am_rA (mM xs f g t u c s) 139 9 14).bind q = q 154 := bb (m_a139_14) q
theorem b_i139_15 (q : Int32 → Option β) : (am_rI (mM xs f g t u c s) 139 9 15).bind q = q (f 139 15) := bb (m_i139_15) q
theorem b_wi139_15 (q : aM → Option β) {v : Int32} : (am_wr (mM xs f g t u c s) 139 9 15 (.int v)).bind q = q (mM xs (m_u f 139 15 v) g t u c s) := bb (m_wi139_15) q
theorem b_i139_16 (q : Int32 → Option β) : (am_rI (mM xs f g t u c s) 139 9 16).bind q = q (f 139 16) := bb (m_i139_16) q
theorem b_wi139_16 (q : aM → Option β) {v : Int32} : (am_wr (mM xs f g t u c s) 139 9 16 (.int v)).bind q = q (mM xs (m_u f 139 16 v) g t u c s) := bb (m_wi139_16) q
theorem b_i139_17 (q : Int32 → Option β) : (am_rI (mM xs f g t u c s) 139 9 17).bind q = q (f 139 17) := bb (m_i139_17) q
theorem b_wi139_17 (q : aM → Option β) {v : Int32} : (am_wr (mM xs f g t u c s) 139 9 17 (.int v)).bind q = q (mM xs (m_u f 139 17 v) g t u c s) := bb (m_wi139_17) q
theorem b_a139_18 (q : Nat → Option β) : (am_rA (mM xs f g t u c s) 139 9 18).bind q = q 155 := bb (m_a139_18) q
theorem b_i139_19 (q : Int32 → Option β) : (am_rI (mM xs f g t u c s) 139 9 19).bind q = q (f 139 19) := bb (m_i139_19) q
theorem b_wi139_19 (q : aM → Option β) {v : Int32} : (am_wr (mM xs f g t u c s) 139 9 19 (.int v)).bind q = q (mM xs (m_u f 139 19 v) g t u c s) := bb (m_wi139_19) q
theorem b_i139_20 (q : Int32 → Option β) : (am_rI (mM xs f g t u c s) 139 9 20).bind q = q (f 139 20) := bb (m_i139_20) q
theorem b_wi139_20 (q : aM → Option β) {v : Int32} : (am_wr (mM xs f g t u c s) 139 9 20 (.int v)).bind q = q (mM xs (m_u f 139 20 v) g t u c s) := bb (m_wi139_20) q
theorem b_i139_21 (q : Int32 → Option β) : (am_rI (mM xs f g t u c s) 139 9 21).bind q = q (f 139 21) := bb (m_i139_21) q
theorem b_wi139_21 (q : aM → Option β) {v : Int32} : (am_wr (mM xs f g t u c s) 139 9 21 (.int v)).bind q = q (mM xs (m_u f 139 21 v) g t u c s) := bb (m_wi139_21) q
theorem b_l6 (q : Nat → Option β) : (am_ln (mM xs f g t u c s) 6 12).bind q = q 3 := bb (m_l6) q
theorem b_i6 (q : Int32 → Option β) (h : k < 3) : (am_rI (mM xs f g t u c s) 6 12 k).bind q = q (f 6 k) := bb (m_i6 h) q
theorem b_wi6 (q : aM → Option β) {v : Int32} (h : k < 3) : (am_wr (mM xs f g t u c s) 6 12 k (.int v)).bind q = q (mM xs (m_u f 6 k v) g t u c s) := bb (m_wi6 h) q
theorem b_l140 (q : Nat → Option β) : (am_ln (mM xs f g t u c s) 140 10).bind q = q 540 := bb (m_l140) q
theorem b_i140 (q : Int32 → Option β) (h : k < 540) : (am_rI (mM xs f g t u c s) 140 10 k).bind q = q (f 140 k) := bb (m_i140 h) q
theorem b_wi140 (q : aM → Option β) {v : Int32} (h : k < 540) : (am_wr (mM xs f g t u c s) 140 10 k (.int v)).bind q = q (mM xs (m_u f 140 k v) g t u c s) := bb (m_wi140 h) q
theorem b_l141 (q : Nat → Option β) : (am_ln (mM xs f g t u c s) 141 10).bind q = q 9 := bb (m_l141) q
theorem b_i141 (q : Int32 → Option β) (h : k < 9) : (am_rI (mM xs f g t u c s) 141 10 k).bind q = q (f 141 k) := bb (m_i141 h) q
theorem b_wi141 (q : aM → Option β) {v : Int32} (h : k < 9) : (am_wr (mM xs f g t u c s) 141 10 k (.int v)).bind q = q (mM xs (m_u f 141 k v) g t u c s) := bb (m_wi141 h) q
theorem b_l142 (q : Nat → Option β) : (am_ln (mM xs f g t u c s) 142 12).bind q = q 3 := bb (m_l142) q
theorem b_i142 (q : Int32 → Option β) (h : k < 3) : (am_rI (mM xs f g t u c s) 142 12 k).bind q = q (f 142 k) := bb (m_i142 h) q
theorem b_wi142 (q : aM → Option β) {v : Int32} (h : k < 3) : (am_wr (mM xs f g t u c s) 142 12 k (.int v)).bind q = q (mM xs (m_u f 142 k v) g t u c s) := bb (m_wi142 h) q
theorem b_l143 (q : Nat → Option β) : (am_ln (mM xs f g t u c s) 143 10).bind q = q 6 := bb (m_l143) q
theorem b_i143 (q : Int32 → Option β) (h : k < 6) : (am_rI (mM xs f g t u c s) 143 10 k).bind q = q (f 143 k) := bb (m_i143 h) q
theorem b_wi143 (q : aM → Option β) {v : Int32} (h : k < 6) : (am_wr (mM xs f g t u c s) 143 10 k (.int v)).bind q = q (mM xs (m_u f 143 k v) g t u c s) := bb (m_wi143 h) q
theorem b_l144 (q : Nat → Option β) : (am_ln (mM xs f g t u c s) 144 11).bind q = q 6 := bb (m_l144) q
theorem b_j144 (q : Int64 → Option β) (h : k < 6) : (am_rJ (mM xs f g t u c s) 144 11 k).bind q = q (g 144 k) := bb (m_j144 h) q
theorem b_wj144 (q : aM → Option β) {v : Int64} (h : k < 6) : (am_wr (mM xs f g t u c s) 144 11 k (.long v)).bind q = q (mM xs f (m_w g 144 k v) t u c s) := bb (m_wj144 h) q
theorem b_l145 (q : Nat → Option β) : (am_ln (mM xs f g t u c s) 145 11).bind q = q 36 := bb (m_l145) q
theorem b_j145 (q : Int64 → Option β) (h : k < 36) : (am_rJ (mM xs f g t u c s) 145 11 k).bind q = q (g 145 k) := bb (m_j145 h) q
theorem b_wj145 (q : aM → Option β) {v : Int64} (h : k < 36) : (am_wr (mM xs f g t u c s) 145 11 k (.long v)).bind q = q (mM xs f (m_w g 145 k v) t u c s) := bb (m_wj145 h) q
theorem b_l146 (q : Nat → Option β) : (am_ln (mM xs f g t u c s) 146 10).bind q = q 6 := bb (m_l146) q
theorem b_i146 (q : Int32 → Option β) (h : k < 6) : (am_rI (mM xs f g t u c s) 146 10 k).bind q = q (f 146 k) := bb (m_i146 h) q
theorem b_wi146 (q : aM → Option β) {v : Int32} (h : k < 6) : (am_wr (mM xs f g t u c s) 146 10 k (.int v)).bind q = q (mM xs (m_u f 146 k v) g t u c s) := bb (m_wi146 h) q
theorem b_l147 (q : Nat → Option β) : (am_ln (mM xs f g t u c s) 147 12).bind q = q 6 := bb (m_l147) q
theorem b_i147 (q : Int32 → Option β) (h : k < 6) : (am_rI (mM xs f g t u c s) 147 12 k).bind q = q (f 147 k) := bb (m_i147 h) q
theorem b_wi147 (q : aM → Option β) {v : Int32} (h : k < 6) : (am_wr (mM xs f g t u c s) 147 12 k (.int v)).bind q = q (mM xs (m_u f 147 k v) g t u c s) := bb (m_wi147 h) q
theorem b_l148 (q : Nat → Option β) : (am_ln (mM xs f g t u c s) 148 10).bind q = q 6 := bb (m_l148) q
theorem b_i148 (q : Int32 → Option β) (h : k < 6) : (am_rI (mM xs f g t u c s) 148 10 k).bind q = q (f 148 k) := bb (m_i148 h) q
theorem b_wi148 (q : aM → Option β) {v : Int32} (h : k < 6) : (am_wr (mM xs f g t u c s) 148 10 k (.int v)).bind q = q (mM xs (m_u f 148 k v) g t u c s) := bb (m_wi148 h) q
theorem b_l149 (q : Nat → Option β) : (am_ln (mM xs f g t u c s) 149 12).bind q = q 36 := bb (m_l149) q
theorem b_i149 (q : Int32 → Option β) (h : k < 36) : (am_rI (mM xs f g t u c s) 149 12 k).bind q = q (f 149 k) := bb (m_i149 h) q
theorem b_wi149 (q : aM → Option β) {v : Int32} (h : k < 36) : (am_wr (mM xs f g t u c s) 149 12 k (.int v)).bind q = q (mM xs (m_u f 149 k v) g t u c s) := bb (m_wi149 h) q
theorem b_l150 (q : Nat → Option β) : (am_ln (mM xs f g t u c s) 150 11).bind q = q 336 := bb (m_l150) q
theorem b_j150 (q : Int64 → Option β) (h : k < 336) : (am_rJ (mM xs f g t u c s) 150 11 k).bind q = q (g 150 k) := bb (m_j150 h) q
theorem b_wj150 (q : aM → Option β) {v : Int64} (h : k < 336) : (am_wr (mM xs f g t u c s) 150 11 k (.long v)).bind q = q (mM xs f (m_w g 150 k v) t u c s) := bb (m_wj150 h) q
theorem b_l151 (q : Nat → Option β) : (am_ln (mM xs f g t u c s) 151 10).bind q = q 42 := bb (m_l151) q
theorem b_i151 (q : Int32 → Option β) (h : k < 42) : (am_rI (mM xs f g t u c s) 151 10 k).bind q = q (f 151 k) := bb (m_i151 h) q
theorem b_wi151 (q : aM → Option β) {v : Int32} (h : k < 42) : (am_wr (mM xs f g t u c s) 151 10 k (.int v)).bind q = q (mM xs (m_u f 151 k v) g t u c s) := bb (m_wi151 h) q
theorem b_l152 (q : Nat → Option β) : (am_ln (mM xs f g t u c s) 152 11).bind q = q 6 := bb (m_l152) q
theorem b_j152 (q : Int64 → Option β) (h : k < 6) : (am_rJ (mM xs f g t u c s) 152 11 k).bind q = q (g 152 k) := bb (m_j152 h) q
theorem b_wj152 (q : aM → Option β) {v : Int64} (h : k < 6) : (am_wr (mM xs f g t u c s) 152 11 k (.long v)).bind q = q (mM xs f (m_w g 152 k v) t u c s) := bb (m_wj152 h) q
theorem b_l153 (q : Nat → Option β) : (am_ln (mM xs f g t u c s) 153 10).bind q = q 5 := bb (m_l153) q
theorem b_i153 (q : Int32 → Option β) (h : k < 5) : (am_rI (mM xs f g t u c s) 153 10 k).bind q = q (f 153 k) := bb (m_i153 h) q
theorem b_wi153 (q : aM → Option β) {v : Int32} (h : k < 5) : (am_wr (mM xs f g t u c s) 153 10 k (.int v)).bind q = q (mM xs (m_u f 153 k v) g t u c s) := bb (m_wi153 h) q
theorem b_l154 (q : Nat → Option β) : (am_ln (mM xs f g t u c s) 154 12).bind q = q 5 := bb (m_l154) q
theorem b_i154 (q : Int32 → Option β) (h : k < 5) : (am_rI (mM xs f g t u c s) 154 12 k).bind q = q (f 154 k) := bb (m_i154 h) q
theorem b_wi154 (q : aM → Option β) {v : Int32} (h : k < 5) : (am_wr (mM xs f g t u c s) 154 12 k (.int v)).bind q = q (mM xs (m_u f 154 k v) g t u c s) := bb (m_wi154 h) q
theorem b_l155 (q : Nat → Option β) : (am_ln (mM xs f g t u c s) 155 11).bind q = q 5 := bb (m_l155) q
theorem b_j155 (q : Int64 → Option β) (h : k < 5) : (am_rJ (mM xs f g t u c s) 155 11 k).bind q = q (g 155 k) := bb (m_j155 h) q
theorem b_wj155 (q : aM → Option β) {v : Int64} (h : k < 5) : (am_wr (mM xs f g t u c s) 155 11 k (.long v)).bind q = q (mM xs f (m_w g 155 k v) t u c s) := bb (m_wj155 h) q
theorem b_l156 (q : Nat → Option β) : (am_ln (mM xs f g t u c s) 156 11).bind q = q 1 := bb (m_l156) q
theorem b_j156 (q : Int64 → Option β) (h : k < 1) : (am_rJ (mM xs f g t u c s) 156 11 k).bind q = q (g 156 k) := bb (m_j156 h) q
theorem b_wj156 (q : aM → Option β) {v : Int64} (h : k < 1) : (am_wr (mM xs f g t u c s) 156 11 k (.long v)).bind q = q (mM xs f (m_w g 156 k v) t u c s) := bb (m_wj156 h) q
theorem b_l138 (q : Nat → Option β) : (am_ln (mM xs f g t u c s) 138 11).bind q = q 6 := bb (m_l138) q
theorem b_j138 (q : Int64 → Option β) (h : k < 6) : (am_rJ (mM xs f g t u c s) 138 11 k).bind q = q (g 138 k) := bb (m_j138 h) q
theorem b_wj138 (q : aM → Option β) {v : Int64} (h : k < 6) : (am_wr (mM xs f g t u c s) 138 11 k (.long v)).bind q = q (mM xs f (m_w g 138 k v) t u c s) := bb (m_wj138 h) q
theorem b_a5 (q : Nat → Option β) (h : k < 3) : (am_rA (mM xs f g t u c s) 5 14 k).bind q = q (7 + 2 * k) := bb (m_a5 h) q
theorem b_a13 (q : Nat → Option β) (h : k < 6) : (am_rA (mM xs f g t u c s) 13 15 k).bind q = q (14 + 5 * k) := bb (m_a13 h) q
theorem b_a44 (q : Nat → Option β) (h : k < 42) : (am_rA (mM xs f g t u c s) 44 16 k).bind q = q (45 + 2 * k) := bb (m_a44 h) q
theorem b_lA (q : Nat → Option β) {i : Nat} (h : i < 6) : (am_ln (mM xs f g t u c s) (14 + 5 * i) 0).bind q = q 7 := bb (m_lA h) q
theorem b_aA_0 (q : Nat → Option β) {i : Nat} (h : i < 6) : (am_rA (mM xs f g t u c s) (14 + 5 * i) 0 0).bind q = q (15 + 5 * i) := bb (m_aA_0 h) q
theorem b_aA_1 (q : Nat → Option β) {i : Nat} (h : i < 6) : (am_rA (mM xs f g t u c s) (14 + 5 * i) 0 1).bind q = q (17 + 5 * i) := bb (m_aA_1 h) q
theorem b_iA_2 (q : Int32 → Option β) {i : Nat} (h : i < 6) : (am_rI (mM xs f g t u c s) (14 + 5 * i) 0 2).bind q = q (f (14 + 5 * i) 2) := bb (m_iA_2 h) q
theorem b_wiA_2 (q : aM → Option β) {i : Nat} {v : Int32} (h : i < 6) : (am_wr (mM xs f g t u c s) (14 + 5 * i) 0 2 (.int v)).bind q = q (mM xs (m_u f (14 + 5 * i) 2 v) g t u c s) := bb (m_wiA_2 h) q
theorem b_iA_4 (q : Int32 → Option β) {i : Nat} (h : i < 6) : (am_rI (mM xs f g t u c s) (14 + 5 * i) 0 4).bind q = q (f (14 + 5 * i) 4) := bb (m_iA_4 h) q
theorem b_wiA_4 (q : aM → Option β) {i : Nat} {v : Int32} (h : i < 6) : (am_wr (mM xs f g t u c s) (14 + 5 * i) 0 4 (.int v)).bind q = q (mM xs (m_u f (14 + 5 * i) 4 v) g t u c s) := bb (m_wiA_4 h) q
theorem b_iA_5 (q : Int32 → Option β) {i : Nat} (h : i < 6) : (am_rI (mM xs f g t u c s) (14 + 5 * i) 0 5).bind q = q (f (14 + 5 * i) 5) := bb (m_iA_5 h) q
theorem b_wiA_5 (q : aM → Option β) {i : Nat} {v : Int32} (h : i < 6) : (am_wr (mM xs f g t u c s) (14 + 5 * i) 0 5 (.int v)).bind q = q (mM xs (m_u f (14 + 5 * i) 5 v) g t u c s) := bb (m_wiA_5 h) q
theorem b_iA_6 (q : Int32 → Option β) {i : Nat} (h : i < 6) : (am_rI (mM xs f g t u c s) (14 + 5 * i) 0 6).bind q = q (f (14 + 5 * i) 6) := bb (m_iA_6 h) q
theorem b_wiA_6 (q : aM → Option β) {i : Nat} {v : Int32} (h : i < 6) : (am_wr (mM xs f g t u c s) (14 + 5 * i) 0 6 (.int v)).bind q = q (mM xs (m_u f (14 + 5 * i) 6 v) g t u c s) := bb (m_wiA_6 h) q
theorem b_jA_3 (q : Int64 → Option β) {i : Nat} (h : i < 6) : (am_rJ (mM xs f g t u c s) (14 + 5 * i) 0 3).bind q = q (g (14 + 5 * i) 3) := bb (m_jA_3 h) q
theorem b_wjA_3 (q : aM → Option β) {i : Nat} {v : Int64} (h : i < 6) : (am_wr (mM xs f g t u c s) (14 + 5 * i) 0 3 (.long v)).bind q = q (mM xs f (m_w g (14 + 5 * i) 3 v) t u c s) := bb (m_wjA_3 h) q
theorem b_lT (q : Nat → Option β) {T : Nat} (h : mT T) : (am_ln (mM xs f g t u c s) T 6).bind q = q 2 := bb (m_lT h) q
theorem b_lTc (q : Nat → Option β) {T : Nat} (h : mT T) : (am_ln (mM xs f g t u c s) (T + 1) 13).bind q = q 60 := bb (m_lTc h) q
theorem b_aT (q : Nat → Option β) {T : Nat} (h : mT T) : (am_rA (mM xs f g t u c s) T 6 0).bind q = q (T + 1) := bb (m_aT h) q
theorem b_iT (q : Int32 → Option β) {T : Nat} (h : mT T) : (am_rI (mM xs f g t u c s) T 6 1).bind q = q (f T 1) := bb (m_iT h) q
theorem b_wiT (q : aM → Option β) {v : Int32} {T : Nat} (h : mT T) : (am_wr (mM xs f g t u c s) T 6 1 (.int v)).bind q = q (mM xs (m_u f T 1 v) g t u c s) := bb (m_wiT h) q
theorem b_iTc (q : Int32 → Option β) {T : Nat} (h : mT T) (hk : k < 60) : (am_rI (mM xs f g t u c s) (T + 1) 13 k).bind q = q (f (T + 1) k) := bb (m_iTc h hk) q
theorem b_wiTc (q : aM → Option β) {v : Int32} {T : Nat} (h : mT T) (hk : k < 60) : (am_wr (mM xs f g t u c s) (T + 1) 13 k (.int v)).bind q = q (mM xs (m_u f (T + 1) k v) g t u c s) := bb (m_wiTc h hk) q
theorem b_lW (q : Nat → Option β) {W n : Nat} (h : mW W n) : (am_ln (mM xs f g t u c s) W 4).bind q = q 2 := bb (m_lW h) q
theorem b_lWc (q : Nat → Option β) {W n : Nat} (h : mW W n) : (am_ln (mM xs f g t u c s) (W + 1) 11).bind q = q n := bb (m_lWc h) q
theorem b_aW (q : Nat → Option β) {W n : Nat} (h : mW W n) : (am_rA (mM xs f g t u c s) W 4 0).bind q = q (W + 1) := bb (m_aW h) q
theorem b_iW (q : Int32 → Option β) {W n : Nat} (h : mW W n) : (am_rI (mM xs f g t u c s) W 4 1).bind q = q (f W 1) := bb (m_iW h) q
theorem b_wiW (q : aM → Option β) {v : Int32} {W n : Nat} (h : mW W n) : (am_wr (mM xs f g t u c s) W 4 1 (.int v)).bind q = q (mM xs (m_u f W 1 v) g t u c s) := bb (m_wiW h) q
theorem b_jWc (q : Int64 → Option β) {W n : Nat} (h : mW W n) (hk : k < n) : (am_rJ (mM xs f g t u c s) (W + 1) 11 k).bind q = q (g (W + 1) k) := bb (m_jWc h hk) q
theorem b_wjWc (q : aM → Option β) {v : Int64} {W n : Nat} (h : mW W n) (hk : k < n) : (am_wr (mM xs f g t u c s) (W + 1) 11 k (.long v)).bind q = q (mM xs f (m_w g (W + 1) k v) t u c s) := bb (m_wjWc h hk) q
theorem b_rt (q : Nat → Option β) : (am_rA (mM xs f g t u c s) 130 3 0).bind q = q t := bb (m_rt) q
theorem b_ru (q : Nat → Option β) : (am_rA (mM xs f g t u c s) 135 3 0).bind q = q u := bb (m_ru) q
theorem b_wt (q : aM → Option β) {r : Nat} : (am_wr (mM xs f g t u c s) 130 3 0 (.ref r)).bind q = q (mM xs f g r u c s) := bb (m_wt) q
theorem b_wu (q : aM → Option β) {r : Nat} : (am_wr (mM xs f g t u c s) 135 3 0 (.ref r)).bind q = q (mM xs f g t r c s) := bb (m_wu) q
theorem b_0l (q : Nat → Option β) : (am_ln (mM xs f g t u c s) 0 10).bind q = q xs.length := bb (m_0l) q
theorem b_0 (q : Int32 → Option β) (h : k < xs.length) : (am_rI (mM xs f g t u c s) 0 10 k).bind q = q (xs[k]) := bb (m_0 h) q
theorem b_1 (q : Int32 → Option β) (h : k < 5) : (am_rI (mM xs f g t u c s) 1 10 k).bind q = q (m_tens.getD k 0) := bb (m_1 h) q
theorem b_2 (q : Int32 → Option β) (h : k < 5) : (am_rI (mM xs f g t u c s) 2 10 k).bind q = q (m_deep.getD k 0) := bb (m_2 h) q
end BD
