/-! what is made is never unmade: the counts grow -/
def mo_P (r : aR) (f : aL → List Value → aM → Option aR) : Prop := ∀ (L : aL) (st : List Value) (M : aM), f L st M = some r → M.2.1 ≤ r.2.2.1 ∧ M.2.2 ≤ r.2.2.2
def mo_C (cal : aY) : Prop := ∀ (mi : Nat) (as : List Value) (M : aM) (r : aR), cal mi as M = some r → M.2.1 ≤ r.2.2.1 ∧ M.2.2 ≤ r.2.2.2
section MO
variable {r : aR} {cal : aY} {hs : List aH} {J : Nat → aL → List Value → aM → Option aR} {k : aL → List Value → aM → Option aR}
theorem mo_wr {M M' : aM} {a ci f : Nat} {v : Value} (h : am_wr M a ci f v = some M') : M'.2 = M.2 := by
  obtain ⟨fs, -, -, -, rfl⟩ := am_wr_iff.mp h
  rfl
theorem mo_jp (hJ : ∀ z, mo_P r (J z)) {ops : List Nat} {L : aL} {st : List Value} {M : aM} (h : am_jp J ops L st M = some r) : M.2.1 ≤ r.2.2.1 ∧ M.2.2 ≤ r.2.2.2 := by
  obtain ⟨lv, h⟩ := iv_jp h
  exact hJ _ _ _ _ h
theorem mo_cx (hJ : ∀ z, mo_P r (J z)) {x : Nat} {L : aL} {M : aM} : ∀ (hl : aH), am_cx J hl x L M = some r → M.2.1 ≤ r.2.2.1 ∧ M.2.2 ≤ r.2.2.2
  | [], h => nomatch h
  | h :: t, hc => by
    have hc : (bif Nat.beq x h.1 then J h.2.1 (am_pj h.2.2 L) [] M else am_cx J t x L M) = some r := hc
    cases hb : Nat.beq x h.1 with
    | true => rw [hb] at hc; exact hJ _ _ _ _ hc
    | false => rw [hb] at hc; exact mo_cx hJ t hc
theorem mo_ct (hJ : ∀ z, mo_P r (J z)) {x : Nat} {L : aL} {M : aM} {hl : aH} (h : am_ct J some hl x L M = some r) : M.2.1 ≤ r.2.2.1 ∧ M.2.2 ≤ r.2.2.2 := by
  cases hl with
  | nil =>
    have e1 : r = (.inr x, M) := (Option.some.inj h).symm
    subst e1
    exact ⟨Nat.le_refl _, Nat.le_refl _⟩
  | cons a b => exact mo_cx hJ (a :: b) h
theorem mo_iv (hcal : mo_C cal) (hk : mo_P r k) (hJ : ∀ z, mo_P r (J z)) {mm n rk h : Nat} {o : List Nat} {L : aL} {st : List Value} {M : aM} (hh : am_iv cal hs J some (mm :: n :: rk :: h :: o) k L st M = some r) : M.2.1 ≤ r.2.2.1 ∧ M.2.2 ≤ r.2.2.2 := by
  obtain ⟨-, -, out, M1, hc, ⟨v, -, h1⟩ | ⟨x, -, h1⟩⟩ := iv_iv hh
  · have g1 := hcal _ _ _ _ hc
    have g2 := hk _ _ _ h1
    exact ⟨Nat.le_trans g1.1 g2.1, Nat.le_trans g1.2 g2.2⟩
  · have g1 := hcal _ _ _ _ hc
    have g2 := mo_ct hJ h1
    exact ⟨Nat.le_trans g1.1 g2.1, Nat.le_trans g1.2 g2.2⟩
set_option maxHeartbeats 2000000 in
theorem mo_1 (hcal : mo_C cal) (hk : mo_P r k) (hJ : ∀ z, mo_P r (J z)) (i : aI) : mo_P r (am_1 cal hs J some i k) := by
  obtain ⟨ins, len, ops, v⟩ := i
  intro L st M h
  cases ins
  case iconst _ =>
    exact hk _ _ _ h
  case bipush _ =>
    exact hk _ _ _ h
  case sipush _ =>
    exact hk _ _ _ h
  case lconst _ =>
    exact hk _ _ _ h
  case ldc_w _ =>
    exact hk _ _ _ h
  case ldc2_w _ =>
    exact hk _ _ _ h
  case getstatic _ =>
    exact hk _ _ _ h
  case iload_n _ =>
    obtain ⟨x, -, h⟩ := iv_lI h
    exact hk _ _ _ h
  case iload _ =>
    obtain ⟨x, -, h⟩ := iv_lI h
    exact hk _ _ _ h
  case lload_n _ =>
    obtain ⟨x, -, h⟩ := iv_lJ h
    exact hk _ _ _ h
  case lload _ =>
    obtain ⟨x, -, h⟩ := iv_lJ h
    exact hk _ _ _ h
  case aload_n _ =>
    obtain ⟨x, -, h⟩ := iv_lA h
    exact hk _ _ _ h
  case aload _ =>
    obtain ⟨x, -, h⟩ := iv_lA h
    exact hk _ _ _ h
  case istore_n _ =>
    obtain ⟨x, w, -, h⟩ := iv_I1 h
    exact hk _ _ _ h
  case istore _ =>
    obtain ⟨x, w, -, h⟩ := iv_I1 h
    exact hk _ _ _ h
  case lstore_n _ =>
    obtain ⟨x, w, -, h⟩ := iv_J1 h
    exact hk _ _ _ h
  case lstore _ =>
    obtain ⟨x, w, -, h⟩ := iv_J1 h
    exact hk _ _ _ h
  case astore_n _ =>
    obtain ⟨x, w, -, h⟩ := iv_A1 h
    exact hk _ _ _ h
  case astore _ =>
    obtain ⟨x, w, -, h⟩ := iv_A1 h
    exact hk _ _ _ h
  case iinc _ _ =>
    obtain ⟨x, -, h⟩ := iv_lI h
    obtain ⟨y, -, h⟩ := iv_lI h
    exact hk _ _ _ h
  case iadd =>
    obtain ⟨x, y, w, -, h⟩ := iv_I2 h
    exact hk _ _ _ h
  case isub =>
    obtain ⟨x, y, w, -, h⟩ := iv_I2 h
    exact hk _ _ _ h
  case imul =>
    obtain ⟨x, y, w, -, h⟩ := iv_I2 h
    exact hk _ _ _ h
  case iand =>
    obtain ⟨x, y, w, -, h⟩ := iv_I2 h
    exact hk _ _ _ h
  case ior =>
    obtain ⟨x, y, w, -, h⟩ := iv_I2 h
    exact hk _ _ _ h
  case ixor =>
    obtain ⟨x, y, w, -, h⟩ := iv_I2 h
    exact hk _ _ _ h
  case ishl =>
    obtain ⟨x, y, w, -, h⟩ := iv_I2 h
    exact hk _ _ _ h
  case ishr =>
    obtain ⟨x, y, w, -, h⟩ := iv_I2 h
    exact hk _ _ _ h
  case iushr =>
    obtain ⟨x, y, w, -, h⟩ := iv_I2 h
    exact hk _ _ _ h
  case idiv =>
    obtain ⟨x, y, w, -, h⟩ := iv_I2 h
    exact hk _ _ _ (iv_n h).2
  case irem =>
    obtain ⟨x, y, w, -, h⟩ := iv_I2 h
    exact hk _ _ _ (iv_n h).2
  case ladd =>
    obtain ⟨x, y, w, -, h⟩ := iv_J2 h
    exact hk _ _ _ h
  case lsub =>
    obtain ⟨x, y, w, -, h⟩ := iv_J2 h
    exact hk _ _ _ h
  case land =>
    obtain ⟨x, y, w, -, h⟩ := iv_J2 h
    exact hk _ _ _ h
  case lor =>
    obtain ⟨x, y, w, -, h⟩ := iv_J2 h
    exact hk _ _ _ h
  case lcmp =>
    obtain ⟨x, y, w, -, h⟩ := iv_J2 h
    exact hk _ _ _ h
  case lshl =>
    obtain ⟨x, y, w, -, h⟩ := iv_JI h
    exact hk _ _ _ h
  case lshr =>
    obtain ⟨x, y, w, -, h⟩ := iv_JI h
    exact hk _ _ _ h
  case lushr =>
    obtain ⟨x, y, w, -, h⟩ := iv_JI h
    exact hk _ _ _ h
  case ineg =>
    obtain ⟨x, w, -, h⟩ := iv_I1 h
    exact hk _ _ _ h
  case i2l =>
    obtain ⟨x, w, -, h⟩ := iv_I1 h
    exact hk _ _ _ h
  case i2c =>
    obtain ⟨x, w, -, h⟩ := iv_I1 h
    exact hk _ _ _ h
  case l2i =>
    obtain ⟨x, w, -, h⟩ := iv_J1 h
    exact hk _ _ _ h
  case pop2 =>
    obtain ⟨x, w, -, h⟩ := iv_J1 h
    exact hk _ _ _ h
  case dup =>
    obtain ⟨x, w, -, -, h⟩ := iv_dp h
    exact hk _ _ _ h
  case pop =>
    obtain ⟨x, w, -, -, h⟩ := iv_dp h
    exact hk _ _ _ h
  case dup2 =>
    obtain ⟨x, w, -, -, h⟩ := iv_dp h
    obtain ⟨y, w2, -, -, h⟩ := iv_dp h
    exact hk _ _ _ h
  case ifCond c _ =>
    obtain ⟨x, w, -, h⟩ := iv_I1 h
    cases c <;> (dsimp only at h; split at h <;> first | exact mo_jp hJ h | exact hk _ _ _ h)
  case if_icmp c _ =>
    obtain ⟨x, y, w, -, h⟩ := iv_I2 h
    cases c <;> (dsimp only at h; split at h <;> first | exact mo_jp hJ h | exact hk _ _ _ h)
  case goto _ =>
    exact mo_jp hJ h
  case nop =>
    exact mo_jp hJ h
  case tableswitch _ _ _ _ =>
    obtain ⟨x, w, -, h⟩ := iv_I1 h
    split at h
    · rcases iv_sw _ _ h with ⟨i, t, -, -, h⟩ | ⟨-, h⟩
      · exact hJ _ _ _ _ h
      · exact hJ _ _ _ _ h
    · exact nomatch h
  case getfield _ =>
    obtain ⟨a, w, -, h⟩ := iv_A1 h
    split at h
    · split at h
      · obtain ⟨x, -, h⟩ := iv_b h
        exact hk _ _ _ h
      · obtain ⟨x, -, h⟩ := iv_b h
        exact hk _ _ _ h
      · obtain ⟨x, -, h⟩ := iv_b h
        exact hk _ _ _ h
    · exact nomatch h
  case putfield _ =>
    simp only [am_1] at h
    split at h
    · split at h
      · obtain ⟨-, h⟩ := iv_c h
        obtain ⟨M', h1, h⟩ := iv_b h
        have := hk _ _ _ h
        rw [mo_wr h1] at this
        exact this
      · exact nomatch h
    · exact nomatch h
  case iaload =>
    obtain ⟨x, w, -, h⟩ := iv_I1 h
    obtain ⟨a, w2, -, h⟩ := iv_A1 h
    obtain ⟨j, -, h⟩ := iv_b h
    obtain ⟨y, -, h⟩ := iv_b h
    exact hk _ _ _ h
  case laload =>
    obtain ⟨x, w, -, h⟩ := iv_I1 h
    obtain ⟨a, w2, -, h⟩ := iv_A1 h
    obtain ⟨j, -, h⟩ := iv_b h
    obtain ⟨y, -, h⟩ := iv_b h
    exact hk _ _ _ h
  case baload =>
    obtain ⟨x, w, -, h⟩ := iv_I1 h
    obtain ⟨a, w2, -, h⟩ := iv_A1 h
    obtain ⟨j, -, h⟩ := iv_b h
    obtain ⟨y, -, h⟩ := iv_b h
    exact hk _ _ _ h
  case caload =>
    obtain ⟨x, w, -, h⟩ := iv_I1 h
    obtain ⟨a, w2, -, h⟩ := iv_A1 h
    obtain ⟨j, -, h⟩ := iv_b h
    obtain ⟨y, -, h⟩ := iv_b h
    exact hk _ _ _ h
  case aaload =>
    obtain ⟨x, w, -, h⟩ := iv_I1 h
    obtain ⟨a, w2, -, h⟩ := iv_A1 h
    obtain ⟨j, -, h⟩ := iv_b h
    obtain ⟨y, -, h⟩ := iv_b h
    exact hk _ _ _ h
  case iastore =>
    obtain ⟨y, w0, -, h⟩ := iv_I1 h
    obtain ⟨x, w, -, h⟩ := iv_I1 h
    obtain ⟨a, w2, -, h⟩ := iv_A1 h
    obtain ⟨j, -, h⟩ := iv_b h
    obtain ⟨M', h1, h⟩ := iv_b h
    have := hk _ _ _ h
    rw [mo_wr h1] at this
    exact this
  case lastore =>
    obtain ⟨y, w0, -, h⟩ := iv_J1 h
    obtain ⟨x, w, -, h⟩ := iv_I1 h
    obtain ⟨a, w2, -, h⟩ := iv_A1 h
    obtain ⟨j, -, h⟩ := iv_b h
    obtain ⟨M', h1, h⟩ := iv_b h
    have := hk _ _ _ h
    rw [mo_wr h1] at this
    exact this
  case bastore =>
    obtain ⟨y, w0, -, h⟩ := iv_I1 h
    obtain ⟨x, w, -, h⟩ := iv_I1 h
    obtain ⟨a, w2, -, h⟩ := iv_A1 h
    obtain ⟨j, -, h⟩ := iv_b h
    obtain ⟨M', h1, h⟩ := iv_b h
    have := hk _ _ _ h
    rw [mo_wr h1] at this
    exact this
  case castore =>
    obtain ⟨y, w0, -, h⟩ := iv_I1 h
    obtain ⟨x, w, -, h⟩ := iv_I1 h
    obtain ⟨a, w2, -, h⟩ := iv_A1 h
    obtain ⟨j, -, h⟩ := iv_b h
    obtain ⟨M', h1, h⟩ := iv_b h
    have := hk _ _ _ h
    rw [mo_wr h1] at this
    exact this
  case aastore =>
    obtain ⟨y, w0, -, h⟩ := iv_A1 h
    obtain ⟨x, w, -, h⟩ := iv_I1 h
    obtain ⟨a, w2, -, h⟩ := iv_A1 h
    obtain ⟨n9, -, h⟩ := iv_b h
    obtain ⟨j, -, h⟩ := iv_b h
    obtain ⟨M', h1, h⟩ := iv_b h
    have := hk _ _ _ h
    rw [mo_wr h1] at this
    exact this
  case arraylength =>
    obtain ⟨a, w, -, h⟩ := iv_A1 h
    obtain ⟨n9, -, h⟩ := iv_b h
    exact hk _ _ _ h
  case newarray _ =>
    obtain ⟨x, w, -, h⟩ := iv_I1 h
    obtain ⟨j, -, h⟩ := iv_b h
    obtain ⟨-, h⟩ := iv_c h
    have := hk _ _ _ h
    exact ⟨Nat.le_trans (Nat.le_add_right _ _) this.1, Nat.le_trans (Nat.le_add_right _ _) this.2⟩
  case anewarray _ =>
    obtain ⟨x, w, -, h⟩ := iv_I1 h
    obtain ⟨j, -, h⟩ := iv_b h
    obtain ⟨-, h⟩ := iv_c h
    have := hk _ _ _ h
    exact ⟨Nat.le_trans (Nat.le_add_right _ _) this.1, Nat.le_trans (Nat.le_add_right _ _) this.2⟩
  case new _ =>
    simp only [am_1] at h
    split at h
    · rename_i ci x t
      cases hb : Nat.beq ci 999 with
      | true =>
        rw [hb] at h
        obtain ⟨-, h⟩ := iv_c (show (bif _ then some (.inr x, am_tk M 1 6) else none) = some r from h)
        have e1 := (Option.some.inj h).symm
        subst e1
        exact ⟨Nat.le_add_right _ _, Nat.le_add_right _ _⟩
      | false =>
        rw [hb] at h
        have := hk _ _ _ (show k L (.ref M.1.length :: st) (am_nw M ci (am_df ci)) = some r from h)
        exact ⟨Nat.le_trans (Nat.le_add_right _ _) this.1, Nat.le_trans (Nat.le_add_right _ _) this.2⟩
    · exact nomatch h
  case invokevirtual _ =>
    simp only [am_1] at h
    split at h
    · split at h
      · obtain ⟨nn, -, h⟩ := iv_b h
        exact mo_iv hcal hk hJ h
      · exact nomatch h
    · exact nomatch h
  case invokestatic _ =>
    simp only [am_1] at h
    split at h
    · obtain ⟨n, u1, -, z1⟩ := iv_I1 h
      obtain ⟨dp, u2, -, z2⟩ := iv_I1 z1
      obtain ⟨b, u3, -, z3⟩ := iv_A1 z2
      obtain ⟨sp, u4, -, z4⟩ := iv_I1 z3
      obtain ⟨a, w, -, z5⟩ := iv_A1 z4
      obtain ⟨-, z6⟩ := iv_c z5
      split at z6
      · obtain ⟨j, -, z7⟩ := iv_b z6
        obtain ⟨M', hcp, z8⟩ := iv_b z7
        unfold am_cp at hcp
        obtain ⟨c1, -, hcp⟩ := iv_b hcp
        obtain ⟨c2, -, hcp⟩ := iv_b hcp
        obtain ⟨-, hcp⟩ := iv_c hcp
        have e1 := (Option.some.inj hcp).symm
        subst e1
        have g9 := hk _ _ _ z8
        exact g9
      · exact nomatch z6
    · obtain ⟨x, w, -, h⟩ := iv_I1 h
      obtain ⟨-, h⟩ := iv_c h
      exact hk _ _ _ h
    · match ops, h with
      | mm :: n :: rk :: hh :: o, h => exact mo_iv hcal hk hJ h
      | [], h => exact nomatch h
      | [_], h => exact nomatch h
      | [_, _], h => exact nomatch h
      | [_, _, _], h => exact nomatch h
  case invokespecial _ =>
    simp only [am_1] at h
    split at h
    · obtain ⟨x, w, -, h⟩ := iv_A1 h
      obtain ⟨-, h⟩ := iv_c h
      exact hk _ _ _ h
    · split at h
      · obtain ⟨-, h⟩ := iv_c h
        obtain ⟨out, M1, hc, ⟨-, h1⟩ | ⟨x, -, h1⟩⟩ := iv_cV h
        · have g1 := hcal _ _ _ _ hc
          have g2 := hk _ _ _ h1
          exact ⟨Nat.le_trans g1.1 g2.1, Nat.le_trans g1.2 g2.2⟩
        · exact nomatch h1
      · exact nomatch h
    · exact nomatch h
  case ireturn =>
    simp only [am_1] at h
    split at h
    · obtain ⟨-, h⟩ := iv_c h
      have e1 := (Option.some.inj h).symm
      subst e1
      exact ⟨Nat.le_refl _, Nat.le_refl _⟩
    · exact nomatch h
  case lreturn =>
    simp only [am_1] at h
    split at h
    · have e1 := (Option.some.inj h).symm
      subst e1
      exact ⟨Nat.le_refl _, Nat.le_refl _⟩
    · exact nomatch h
  case areturn =>
    simp only [am_1] at h
    split at h
    · have e1 := (Option.some.inj h).symm
      subst e1
      exact ⟨Nat.le_refl _, Nat.le_refl _⟩
    · exact nomatch h
  case return_ =>
    simp only [am_1] at h
    split at h
    · have e1 := (Option.some.inj h).symm
      subst e1
      exact ⟨Nat.le_refl _, Nat.le_refl _⟩
    · exact nomatch h
  all_goals exact nomatch (show (none : Option aR) = some r from h)
theorem mo_go (hcal : mo_C cal) (hJ : ∀ z, mo_P r (J z)) : ∀ (is : List aI), mo_P r (am_go cal hs J some is)
  | [] => fun _ _ _ h => nomatch h
  | i :: t => mo_1 hcal (mo_go hcal hJ t) hJ i
end MO
theorem mo_ex {cal : aY} (hcal : mo_C cal) (K : aK) (r : aR) : ∀ (n pc : Nat), mo_P r (am_ex cal K n pc)
  | 0, _ => fun _ _ _ h => nomatch h
  | n + 1, pc => mo_go hcal (mo_ex hcal K r n) (am_bk K.1 pc)
theorem mo_Y : ∀ d, mo_C (am_Y d)
  | 0 => fun _ _ _ _ h => nomatch h
  | d + 1 => fun mi as M r h => by
    obtain ⟨-, h⟩ := iv_c (show (bif Nat.ble (am_cs as) (am_ML.getD mi 0) then am_X (am_Y d) (am_K mi) 0 (am_pj (am_K mi).2.2 (am_ar 0 as)) [] M else none) = some r from h)
    obtain ⟨n, hn⟩ := am_X_iff.mp h
    exact mo_ex (mo_Y d) (am_K mi) r n 0 _ _ _ hn
