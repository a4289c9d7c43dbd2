/-! THE LAW AT THE MACHINE: what the tables and the start say -/
section TI
variable {s : State} {args : Array Value}
theorem ti_prim {ty : FieldType} (h : (Cond.arrayClass ty).before args s = true) : ∃ c, ArrOfT s c ty ∧ s.vm.findClass ("[" ++ ty.toString) = some c := by
  obtain ⟨c, k, comp, h1, h2, h3⟩ := Cond.arrayClass_spec h
  exact ⟨c, fun n z => ⟨(fun k h => nomatch h), k, h2, comp, h3⟩, h1⟩
theorem ti_obj {C : String} (h : (Cond.arrayOver (.object C)).before args s = true) : ∃ c, ArrOfT s c (.object C) ∧ va_RA s c (.object C) := by
  obtain ⟨comp, c, k, h1, h2, h3, h4, h5⟩ := Cond.arrayOver_spec h
  exact ⟨c, fun n z => ⟨(fun k h => nomatch h), k, h3, comp, h4⟩, k, comp, h3, h4, h1, h5⟩
theorem ti_An (h : ∀ w ∈ lw_tbl, w.before args s = true) : ∃ cA : Nat → ClassId, ac_An cA s := by
  have h0 : ∀ kd : Nat, ∃ c : ClassId, 10 ≤ kd → kd < 17 → ArrOfT s c (ac_ty kd) ∧ va_RA s c (ac_ty kd) := by
    intro kd
    by_cases h10 : kd = 10
    · subst h10; obtain ⟨c, a, b⟩ := ti_prim (h (.arrayClass .int) (by decide +kernel)); exact ⟨c, fun _ _ => ⟨a, b⟩⟩
    by_cases h11 : kd = 11
    · subst h11; obtain ⟨c, a, b⟩ := ti_prim (h (.arrayClass .long) (by decide +kernel)); exact ⟨c, fun _ _ => ⟨a, b⟩⟩
    by_cases h12 : kd = 12
    · subst h12; obtain ⟨c, a, b⟩ := ti_prim (h (.arrayClass .boolean) (by decide +kernel)); exact ⟨c, fun _ _ => ⟨a, b⟩⟩
    by_cases h13 : kd = 13
    · subst h13; obtain ⟨c, a, b⟩ := ti_prim (h (.arrayClass .char) (by decide +kernel)); exact ⟨c, fun _ _ => ⟨a, b⟩⟩
    by_cases h14 : kd = 14
    · subst h14; obtain ⟨c, a⟩ := ti_obj (h (.arrayOver (.object "ActorMachine$Text")) (by decide +kernel)); exact ⟨c, fun _ _ => a⟩
    by_cases h15 : kd = 15
    · subst h15; obtain ⟨c, a⟩ := ti_obj (h (.arrayOver (.object "ActorMachine$Actor")) (by decide +kernel)); exact ⟨c, fun _ _ => a⟩
    by_cases h16 : kd = 16
    · subst h16; obtain ⟨c, a⟩ := ti_obj (h (.arrayOver (.object "ActorMachine$Row")) (by decide +kernel)); exact ⟨c, fun _ _ => a⟩
    exact ⟨0, fun a b => absurd b (by omega)⟩
  obtain ⟨cA, hc⟩ := Classical.axiomOfChoice h0
  exact ⟨cA, hc⟩
theorem ti_w1 : ∀ ci, ci < 10 → Cond.instantiable (ac_C ci) (ac_N ci) ∈ lw_tbl := by decide +kernel
theorem ti_w2 : ∀ ci, ci < 10 → ∀ k, k < ac_N ci → (Cond.lays (ac_C ci) (ac_T ci k).1 (ac_T ci k).2.1 (ac_T ci k).2.2.1 ∈ lw_tbl ∨ Cond.laysFinal (ac_C ci) (ac_T ci k).1 (ac_T ci k).2.1 (ac_T ci k).2.2.1 ∈ lw_tbl) := by decide +kernel
theorem ti_Kn (h : ∀ w ∈ lw_tbl, w.before args s = true) : ∃ D : va_G, ac_Kn D s := by
  have h0 : ∀ ci : Nat, ∃ q : ClassId × (Nat → Nat), ci < 10 → u_Kn s (ac_C ci) (ac_T ci) (ac_N ci) q.1 q.2 := by
    intro ci
    by_cases hc : ci < 10
    · obtain ⟨cC, hC⟩ := classAt_of (h _ (ti_w1 ci hc))
      have h1 : ∀ k : Nat, ∃ i : Nat, k < ac_N ci → SlotIs s (ac_T ci k).1 (ac_T ci k).2.1 (ac_T ci k).2.2.1 i := by
        intro k
        by_cases hk : k < ac_N ci
        · obtain ⟨i, hi⟩ := u_found ((ti_w2 ci hc k hk).imp (h _) (h _))
          exact ⟨i, fun _ => hi⟩
        · exact ⟨0, fun h => absurd h hk⟩
      obtain ⟨iS, hi⟩ := Classical.axiomOfChoice h1
      exact ⟨(cC, iS), fun _ => ⟨hi, hC⟩⟩
    · exact ⟨(0, fun _ => 0), fun h => absurd h hc⟩
  obtain ⟨D, hD⟩ := Classical.axiomOfChoice h0
  exact ⟨(fun ci => (D ci).1, fun ci => (D ci).2), hD⟩
theorem ti_Nc (h : (Jvm.Cond.and given_1 narrow_1).before args s = true) : ∀ e e' : Nat, e < 5 → e' < 5 → e ≠ e' → va_Nc (ac_E e) (ac_E e') s := by
  have w : ∀ e, e < 5 → ∀ e', e' < 5 → e ≠ e' → Cond.not (.castable (ac_E e) (ac_E e')) ∈ flatC (Jvm.Cond.and given_1 narrow_1) := by decide +kernel
  exact fun e e' h1 h2 h3 => va_Nc.of (flat_of_before _ h _ (w e h1 e' h2 h3))
theorem ti_str (h : ∀ w ∈ lw_tbl, w.before args s = true) : ∃ sa : Nat → Nat, ∀ q ∈ am_str, vk_R "ActorMachine" q.1 q.2 (sa q.1) s := by
  have w : ∀ q ∈ am_str, Cond.stringRef "ActorMachine" q.1 q.2 ∈ lw_tbl := by decide +kernel
  have hi := h (.initialized "ActorMachine") (by decide +kernel)
  have h0 : ∀ i : Nat, ∃ a : Nat, ∀ q ∈ am_str, q.1 = i → vk_R "ActorMachine" q.1 q.2 a s := by
    intro i
    by_cases hq : ∃ q ∈ am_str, q.1 = i
    · obtain ⟨q, hq, rfl⟩ := hq
      have h1 := h _ (w q hq)
      have hcur : ∃ cur, s.vm.findClass "ActorMachine" = some cur := by
        have h2 := h1
        simp only [Cond.before, Cond.holds, Cond.value] at h2
        cases hc : s.vm.findClass "ActorMachine" with
        | none => simp [hc] at h2
        | some cur => exact ⟨cur, rfl⟩
      obtain ⟨cur, hcur⟩ := hcur
      obtain ⟨k, cf, i, a, -, -, -, -, -, he⟩ := Cond.stringRef_spec hcur h1
      refine ⟨a, fun q' hq' e => ?_⟩
      have hu : ∀ q ∈ am_str, ∀ q' ∈ am_str, q'.1 = q.1 → q' = q := by decide +kernel
      have := hu q hq q' hq' e
      subst this
      exact vk_R.of h1 he
    · exact ⟨0, fun q h1 h2 => absurd ⟨q, h1, h2⟩ hq⟩
  obtain ⟨sa, hsa⟩ := Classical.axiomOfChoice h0
  exact ⟨sa, fun q hq => hsa q.1 q hq rfl⟩
theorem ti_arr {n : String} {l : List Int32} (hl : l.length = 5) (h : ∀ w ∈ lw_tbl, w.before args s = true) (hg : (Jvm.Cond.and given_1 narrow_1).before args s = true)
    (w1 : Cond.arrayOf (.static "ActorMachine$Term" n "[I") .int ∈ flatC (Jvm.Cond.and given_1 narrow_1)) (w2 : Cond.eq (.length (.static "ActorMachine$Term" n "[I")) (.int 5) ∈ flatC (Jvm.Cond.and given_1 narrow_1)) (w3 : ∀ j, j < 5 → Cond.eq (.elem (.static "ActorMachine$Term" n "[I") (.int (Int32.ofNat j))) (.int (l.getD j 0)) ∈ flatC (Jvm.Cond.and given_1 narrow_1)) (w4 : Cond.laysStatic "ActorMachine$Term" n "[I" ∈ lw_tbl) :
    ∃ t : Nat, va_Z "ActorMachine$Term" n "[I" (.ref t) (ac_A s.heap.size) s s.heap ∧ va_T .int t 5 (fun j => .int (l.getD j 0)) (ac_A s.heap.size) s s.heap := by
  have hs := flat_of_before _ hg
  have hA : ∀ a : Nat, a < s.heap.size → ¬ ac_A s.heap.size a := fun a h1 h2 => absurd h1 (Nat.not_lt.mpr h2)
  obtain ⟨t, ht, hT⟩ := va_Tof (f := fun j => .int (l.getD j 0)) (A := ac_A s.heap.size) (N := 5) (by decide) (hs _ w1) (va_eqt (hs _ w2)) (fun j hj => va_eqt (hs _ (w3 j hj))) hA
  exact ⟨t, va_Zref (h _ w4) (h (.initialized "ActorMachine$Term") (by decide +kernel)) ht hA, hT⟩
theorem ti_G (h : ∀ w ∈ lw_tbl, w.before args s = true) (hg : (Jvm.Cond.and given_1 narrow_1).before args s = true) : ∃ (D : va_G) (cA : Nat → ClassId) (t1 t2 : Nat) (sa : Nat → Nat), ac_G D cA s.heap.size t1 t2 sa s s.heap ∧ va_T .int t1 5 (fun j => .int (m_tens.getD j 0)) (ac_A s.heap.size) s s.heap ∧ va_T .int t2 5 (fun j => .int (m_deep.getD j 0)) (ac_A s.heap.size) s s.heap := by
  have hs := flat_of_before _ hg
  have hA : ∀ a : Nat, a < s.heap.size → ¬ ac_A s.heap.size a := fun a h1 h2 => absurd h1 (Nat.not_lt.mpr h2)
  obtain ⟨D, hD⟩ := ti_Kn h
  obtain ⟨cA, hc⟩ := ti_An h
  obtain ⟨sa, hsa⟩ := ti_str h
  obtain ⟨t1, z1, T1⟩ := ti_arr (n := "TENS") (l := m_tens) rfl h hg (by decide +kernel) (by decide +kernel) (by decide +kernel) (by decide +kernel)
  obtain ⟨t2, z2, T2⟩ := ti_arr (n := "DEEPER") (l := m_deep) rfl h hg (by decide +kernel) (by decide +kernel) (by decide +kernel) (by decide +kernel)
  have hi := h (.initialized Bundle.tN) (by decide +kernel)
  have q1 := vx_Zqof (A := ac_A s.heap.size) (h (.laysStatic Bundle.tN "UNASSIGNED_STACK" Bundle.steD) (by decide +kernel)) hi (hs _ (by decide +kernel)) hA
  have q2 := vx_Zqof (A := ac_A s.heap.size) (h (.laysStatic Bundle.tN "SUPPRESSED_SENTINEL" Bundle.listD) (by decide +kernel)) hi (hs _ (by decide +kernel)) hA
  exact ⟨D, cA, t1, t2, sa, ⟨fun w hw ho => am_okw_at (State.WarmedH.refl s) ho (h w hw), hD, hc, z1, z2, q1, q2, hsa, ti_Nc hg⟩, T1, T2⟩
end TI
