/-! WHAT EVERY REACHED STATE KEEPS (written by a program) -/
theorem wf_tr {S : sS2} {i v : Nat} (hi6 : i < 6) (hal : S.1 1 i = 1) (hv : v ≤ 1) (h : wf S) : wf (aU S.1 2 i v, S.2) := by
  obtain ⟨hb, h1, h2, h3, h4, h5, h6, h7, h8⟩ := h
  refine ⟨bd_u hb ⟨by omega, fun _ => hv, by omega, by omega, by omega, by omega, by omega⟩, ?_, ?_, ?_, ?_, ?_, ?_, ?_, ?_⟩
  · show ∀ z, z < 6 → ¬ (aU S.1 2 i v) 1 z = 1 → (aU S.1 2 i v) 2 z = 0 ∧ (aU S.1 2 i v) 5 z = 0 ∧ S.2 0 z = (10, [])
    exact fun j hj e => by rw [aU_n (by omega)] at e; have : ¬ j = i := (fun q => e (by rw [q]; exact hal)); rw [aU_n (by omega), aU_n (by omega)]; exact h1 j hj e
  · show ∀ z, z < 6 → (aU S.1 2 i v) 1 z = 1 → tv (S.2 0 z).1 (S.2 0 z).2
    exact fun i hi e => by rw [aU_n (by omega)] at e; exact h2 i hi e
  · show ∀ z, z < 6 → (aU S.1 2 i v) 1 z = 2 → (aU S.1 2 i v) 3 z < 2013
    exact fun i hi e => by rw [aU_n (by omega)] at e; rw [aU_n (by omega)]; exact h3 i hi e
  · show ∀ z, z < 6 → (aU S.1 2 i v) 4 z / 2 ^ z % 2 = 0
    exact fun i hi => by rw [aU_n (by omega)]; exact h4 i hi
  · show ∀ z, z < 6 → ∀ y, y < (aU S.1 2 i v) 5 z → tv (S.2 (1 + z) y).1 (S.2 (1 + z) y).2
    exact fun i hi k e => by rw [aU_n (by omega)] at e; exact h5 i hi k e
  · show ∀ z, z < 42 → ∀ y, y < (aU S.1 2 i v) 6 z → thv z (S.2 (10 + z) y)
    exact fun i hi k e => by rw [aU_n (by omega)] at e; exact h6 i hi k e
  · show ∀ z, z < 3 → ¬ (aU S.1 2 i v) 0 z = 0 → pAll (fun y => nI ((aU S.1 2 i v) (10 + z) y)) ((aU S.1 2 i v) 7 z) 60 0 = none
    intro z hz e; rw [aU_n (by omega)] at e; rw [show (fun k => nI ((aU S.1 2 i v) (10 + z) k)) = (fun k => nI (S.1 (10 + z) k)) from (by funext k; rw [aU_n (by omega)]), aU_n (by omega)]; exact h7 z hz e
  · show ∀ z, z < 6 → (aU S.1 2 i v) 1 z = 1 → pAll (fun y => nI ((aU S.1 2 i v) (13 + z) y)) ((aU S.1 2 i v) 7 (3 + z)) 60 0 = none
    intro z hz e; rw [aU_n (by omega)] at e; rw [show (fun k => nI ((aU S.1 2 i v) (13 + z) k)) = (fun k => nI (S.1 (13 + z) k)) from (by funext k; rw [aU_n (by omega)]), aU_n (by omega)]; exact h8 z hz e
theorem wf_sa {S : sS2} {i : Nat} {v : sTm} (hi6 : i < 6) (hal : S.1 1 i = 1) (hv : tv v.1 v.2) (h : wf S) : wf (S.1, bU S.2 0 i v) := by
  obtain ⟨hb, h1, h2, h3, h4, h5, h6, h7, h8⟩ := h
  refine ⟨hb, ?_, ?_, ?_, ?_, ?_, ?_, ?_, ?_⟩
  · show ∀ z, z < 6 → ¬ S.1 1 z = 1 → S.1 2 z = 0 ∧ S.1 5 z = 0 ∧ (bU S.2 0 i v) 0 z = (10, [])
    exact fun j hj e => by have : ¬ j = i := (fun q => e (by rw [q]; exact hal)); rw [bU_n (by omega)]; exact h1 j hj e
  · show ∀ z, z < 6 → S.1 1 z = 1 → tv ((bU S.2 0 i v) 0 z).1 ((bU S.2 0 i v) 0 z).2
    exact fun j hj e => if q : j = i then (by subst q; rw [bU_s]; exact hv) else (by rw [bU_n (by omega)]; exact h2 j hj e)
  · show ∀ z, z < 6 → S.1 1 z = 2 → S.1 3 z < 2013
    exact fun i hi e => by exact h3 i hi e
  · show ∀ z, z < 6 → S.1 4 z / 2 ^ z % 2 = 0
    exact fun i hi => by exact h4 i hi
  · show ∀ z, z < 6 → ∀ y, y < S.1 5 z → tv ((bU S.2 0 i v) (1 + z) y).1 ((bU S.2 0 i v) (1 + z) y).2
    exact fun i hi k e => by rw [bU_n (by omega)]; exact h5 i hi k e
  · show ∀ z, z < 42 → ∀ y, y < S.1 6 z → thv z ((bU S.2 0 i v) (10 + z) y)
    exact fun i hi k e => by rw [bU_n (by omega)]; exact h6 i hi k e
  · show ∀ z, z < 3 → ¬ S.1 0 z = 0 → pAll (fun y => nI (S.1 (10 + z) y)) (S.1 7 z) 60 0 = none
    exact h7
  · show ∀ z, z < 6 → S.1 1 z = 1 → pAll (fun y => nI (S.1 (13 + z) y)) (S.1 7 (3 + z)) 60 0 = none
    exact h8
theorem wf_put1 {S : sS2} {j : Nat} {x : sTm} (hx : thv j x) (hj : j < 42) (hc : S.1 6 j < 8) (h : wf S) : wf (aU S.1 6 j (S.1 6 j + 1), bU S.2 (10 + j) (S.1 6 j) x) := by
  obtain ⟨hb, h1, h2, h3, h4, h5, h6, h7, h8⟩ := h
  refine ⟨bd_u hb ⟨by omega, by omega, by omega, by omega, by omega, by omega, by omega⟩, ?_, ?_, ?_, ?_, ?_, ?_, ?_, ?_⟩
  · show ∀ z, z < 6 → ¬ (aU S.1 6 j (S.1 6 j + 1)) 1 z = 1 → (aU S.1 6 j (S.1 6 j + 1)) 2 z = 0 ∧ (aU S.1 6 j (S.1 6 j + 1)) 5 z = 0 ∧ (bU S.2 (10 + j) (S.1 6 j) x) 0 z = (10, [])
    exact fun i hi e => by rw [aU_n (by omega)] at e; rw [aU_n (by omega), aU_n (by omega), bU_n (by omega)]; exact h1 i hi e
  · show ∀ z, z < 6 → (aU S.1 6 j (S.1 6 j + 1)) 1 z = 1 → tv ((bU S.2 (10 + j) (S.1 6 j) x) 0 z).1 ((bU S.2 (10 + j) (S.1 6 j) x) 0 z).2
    exact fun i hi e => by rw [aU_n (by omega)] at e; rw [bU_n (by omega)]; exact h2 i hi e
  · show ∀ z, z < 6 → (aU S.1 6 j (S.1 6 j + 1)) 1 z = 2 → (aU S.1 6 j (S.1 6 j + 1)) 3 z < 2013
    exact fun i hi e => by rw [aU_n (by omega)] at e; rw [aU_n (by omega)]; exact h3 i hi e
  · show ∀ z, z < 6 → (aU S.1 6 j (S.1 6 j + 1)) 4 z / 2 ^ z % 2 = 0
    exact fun i hi => by rw [aU_n (by omega)]; exact h4 i hi
  · show ∀ z, z < 6 → ∀ y, y < (aU S.1 6 j (S.1 6 j + 1)) 5 z → tv ((bU S.2 (10 + j) (S.1 6 j) x) (1 + z) y).1 ((bU S.2 (10 + j) (S.1 6 j) x) (1 + z) y).2
    exact fun i hi k e => by rw [aU_n (by omega)] at e; rw [bU_n (by omega)]; exact h5 i hi k e
  · show ∀ z, z < 42 → ∀ y, y < (aU S.1 6 j (S.1 6 j + 1)) 6 z → thv z ((bU S.2 (10 + j) (S.1 6 j) x) (10 + z) y)
    exact fun q hq k e => if r : q = j then (by subst r; rw [aU_s] at e; exact if z : k = S.1 6 q then (by rw [z, bU_s]; exact hx) else (by rw [bU_n (by omega)]; exact h6 q hq k (by omega))) else (by rw [aU_n (by omega)] at e; rw [bU_n (by omega)]; exact h6 q hq k e)
  · show ∀ z, z < 3 → ¬ (aU S.1 6 j (S.1 6 j + 1)) 0 z = 0 → pAll (fun y => nI ((aU S.1 6 j (S.1 6 j + 1)) (10 + z) y)) ((aU S.1 6 j (S.1 6 j + 1)) 7 z) 60 0 = none
    intro z hz e; rw [aU_n (by omega)] at e; rw [show (fun k => nI ((aU S.1 6 j (S.1 6 j + 1)) (10 + z) k)) = (fun k => nI (S.1 (10 + z) k)) from (by funext k; rw [aU_n (by omega)]), aU_n (by omega)]; exact h7 z hz e
  · show ∀ z, z < 6 → (aU S.1 6 j (S.1 6 j + 1)) 1 z = 1 → pAll (fun y => nI ((aU S.1 6 j (S.1 6 j + 1)) (13 + z) y)) ((aU S.1 6 j (S.1 6 j + 1)) 7 (3 + z)) 60 0 = none
    intro z hz e; rw [aU_n (by omega)] at e; rw [show (fun k => nI ((aU S.1 6 j (S.1 6 j + 1)) (13 + z) k)) = (fun k => nI (S.1 (13 + z) k)) from (by funext k; rw [aU_n (by omega)]), aU_n (by omega)]; exact h8 z hz e
theorem wf_mput {S : sS2} {i : Nat} {x : sTm} (hi6 : i < 6) (hal : S.1 1 i = 1) (hx : tv x.1 x.2) (hc : S.1 5 i < 6) (h : wf S) : wf (aU S.1 5 i (S.1 5 i + 1), bU S.2 (1 + i) (S.1 5 i) x) := by
  obtain ⟨hb, h1, h2, h3, h4, h5, h6, h7, h8⟩ := h
  refine ⟨bd_u hb ⟨by omega, by omega, by omega, by omega, by omega, by omega, by omega⟩, ?_, ?_, ?_, ?_, ?_, ?_, ?_, ?_⟩
  · show ∀ z, z < 6 → ¬ (aU S.1 5 i (S.1 5 i + 1)) 1 z = 1 → (aU S.1 5 i (S.1 5 i + 1)) 2 z = 0 ∧ (aU S.1 5 i (S.1 5 i + 1)) 5 z = 0 ∧ (bU S.2 (1 + i) (S.1 5 i) x) 0 z = (10, [])
    exact fun j hj e => by rw [aU_n (by omega)] at e; have : ¬ j = i := (fun q => e (by rw [q]; exact hal)); rw [aU_n (by omega), aU_n (by omega), bU_n (by omega)]; exact h1 j hj e
  · show ∀ z, z < 6 → (aU S.1 5 i (S.1 5 i + 1)) 1 z = 1 → tv ((bU S.2 (1 + i) (S.1 5 i) x) 0 z).1 ((bU S.2 (1 + i) (S.1 5 i) x) 0 z).2
    exact fun i hi e => by rw [aU_n (by omega)] at e; rw [bU_n (by omega)]; exact h2 i hi e
  · show ∀ z, z < 6 → (aU S.1 5 i (S.1 5 i + 1)) 1 z = 2 → (aU S.1 5 i (S.1 5 i + 1)) 3 z < 2013
    exact fun i hi e => by rw [aU_n (by omega)] at e; rw [aU_n (by omega)]; exact h3 i hi e
  · show ∀ z, z < 6 → (aU S.1 5 i (S.1 5 i + 1)) 4 z / 2 ^ z % 2 = 0
    exact fun i hi => by rw [aU_n (by omega)]; exact h4 i hi
  · show ∀ z, z < 6 → ∀ y, y < (aU S.1 5 i (S.1 5 i + 1)) 5 z → tv ((bU S.2 (1 + i) (S.1 5 i) x) (1 + z) y).1 ((bU S.2 (1 + i) (S.1 5 i) x) (1 + z) y).2
    exact fun q hq k e => if r : q = i then (by subst r; rw [aU_s] at e; exact if z : k = S.1 5 q then (by rw [z, bU_s]; exact hx) else (by rw [bU_n (by omega)]; exact h5 q hq k (by omega))) else (by rw [aU_n (by omega)] at e; rw [bU_n (by omega)]; exact h5 q hq k e)
  · show ∀ z, z < 42 → ∀ y, y < (aU S.1 5 i (S.1 5 i + 1)) 6 z → thv z ((bU S.2 (1 + i) (S.1 5 i) x) (10 + z) y)
    exact fun i hi k e => by rw [aU_n (by omega)] at e; rw [bU_n (by omega)]; exact h6 i hi k e
  · show ∀ z, z < 3 → ¬ (aU S.1 5 i (S.1 5 i + 1)) 0 z = 0 → pAll (fun y => nI ((aU S.1 5 i (S.1 5 i + 1)) (10 + z) y)) ((aU S.1 5 i (S.1 5 i + 1)) 7 z) 60 0 = none
    intro z hz e; rw [aU_n (by omega)] at e; rw [show (fun k => nI ((aU S.1 5 i (S.1 5 i + 1)) (10 + z) k)) = (fun k => nI (S.1 (10 + z) k)) from (by funext k; rw [aU_n (by omega)]), aU_n (by omega)]; exact h7 z hz e
  · show ∀ z, z < 6 → (aU S.1 5 i (S.1 5 i + 1)) 1 z = 1 → pAll (fun y => nI ((aU S.1 5 i (S.1 5 i + 1)) (13 + z) y)) ((aU S.1 5 i (S.1 5 i + 1)) 7 (3 + z)) 60 0 = none
    intro z hz e; rw [aU_n (by omega)] at e; rw [show (fun k => nI ((aU S.1 5 i (S.1 5 i + 1)) (13 + z) k)) = (fun k => nI (S.1 (13 + z) k)) from (by funext k; rw [aU_n (by omega)]), aU_n (by omega)]; exact h8 z hz e
theorem wf_mtake {S : sS2} {i r : Nat} (hi6 : i < 6) (hal : S.1 1 i = 1) (h : wf S) : wf (aU S.1 5 i (S.1 5 i - 1), bTk S.2 (1 + i) r (S.1 5 i)) := by
  obtain ⟨hb, h1, h2, h3, h4, h5, h6, h7, h8⟩ := h
  refine ⟨bd_u hb ⟨by omega, by omega, by omega, fun _ => by have := (hb.1 i hi6).2.2.2; omega, by omega, by omega, by omega⟩, ?_, ?_, ?_, ?_, ?_, ?_, ?_, ?_⟩
  · show ∀ z, z < 6 → ¬ (aU S.1 5 i (S.1 5 i - 1)) 1 z = 1 → (aU S.1 5 i (S.1 5 i - 1)) 2 z = 0 ∧ (aU S.1 5 i (S.1 5 i - 1)) 5 z = 0 ∧ (bTk S.2 (1 + i) r (S.1 5 i)) 0 z = (10, [])
    exact fun j hj e => by rw [aU_n (by omega)] at e; have : ¬ j = i := (fun q => e (by rw [q]; exact hal)); rw [aU_n (by omega), aU_n (by omega), bTk_n (by omega)]; exact h1 j hj e
  · show ∀ z, z < 6 → (aU S.1 5 i (S.1 5 i - 1)) 1 z = 1 → tv ((bTk S.2 (1 + i) r (S.1 5 i)) 0 z).1 ((bTk S.2 (1 + i) r (S.1 5 i)) 0 z).2
    exact fun i hi e => by rw [aU_n (by omega)] at e; rw [bTk_n (by omega)]; exact h2 i hi e
  · show ∀ z, z < 6 → (aU S.1 5 i (S.1 5 i - 1)) 1 z = 2 → (aU S.1 5 i (S.1 5 i - 1)) 3 z < 2013
    exact fun i hi e => by rw [aU_n (by omega)] at e; rw [aU_n (by omega)]; exact h3 i hi e
  · show ∀ z, z < 6 → (aU S.1 5 i (S.1 5 i - 1)) 4 z / 2 ^ z % 2 = 0
    exact fun i hi => by rw [aU_n (by omega)]; exact h4 i hi
  · show ∀ z, z < 6 → ∀ y, y < (aU S.1 5 i (S.1 5 i - 1)) 5 z → tv ((bTk S.2 (1 + i) r (S.1 5 i)) (1 + z) y).1 ((bTk S.2 (1 + i) r (S.1 5 i)) (1 + z) y).2
    exact fun q hq k e => if z : q = i then (by subst z; rw [aU_s] at e; exact if y : r ≤ k then (by rw [bTk_s (by omega)]; exact h5 q hq (k + 1) (by omega)) else (by rw [bTk_n (by omega)]; exact h5 q hq k (by omega))) else (by rw [aU_n (by omega)] at e; rw [bTk_n (by omega)]; exact h5 q hq k e)
  · show ∀ z, z < 42 → ∀ y, y < (aU S.1 5 i (S.1 5 i - 1)) 6 z → thv z ((bTk S.2 (1 + i) r (S.1 5 i)) (10 + z) y)
    exact fun i hi k e => by rw [aU_n (by omega)] at e; rw [bTk_n (by omega)]; exact h6 i hi k e
  · show ∀ z, z < 3 → ¬ (aU S.1 5 i (S.1 5 i - 1)) 0 z = 0 → pAll (fun y => nI ((aU S.1 5 i (S.1 5 i - 1)) (10 + z) y)) ((aU S.1 5 i (S.1 5 i - 1)) 7 z) 60 0 = none
    intro z hz e; rw [aU_n (by omega)] at e; rw [show (fun k => nI ((aU S.1 5 i (S.1 5 i - 1)) (10 + z) k)) = (fun k => nI (S.1 (10 + z) k)) from (by funext k; rw [aU_n (by omega)]), aU_n (by omega)]; exact h7 z hz e
  · show ∀ z, z < 6 → (aU S.1 5 i (S.1 5 i - 1)) 1 z = 1 → pAll (fun y => nI ((aU S.1 5 i (S.1 5 i - 1)) (13 + z) y)) ((aU S.1 5 i (S.1 5 i - 1)) 7 (3 + z)) 60 0 = none
    intro z hz e; rw [aU_n (by omega)] at e; rw [show (fun k => nI ((aU S.1 5 i (S.1 5 i - 1)) (13 + z) k)) = (fun k => nI (S.1 (13 + z) k)) from (by funext k; rw [aU_n (by omega)]), aU_n (by omega)]; exact h8 z hz e
theorem wf_wtake {S : sS2} {i r : Nat} (hi6 : i < 42) (h : wf S) : wf (aU S.1 6 i (S.1 6 i - 1), bTk S.2 (10 + i) r (S.1 6 i)) := by
  obtain ⟨hb, h1, h2, h3, h4, h5, h6, h7, h8⟩ := h
  refine ⟨bd_u hb ⟨by omega, by omega, by omega, by omega, fun _ => by have := hb.2.1 i hi6; omega, by omega, by omega⟩, ?_, ?_, ?_, ?_, ?_, ?_, ?_, ?_⟩
  · show ∀ z, z < 6 → ¬ (aU S.1 6 i (S.1 6 i - 1)) 1 z = 1 → (aU S.1 6 i (S.1 6 i - 1)) 2 z = 0 ∧ (aU S.1 6 i (S.1 6 i - 1)) 5 z = 0 ∧ (bTk S.2 (10 + i) r (S.1 6 i)) 0 z = (10, [])
    exact fun i hi e => by rw [aU_n (by omega)] at e; rw [aU_n (by omega), aU_n (by omega), bTk_n (by omega)]; exact h1 i hi e
  · show ∀ z, z < 6 → (aU S.1 6 i (S.1 6 i - 1)) 1 z = 1 → tv ((bTk S.2 (10 + i) r (S.1 6 i)) 0 z).1 ((bTk S.2 (10 + i) r (S.1 6 i)) 0 z).2
    exact fun i hi e => by rw [aU_n (by omega)] at e; rw [bTk_n (by omega)]; exact h2 i hi e
  · show ∀ z, z < 6 → (aU S.1 6 i (S.1 6 i - 1)) 1 z = 2 → (aU S.1 6 i (S.1 6 i - 1)) 3 z < 2013
    exact fun i hi e => by rw [aU_n (by omega)] at e; rw [aU_n (by omega)]; exact h3 i hi e
  · show ∀ z, z < 6 → (aU S.1 6 i (S.1 6 i - 1)) 4 z / 2 ^ z % 2 = 0
    exact fun i hi => by rw [aU_n (by omega)]; exact h4 i hi
  · show ∀ z, z < 6 → ∀ y, y < (aU S.1 6 i (S.1 6 i - 1)) 5 z → tv ((bTk S.2 (10 + i) r (S.1 6 i)) (1 + z) y).1 ((bTk S.2 (10 + i) r (S.1 6 i)) (1 + z) y).2
    exact fun i hi k e => by rw [aU_n (by omega)] at e; rw [bTk_n (by omega)]; exact h5 i hi k e
  · show ∀ z, z < 42 → ∀ y, y < (aU S.1 6 i (S.1 6 i - 1)) 6 z → thv z ((bTk S.2 (10 + i) r (S.1 6 i)) (10 + z) y)
    exact fun q hq k e => if z : q = i then (by subst z; rw [aU_s] at e; exact if y : r ≤ k then (by rw [bTk_s (by omega)]; exact h6 q hq (k + 1) (by omega)) else (by rw [bTk_n (by omega)]; exact h6 q hq k (by omega))) else (by rw [aU_n (by omega)] at e; rw [bTk_n (by omega)]; exact h6 q hq k e)
  · show ∀ z, z < 3 → ¬ (aU S.1 6 i (S.1 6 i - 1)) 0 z = 0 → pAll (fun y => nI ((aU S.1 6 i (S.1 6 i - 1)) (10 + z) y)) ((aU S.1 6 i (S.1 6 i - 1)) 7 z) 60 0 = none
    intro z hz e; rw [aU_n (by omega)] at e; rw [show (fun k => nI ((aU S.1 6 i (S.1 6 i - 1)) (10 + z) k)) = (fun k => nI (S.1 (10 + z) k)) from (by funext k; rw [aU_n (by omega)]), aU_n (by omega)]; exact h7 z hz e
  · show ∀ z, z < 6 → (aU S.1 6 i (S.1 6 i - 1)) 1 z = 1 → pAll (fun y => nI ((aU S.1 6 i (S.1 6 i - 1)) (13 + z) y)) ((aU S.1 6 i (S.1 6 i - 1)) 7 (3 + z)) 60 0 = none
    intro z hz e; rw [aU_n (by omega)] at e; rw [show (fun k => nI ((aU S.1 6 i (S.1 6 i - 1)) (13 + z) k)) = (fun k => nI (S.1 (13 + z) k)) from (by funext k; rw [aU_n (by omega)]), aU_n (by omega)]; exact h8 z hz e
theorem wf_lk {S : sS2} {i v : Nat} (hi6 : i < 6) (hv : v < 64) (h0 : v / 2 ^ i % 2 = 0) (h : wf S) : wf (aU S.1 4 i v, S.2) := by
  obtain ⟨hb, h1, h2, h3, h4, h5, h6, h7, h8⟩ := h
  refine ⟨bd_u hb ⟨by omega, by omega, fun _ => hv, by omega, by omega, by omega, by omega⟩, ?_, ?_, ?_, ?_, ?_, ?_, ?_, ?_⟩
  · show ∀ z, z < 6 → ¬ (aU S.1 4 i v) 1 z = 1 → (aU S.1 4 i v) 2 z = 0 ∧ (aU S.1 4 i v) 5 z = 0 ∧ S.2 0 z = (10, [])
    exact fun i hi e => by rw [aU_n (by omega)] at e; rw [aU_n (by omega), aU_n (by omega)]; exact h1 i hi e
  · show ∀ z, z < 6 → (aU S.1 4 i v) 1 z = 1 → tv (S.2 0 z).1 (S.2 0 z).2
    exact fun i hi e => by rw [aU_n (by omega)] at e; exact h2 i hi e
  · show ∀ z, z < 6 → (aU S.1 4 i v) 1 z = 2 → (aU S.1 4 i v) 3 z < 2013
    exact fun i hi e => by rw [aU_n (by omega)] at e; rw [aU_n (by omega)]; exact h3 i hi e
  · show ∀ z, z < 6 → (aU S.1 4 i v) 4 z / 2 ^ z % 2 = 0
    exact fun j hj => if q : j = i then (by subst q; rw [aU_s]; exact h0) else (by rw [aU_n (by omega)]; exact h4 j hj)
  · show ∀ z, z < 6 → ∀ y, y < (aU S.1 4 i v) 5 z → tv (S.2 (1 + z) y).1 (S.2 (1 + z) y).2
    exact fun i hi k e => by rw [aU_n (by omega)] at e; exact h5 i hi k e
  · show ∀ z, z < 42 → ∀ y, y < (aU S.1 4 i v) 6 z → thv z (S.2 (10 + z) y)
    exact fun i hi k e => by rw [aU_n (by omega)] at e; exact h6 i hi k e
  · show ∀ z, z < 3 → ¬ (aU S.1 4 i v) 0 z = 0 → pAll (fun y => nI ((aU S.1 4 i v) (10 + z) y)) ((aU S.1 4 i v) 7 z) 60 0 = none
    intro z hz e; rw [aU_n (by omega)] at e; rw [show (fun k => nI ((aU S.1 4 i v) (10 + z) k)) = (fun k => nI (S.1 (10 + z) k)) from (by funext k; rw [aU_n (by omega)]), aU_n (by omega)]; exact h7 z hz e
  · show ∀ z, z < 6 → (aU S.1 4 i v) 1 z = 1 → pAll (fun y => nI ((aU S.1 4 i v) (13 + z) y)) ((aU S.1 4 i v) 7 (3 + z)) 60 0 = none
    intro z hz e; rw [aU_n (by omega)] at e; rw [show (fun k => nI ((aU S.1 4 i v) (13 + z) k)) = (fun k => nI (S.1 (13 + z) k)) from (by funext k; rw [aU_n (by omega)]), aU_n (by omega)]; exact h8 z hz e
theorem wf_reap {S : sS2} {i : Nat} (hi6 : i < 6) (hs : S.1 1 i = 2) (h : wf S) : wf (aU S.1 1 i 0, S.2) := by
  obtain ⟨hb, h1, h2, h3, h4, h5, h6, h7, h8⟩ := h
  refine ⟨bd_u hb ⟨by omega, by omega, by omega, by omega, by omega, by omega, by omega⟩, ?_, ?_, ?_, ?_, ?_, ?_, ?_, ?_⟩
  · show ∀ z, z < 6 → ¬ (aU S.1 1 i 0) 1 z = 1 → (aU S.1 1 i 0) 2 z = 0 ∧ (aU S.1 1 i 0) 5 z = 0 ∧ S.2 0 z = (10, [])
    exact fun j hj e => if q : j = i then (by subst q; rw [aU_n (by omega), aU_n (by omega)]; exact h1 j hj (by omega)) else (by rw [aU_n (by omega)] at e; rw [aU_n (by omega), aU_n (by omega)]; exact h1 j hj e)
  · show ∀ z, z < 6 → (aU S.1 1 i 0) 1 z = 1 → tv (S.2 0 z).1 (S.2 0 z).2
    exact fun j hj e => if q : j = i then (by subst q; rw [aU_s] at e; omega) else (by rw [aU_n (by omega)] at e; exact h2 j hj e)
  · show ∀ z, z < 6 → (aU S.1 1 i 0) 1 z = 2 → (aU S.1 1 i 0) 3 z < 2013
    exact fun j hj e => if q : j = i then (by subst q; rw [aU_s] at e; omega) else (by rw [aU_n (by omega)] at e; rw [aU_n (by omega)]; exact h3 j hj e)
  · show ∀ z, z < 6 → (aU S.1 1 i 0) 4 z / 2 ^ z % 2 = 0
    exact fun i hi => by rw [aU_n (by omega)]; exact h4 i hi
  · show ∀ z, z < 6 → ∀ y, y < (aU S.1 1 i 0) 5 z → tv (S.2 (1 + z) y).1 (S.2 (1 + z) y).2
    exact fun i hi k e => by rw [aU_n (by omega)] at e; exact h5 i hi k e
  · show ∀ z, z < 42 → ∀ y, y < (aU S.1 1 i 0) 6 z → thv z (S.2 (10 + z) y)
    exact fun i hi k e => by rw [aU_n (by omega)] at e; exact h6 i hi k e
  · show ∀ z, z < 3 → ¬ (aU S.1 1 i 0) 0 z = 0 → pAll (fun y => nI ((aU S.1 1 i 0) (10 + z) y)) ((aU S.1 1 i 0) 7 z) 60 0 = none
    intro z hz e; rw [aU_n (by omega)] at e; rw [show (fun k => nI ((aU S.1 1 i 0) (10 + z) k)) = (fun k => nI (S.1 (10 + z) k)) from (by funext k; rw [aU_n (by omega)]), aU_n (by omega)]; exact h7 z hz e
  · show ∀ z, z < 6 → (aU S.1 1 i 0) 1 z = 1 → pAll (fun y => nI ((aU S.1 1 i 0) (13 + z) y)) ((aU S.1 1 i 0) 7 (3 + z)) 60 0 = none
    exact fun j hj e => if q : j = i then (by subst q; rw [aU_s] at e; omega) else (by rw [aU_n (by omega)] at e; rw [show (fun k => nI ((aU S.1 1 i 0) (13 + j) k)) = (fun k => nI (S.1 (13 + j) k)) from (by funext k; rw [aU_n (by omega)]), aU_n (by omega)]; exact h8 j hj e)
theorem wf_end0 {S : sS2} {i v : Nat} (hi6 : i < 6) (hv : v < 2013) (h : wf S) : wf (aU (aU (aU (aU (aU S.1 1 i 2) 3 i v) 5 i 0) 2 i 0) 4 i 0, bU S.2 0 i (10, [])) := by
  obtain ⟨hb, h1, h2, h3, h4, h5, h6, h7, h8⟩ := h
  refine ⟨bd_end0 (S := S) (i := i) (why := v) hb, ?_, ?_, ?_, ?_, ?_, ?_, ?_, ?_⟩
  · show ∀ z, z < 6 → ¬ (aU (aU (aU (aU (aU S.1 1 i 2) 3 i v) 5 i 0) 2 i 0) 4 i 0) 1 z = 1 → (aU (aU (aU (aU (aU S.1 1 i 2) 3 i v) 5 i 0) 2 i 0) 4 i 0) 2 z = 0 ∧ (aU (aU (aU (aU (aU S.1 1 i 2) 3 i v) 5 i 0) 2 i 0) 4 i 0) 5 z = 0 ∧ (bU S.2 0 i (10, [])) 0 z = (10, [])
    exact fun j hj e => if q : j = i then (by subst q; exact ⟨by rw [aU_n (by omega), aU_s], by rw [aU_n (by omega), aU_n (by omega), aU_s], bU_s⟩) else (by rw [aU_n (by omega), aU_n (by omega), aU_n (by omega), aU_n (by omega), aU_n (by omega)] at e; rw [aU_n (by omega), aU_n (by omega), aU_n (by omega), aU_n (by omega), aU_n (by omega), aU_n (by omega), aU_n (by omega), aU_n (by omega), aU_n (by omega), aU_n (by omega), bU_n (by omega)]; exact h1 j hj e)
  · show ∀ z, z < 6 → (aU (aU (aU (aU (aU S.1 1 i 2) 3 i v) 5 i 0) 2 i 0) 4 i 0) 1 z = 1 → tv ((bU S.2 0 i (10, [])) 0 z).1 ((bU S.2 0 i (10, [])) 0 z).2
    exact fun j hj e => if q : j = i then (by subst q; rw [aU_n (by omega), aU_n (by omega), aU_n (by omega), aU_n (by omega), aU_s] at e; omega) else (by rw [aU_n (by omega), aU_n (by omega), aU_n (by omega), aU_n (by omega), aU_n (by omega)] at e; rw [bU_n (by omega)]; exact h2 j hj e)
  · show ∀ z, z < 6 → (aU (aU (aU (aU (aU S.1 1 i 2) 3 i v) 5 i 0) 2 i 0) 4 i 0) 1 z = 2 → (aU (aU (aU (aU (aU S.1 1 i 2) 3 i v) 5 i 0) 2 i 0) 4 i 0) 3 z < 2013
    exact fun j hj e => if q : j = i then (by subst q; rw [aU_n (by omega), aU_n (by omega), aU_n (by omega), aU_s]; exact hv) else (by rw [aU_n (by omega), aU_n (by omega), aU_n (by omega), aU_n (by omega), aU_n (by omega)] at e; rw [aU_n (by omega), aU_n (by omega), aU_n (by omega), aU_n (by omega), aU_n (by omega)]; exact h3 j hj e)
  · show ∀ z, z < 6 → (aU (aU (aU (aU (aU S.1 1 i 2) 3 i v) 5 i 0) 2 i 0) 4 i 0) 4 z / 2 ^ z % 2 = 0
    exact fun j hj => if q : j = i then (by subst q; rw [aU_s, Nat.zero_div]) else (by rw [aU_n (by omega), aU_n (by omega), aU_n (by omega), aU_n (by omega), aU_n (by omega)]; exact h4 j hj)
  · show ∀ z, z < 6 → ∀ y, y < (aU (aU (aU (aU (aU S.1 1 i 2) 3 i v) 5 i 0) 2 i 0) 4 i 0) 5 z → tv ((bU S.2 0 i (10, [])) (1 + z) y).1 ((bU S.2 0 i (10, [])) (1 + z) y).2
    exact fun j hj k e => if q : j = i then (by subst q; rw [aU_n (by omega), aU_n (by omega), aU_s] at e; omega) else (by rw [aU_n (by omega), aU_n (by omega), aU_n (by omega), aU_n (by omega), aU_n (by omega)] at e; rw [bU_n (by omega)]; exact h5 j hj k e)
  · show ∀ z, z < 42 → ∀ y, y < (aU (aU (aU (aU (aU S.1 1 i 2) 3 i v) 5 i 0) 2 i 0) 4 i 0) 6 z → thv z ((bU S.2 0 i (10, [])) (10 + z) y)
    exact fun i hi k e => by rw [aU_n (by omega), aU_n (by omega), aU_n (by omega), aU_n (by omega), aU_n (by omega)] at e; rw [bU_n (by omega)]; exact h6 i hi k e
  · show ∀ z, z < 3 → ¬ (aU (aU (aU (aU (aU S.1 1 i 2) 3 i v) 5 i 0) 2 i 0) 4 i 0) 0 z = 0 → pAll (fun y => nI ((aU (aU (aU (aU (aU S.1 1 i 2) 3 i v) 5 i 0) 2 i 0) 4 i 0) (10 + z) y)) ((aU (aU (aU (aU (aU S.1 1 i 2) 3 i v) 5 i 0) 2 i 0) 4 i 0) 7 z) 60 0 = none
    intro z hz e; rw [aU_n (by omega), aU_n (by omega), aU_n (by omega), aU_n (by omega), aU_n (by omega)] at e; rw [show (fun k => nI ((aU (aU (aU (aU (aU S.1 1 i 2) 3 i v) 5 i 0) 2 i 0) 4 i 0) (10 + z) k)) = (fun k => nI (S.1 (10 + z) k)) from (by funext k; rw [aU_n (by omega), aU_n (by omega), aU_n (by omega), aU_n (by omega), aU_n (by omega)]), aU_n (by omega), aU_n (by omega), aU_n (by omega), aU_n (by omega), aU_n (by omega)]; exact h7 z hz e
  · show ∀ z, z < 6 → (aU (aU (aU (aU (aU S.1 1 i 2) 3 i v) 5 i 0) 2 i 0) 4 i 0) 1 z = 1 → pAll (fun y => nI ((aU (aU (aU (aU (aU S.1 1 i 2) 3 i v) 5 i 0) 2 i 0) 4 i 0) (13 + z) y)) ((aU (aU (aU (aU (aU S.1 1 i 2) 3 i v) 5 i 0) 2 i 0) 4 i 0) 7 (3 + z)) 60 0 = none
    exact fun j hj e => if q : j = i then (by subst q; rw [aU_n (by omega), aU_n (by omega), aU_n (by omega), aU_n (by omega), aU_s] at e; omega) else (by rw [aU_n (by omega), aU_n (by omega), aU_n (by omega), aU_n (by omega), aU_n (by omega)] at e; rw [show (fun k => nI ((aU (aU (aU (aU (aU S.1 1 i 2) 3 i v) 5 i 0) 2 i 0) 4 i 0) (13 + j) k)) = (fun k => nI (S.1 (13 + j) k)) from (by funext k; rw [aU_n (by omega), aU_n (by omega), aU_n (by omega), aU_n (by omega), aU_n (by omega)]), aU_n (by omega), aU_n (by omega), aU_n (by omega), aU_n (by omega), aU_n (by omega)]; exact h8 j hj e)
theorem wf_mk {S : sS2} {i p : Nat} {v : sTm} (hi6 : i < 6) (hp : p < 3) (hck : ¬ S.1 0 p = 0) (hs : S.1 1 i = 0) (hv : tv v.1 v.2) (h : wf S) : wf (aU (aU (aCp S.1 p i) 7 (3 + i) (S.1 7 p)) 1 i 1, bU S.2 0 i v) := by
  obtain ⟨hb, h1, h2, h3, h4, h5, h6, h7, h8⟩ := h
  refine ⟨bd_mk (S := S) hb hp, ?_, ?_, ?_, ?_, ?_, ?_, ?_, ?_⟩
  · show ∀ z, z < 6 → ¬ (aU (aU (aCp S.1 p i) 7 (3 + i) (S.1 7 p)) 1 i 1) 1 z = 1 → (aU (aU (aCp S.1 p i) 7 (3 + i) (S.1 7 p)) 1 i 1) 2 z = 0 ∧ (aU (aU (aCp S.1 p i) 7 (3 + i) (S.1 7 p)) 1 i 1) 5 z = 0 ∧ (bU S.2 0 i v) 0 z = (10, [])
    exact fun j hj e => if q : j = i then (by subst q; rw [aU_s] at e; omega) else (by rw [aU_n (by omega), aU_n (by omega), aCp_n (by omega)] at e; rw [aU_n (by omega), aU_n (by omega), aCp_n (by omega), aU_n (by omega), aU_n (by omega), aCp_n (by omega), bU_n (by omega)]; exact h1 j hj e)
  · show ∀ z, z < 6 → (aU (aU (aCp S.1 p i) 7 (3 + i) (S.1 7 p)) 1 i 1) 1 z = 1 → tv ((bU S.2 0 i v) 0 z).1 ((bU S.2 0 i v) 0 z).2
    exact fun j hj e => if q : j = i then (by subst q; rw [bU_s]; exact hv) else (by rw [aU_n (by omega), aU_n (by omega), aCp_n (by omega)] at e; rw [bU_n (by omega)]; exact h2 j hj e)
  · show ∀ z, z < 6 → (aU (aU (aCp S.1 p i) 7 (3 + i) (S.1 7 p)) 1 i 1) 1 z = 2 → (aU (aU (aCp S.1 p i) 7 (3 + i) (S.1 7 p)) 1 i 1) 3 z < 2013
    exact fun j hj e => if q : j = i then (by subst q; rw [aU_s] at e; omega) else (by rw [aU_n (by omega), aU_n (by omega), aCp_n (by omega)] at e; rw [aU_n (by omega), aU_n (by omega), aCp_n (by omega)]; exact h3 j hj e)
  · show ∀ z, z < 6 → (aU (aU (aCp S.1 p i) 7 (3 + i) (S.1 7 p)) 1 i 1) 4 z / 2 ^ z % 2 = 0
    exact fun i hi => by rw [aU_n (by omega), aU_n (by omega), aCp_n (by omega)]; exact h4 i hi
  · show ∀ z, z < 6 → ∀ y, y < (aU (aU (aCp S.1 p i) 7 (3 + i) (S.1 7 p)) 1 i 1) 5 z → tv ((bU S.2 0 i v) (1 + z) y).1 ((bU S.2 0 i v) (1 + z) y).2
    exact fun i hi k e => by rw [aU_n (by omega), aU_n (by omega), aCp_n (by omega)] at e; rw [bU_n (by omega)]; exact h5 i hi k e
  · show ∀ z, z < 42 → ∀ y, y < (aU (aU (aCp S.1 p i) 7 (3 + i) (S.1 7 p)) 1 i 1) 6 z → thv z ((bU S.2 0 i v) (10 + z) y)
    exact fun i hi k e => by rw [aU_n (by omega), aU_n (by omega), aCp_n (by omega)] at e; rw [bU_n (by omega)]; exact h6 i hi k e
  · show ∀ z, z < 3 → ¬ (aU (aU (aCp S.1 p i) 7 (3 + i) (S.1 7 p)) 1 i 1) 0 z = 0 → pAll (fun y => nI ((aU (aU (aCp S.1 p i) 7 (3 + i) (S.1 7 p)) 1 i 1) (10 + z) y)) ((aU (aU (aCp S.1 p i) 7 (3 + i) (S.1 7 p)) 1 i 1) 7 z) 60 0 = none
    intro z hz e; rw [aU_n (by omega), aU_n (by omega), aCp_n (by omega)] at e; rw [show (fun k => nI ((aU (aU (aCp S.1 p i) 7 (3 + i) (S.1 7 p)) 1 i 1) (10 + z) k)) = (fun k => nI (S.1 (10 + z) k)) from (by funext k; rw [aU_n (by omega), aU_n (by omega), aCp_n (by omega)]), aU_n (by omega), aU_n (by omega), aCp_n (by omega)]; exact h7 z hz e
  · show ∀ z, z < 6 → (aU (aU (aCp S.1 p i) 7 (3 + i) (S.1 7 p)) 1 i 1) 1 z = 1 → pAll (fun y => nI ((aU (aU (aCp S.1 p i) 7 (3 + i) (S.1 7 p)) 1 i 1) (13 + z) y)) ((aU (aU (aCp S.1 p i) 7 (3 + i) (S.1 7 p)) 1 i 1) 7 (3 + z)) 60 0 = none
    exact fun j hj e => if q : j = i then (by subst q; rw [show (fun k => nI ((aU (aU (aCp S.1 p j) 7 (3 + j) (S.1 7 p)) 1 j 1) (13 + j) k)) = (fun k => nI (S.1 (10 + p) k)) from (by funext k; rw [aU_n (by omega), aU_n (by omega), aCp_s]), aU_n (by omega), aU_s]; exact h7 p hp hck) else (by rw [aU_n (by omega), aU_n (by omega), aCp_n (by omega)] at e; rw [show (fun k => nI ((aU (aU (aCp S.1 p i) 7 (3 + i) (S.1 7 p)) 1 i 1) (13 + j) k)) = (fun k => nI (S.1 (13 + j) k)) from (by funext k; rw [aU_n (by omega), aU_n (by omega), aCp_n (by omega)]), aU_n (by omega), aU_n (by omega), aCp_n (by omega)]; exact h8 j hj e)
theorem wf_ck0 {S : sS2} {i : Nat} (hi6 : i < 3) (h : wf S) : wf (aU S.1 0 i 0, S.2) := by
  obtain ⟨hb, h1, h2, h3, h4, h5, h6, h7, h8⟩ := h
  refine ⟨bd_u hb ⟨by omega, by omega, by omega, by omega, by omega, by omega, by omega⟩, ?_, ?_, ?_, ?_, ?_, ?_, ?_, ?_⟩
  · show ∀ z, z < 6 → ¬ (aU S.1 0 i 0) 1 z = 1 → (aU S.1 0 i 0) 2 z = 0 ∧ (aU S.1 0 i 0) 5 z = 0 ∧ S.2 0 z = (10, [])
    exact fun i hi e => by rw [aU_n (by omega)] at e; rw [aU_n (by omega), aU_n (by omega)]; exact h1 i hi e
  · show ∀ z, z < 6 → (aU S.1 0 i 0) 1 z = 1 → tv (S.2 0 z).1 (S.2 0 z).2
    exact fun i hi e => by rw [aU_n (by omega)] at e; exact h2 i hi e
  · show ∀ z, z < 6 → (aU S.1 0 i 0) 1 z = 2 → (aU S.1 0 i 0) 3 z < 2013
    exact fun i hi e => by rw [aU_n (by omega)] at e; rw [aU_n (by omega)]; exact h3 i hi e
  · show ∀ z, z < 6 → (aU S.1 0 i 0) 4 z / 2 ^ z % 2 = 0
    exact fun i hi => by rw [aU_n (by omega)]; exact h4 i hi
  · show ∀ z, z < 6 → ∀ y, y < (aU S.1 0 i 0) 5 z → tv (S.2 (1 + z) y).1 (S.2 (1 + z) y).2
    exact fun i hi k e => by rw [aU_n (by omega)] at e; exact h5 i hi k e
  · show ∀ z, z < 42 → ∀ y, y < (aU S.1 0 i 0) 6 z → thv z (S.2 (10 + z) y)
    exact fun i hi k e => by rw [aU_n (by omega)] at e; exact h6 i hi k e
  · show ∀ z, z < 3 → ¬ (aU S.1 0 i 0) 0 z = 0 → pAll (fun y => nI ((aU S.1 0 i 0) (10 + z) y)) ((aU S.1 0 i 0) 7 z) 60 0 = none
    exact fun j hj e => if q : j = i then (by subst q; rw [aU_s] at e; omega) else (by rw [aU_n (by omega)] at e; rw [show (fun k => nI ((aU S.1 0 i 0) (10 + j) k)) = (fun k => nI (S.1 (10 + j) k)) from (by funext k; rw [aU_n (by omega)]), aU_n (by omega)]; exact h7 j hj e)
  · show ∀ z, z < 6 → (aU S.1 0 i 0) 1 z = 1 → pAll (fun y => nI ((aU S.1 0 i 0) (13 + z) y)) ((aU S.1 0 i 0) 7 (3 + z)) 60 0 = none
    intro z hz e; rw [aU_n (by omega)] at e; rw [show (fun k => nI ((aU S.1 0 i 0) (13 + z) k)) = (fun k => nI (S.1 (13 + z) k)) from (by funext k; rw [aU_n (by omega)]), aU_n (by omega)]; exact h8 z hz e
theorem wf_ck1 {S : sS2} {i : Nat} (hi6 : i < 3) (hw : pAll (fun k => nI (S.1 (10 + i) k)) (S.1 7 i) 60 0 = none) (h : wf S) : wf (aU S.1 0 i 1, S.2) := by
  obtain ⟨hb, h1, h2, h3, h4, h5, h6, h7, h8⟩ := h
  refine ⟨bd_u hb ⟨by omega, by omega, by omega, by omega, by omega, by omega, by omega⟩, ?_, ?_, ?_, ?_, ?_, ?_, ?_, ?_⟩
  · show ∀ z, z < 6 → ¬ (aU S.1 0 i 1) 1 z = 1 → (aU S.1 0 i 1) 2 z = 0 ∧ (aU S.1 0 i 1) 5 z = 0 ∧ S.2 0 z = (10, [])
    exact fun i hi e => by rw [aU_n (by omega)] at e; rw [aU_n (by omega), aU_n (by omega)]; exact h1 i hi e
  · show ∀ z, z < 6 → (aU S.1 0 i 1) 1 z = 1 → tv (S.2 0 z).1 (S.2 0 z).2
    exact fun i hi e => by rw [aU_n (by omega)] at e; exact h2 i hi e
  · show ∀ z, z < 6 → (aU S.1 0 i 1) 1 z = 2 → (aU S.1 0 i 1) 3 z < 2013
    exact fun i hi e => by rw [aU_n (by omega)] at e; rw [aU_n (by omega)]; exact h3 i hi e
  · show ∀ z, z < 6 → (aU S.1 0 i 1) 4 z / 2 ^ z % 2 = 0
    exact fun i hi => by rw [aU_n (by omega)]; exact h4 i hi
  · show ∀ z, z < 6 → ∀ y, y < (aU S.1 0 i 1) 5 z → tv (S.2 (1 + z) y).1 (S.2 (1 + z) y).2
    exact fun i hi k e => by rw [aU_n (by omega)] at e; exact h5 i hi k e
  · show ∀ z, z < 42 → ∀ y, y < (aU S.1 0 i 1) 6 z → thv z (S.2 (10 + z) y)
    exact fun i hi k e => by rw [aU_n (by omega)] at e; exact h6 i hi k e
  · show ∀ z, z < 3 → ¬ (aU S.1 0 i 1) 0 z = 0 → pAll (fun y => nI ((aU S.1 0 i 1) (10 + z) y)) ((aU S.1 0 i 1) 7 z) 60 0 = none
    exact fun j hj e => if q : j = i then (by subst q; rw [show (fun k => nI ((aU S.1 0 j 1) (10 + j) k)) = (fun k => nI (S.1 (10 + j) k)) from (by funext k; rw [aU_n (by omega)]), aU_n (by omega)]; exact hw) else (by rw [aU_n (by omega)] at e; rw [show (fun k => nI ((aU S.1 0 i 1) (10 + j) k)) = (fun k => nI (S.1 (10 + j) k)) from (by funext k; rw [aU_n (by omega)]), aU_n (by omega)]; exact h7 j hj e)
  · show ∀ z, z < 6 → (aU S.1 0 i 1) 1 z = 1 → pAll (fun y => nI ((aU S.1 0 i 1) (13 + z) y)) ((aU S.1 0 i 1) 7 (3 + z)) 60 0 = none
    intro z hz e; rw [aU_n (by omega)] at e; rw [show (fun k => nI ((aU S.1 0 i 1) (13 + z) k)) = (fun k => nI (S.1 (13 + z) k)) from (by funext k; rw [aU_n (by omega)]), aU_n (by omega)]; exact h8 z hz e
theorem wf_clear {S : sS2} {i : Nat} (hi6 : i < 3) (h : wf S) : wf (aU (aU S.1 7 i 0) 0 i 1, S.2) := by
  obtain ⟨hb, h1, h2, h3, h4, h5, h6, h7, h8⟩ := h
  refine ⟨bd_u (bd_u hb ⟨by omega, by omega, by omega, by omega, by omega, by omega, by omega⟩) ⟨by omega, by omega, by omega, by omega, by omega, by omega, by omega⟩, ?_, ?_, ?_, ?_, ?_, ?_, ?_, ?_⟩
  · show ∀ z, z < 6 → ¬ (aU (aU S.1 7 i 0) 0 i 1) 1 z = 1 → (aU (aU S.1 7 i 0) 0 i 1) 2 z = 0 ∧ (aU (aU S.1 7 i 0) 0 i 1) 5 z = 0 ∧ S.2 0 z = (10, [])
    exact fun i hi e => by rw [aU_n (by omega), aU_n (by omega)] at e; rw [aU_n (by omega), aU_n (by omega), aU_n (by omega), aU_n (by omega)]; exact h1 i hi e
  · show ∀ z, z < 6 → (aU (aU S.1 7 i 0) 0 i 1) 1 z = 1 → tv (S.2 0 z).1 (S.2 0 z).2
    exact fun i hi e => by rw [aU_n (by omega), aU_n (by omega)] at e; exact h2 i hi e
  · show ∀ z, z < 6 → (aU (aU S.1 7 i 0) 0 i 1) 1 z = 2 → (aU (aU S.1 7 i 0) 0 i 1) 3 z < 2013
    exact fun i hi e => by rw [aU_n (by omega), aU_n (by omega)] at e; rw [aU_n (by omega), aU_n (by omega)]; exact h3 i hi e
  · show ∀ z, z < 6 → (aU (aU S.1 7 i 0) 0 i 1) 4 z / 2 ^ z % 2 = 0
    exact fun i hi => by rw [aU_n (by omega), aU_n (by omega)]; exact h4 i hi
  · show ∀ z, z < 6 → ∀ y, y < (aU (aU S.1 7 i 0) 0 i 1) 5 z → tv (S.2 (1 + z) y).1 (S.2 (1 + z) y).2
    exact fun i hi k e => by rw [aU_n (by omega), aU_n (by omega)] at e; exact h5 i hi k e
  · show ∀ z, z < 42 → ∀ y, y < (aU (aU S.1 7 i 0) 0 i 1) 6 z → thv z (S.2 (10 + z) y)
    exact fun i hi k e => by rw [aU_n (by omega), aU_n (by omega)] at e; exact h6 i hi k e
  · show ∀ z, z < 3 → ¬ (aU (aU S.1 7 i 0) 0 i 1) 0 z = 0 → pAll (fun y => nI ((aU (aU S.1 7 i 0) 0 i 1) (10 + z) y)) ((aU (aU S.1 7 i 0) 0 i 1) 7 z) 60 0 = none
    exact fun j hj e => if q : j = i then (by subst q; rw [aU_n (by omega), aU_s]; rfl) else (by rw [aU_n (by omega), aU_n (by omega)] at e; rw [show (fun k => nI ((aU (aU S.1 7 i 0) 0 i 1) (10 + j) k)) = (fun k => nI (S.1 (10 + j) k)) from (by funext k; rw [aU_n (by omega), aU_n (by omega)]), aU_n (by omega), aU_n (by omega)]; exact h7 j hj e)
  · show ∀ z, z < 6 → (aU (aU S.1 7 i 0) 0 i 1) 1 z = 1 → pAll (fun y => nI ((aU (aU S.1 7 i 0) 0 i 1) (13 + z) y)) ((aU (aU S.1 7 i 0) 0 i 1) 7 (3 + z)) 60 0 = none
    intro z hz e; rw [aU_n (by omega), aU_n (by omega)] at e; rw [show (fun k => nI ((aU (aU S.1 7 i 0) 0 i 1) (13 + z) k)) = (fun k => nI (S.1 (13 + z) k)) from (by funext k; rw [aU_n (by omega), aU_n (by omega)]), aU_n (by omega), aU_n (by omega)]; exact h8 z hz e
theorem wf_app {S : sS2} {i v : Nat} (hi6 : i < 3) (hc : S.1 7 i < 60) (hck : S.1 0 i = 0) (h : wf S) : wf (aU (aU S.1 (10 + i) (S.1 7 i) v) 7 i (S.1 7 i + 1), S.2) := by
  obtain ⟨hb, h1, h2, h3, h4, h5, h6, h7, h8⟩ := h
  refine ⟨bd_u (bd_u hb ⟨by omega, by omega, by omega, by omega, by omega, by omega, by omega⟩) ⟨by omega, by omega, by omega, by omega, by omega, by omega, by omega⟩, ?_, ?_, ?_, ?_, ?_, ?_, ?_, ?_⟩
  · show ∀ z, z < 6 → ¬ (aU (aU S.1 (10 + i) (S.1 7 i) v) 7 i (S.1 7 i + 1)) 1 z = 1 → (aU (aU S.1 (10 + i) (S.1 7 i) v) 7 i (S.1 7 i + 1)) 2 z = 0 ∧ (aU (aU S.1 (10 + i) (S.1 7 i) v) 7 i (S.1 7 i + 1)) 5 z = 0 ∧ S.2 0 z = (10, [])
    exact fun i hi e => by rw [aU_n (by omega), aU_n (by omega)] at e; rw [aU_n (by omega), aU_n (by omega), aU_n (by omega), aU_n (by omega)]; exact h1 i hi e
  · show ∀ z, z < 6 → (aU (aU S.1 (10 + i) (S.1 7 i) v) 7 i (S.1 7 i + 1)) 1 z = 1 → tv (S.2 0 z).1 (S.2 0 z).2
    exact fun i hi e => by rw [aU_n (by omega), aU_n (by omega)] at e; exact h2 i hi e
  · show ∀ z, z < 6 → (aU (aU S.1 (10 + i) (S.1 7 i) v) 7 i (S.1 7 i + 1)) 1 z = 2 → (aU (aU S.1 (10 + i) (S.1 7 i) v) 7 i (S.1 7 i + 1)) 3 z < 2013
    exact fun i hi e => by rw [aU_n (by omega), aU_n (by omega)] at e; rw [aU_n (by omega), aU_n (by omega)]; exact h3 i hi e
  · show ∀ z, z < 6 → (aU (aU S.1 (10 + i) (S.1 7 i) v) 7 i (S.1 7 i + 1)) 4 z / 2 ^ z % 2 = 0
    exact fun i hi => by rw [aU_n (by omega), aU_n (by omega)]; exact h4 i hi
  · show ∀ z, z < 6 → ∀ y, y < (aU (aU S.1 (10 + i) (S.1 7 i) v) 7 i (S.1 7 i + 1)) 5 z → tv (S.2 (1 + z) y).1 (S.2 (1 + z) y).2
    exact fun i hi k e => by rw [aU_n (by omega), aU_n (by omega)] at e; exact h5 i hi k e
  · show ∀ z, z < 42 → ∀ y, y < (aU (aU S.1 (10 + i) (S.1 7 i) v) 7 i (S.1 7 i + 1)) 6 z → thv z (S.2 (10 + z) y)
    exact fun i hi k e => by rw [aU_n (by omega), aU_n (by omega)] at e; exact h6 i hi k e
  · show ∀ z, z < 3 → ¬ (aU (aU S.1 (10 + i) (S.1 7 i) v) 7 i (S.1 7 i + 1)) 0 z = 0 → pAll (fun y => nI ((aU (aU S.1 (10 + i) (S.1 7 i) v) 7 i (S.1 7 i + 1)) (10 + z) y)) ((aU (aU S.1 (10 + i) (S.1 7 i) v) 7 i (S.1 7 i + 1)) 7 z) 60 0 = none
    exact fun j hj e => if q : j = i then (by subst q; rw [aU_n (by omega), aU_n (by omega)] at e; omega) else (by rw [aU_n (by omega), aU_n (by omega)] at e; rw [show (fun k => nI ((aU (aU S.1 (10 + i) (S.1 7 i) v) 7 i (S.1 7 i + 1)) (10 + j) k)) = (fun k => nI (S.1 (10 + j) k)) from (by funext k; rw [aU_n (by omega), aU_n (by omega)]), aU_n (by omega), aU_n (by omega)]; exact h7 j hj e)
  · show ∀ z, z < 6 → (aU (aU S.1 (10 + i) (S.1 7 i) v) 7 i (S.1 7 i + 1)) 1 z = 1 → pAll (fun y => nI ((aU (aU S.1 (10 + i) (S.1 7 i) v) 7 i (S.1 7 i + 1)) (13 + z) y)) ((aU (aU S.1 (10 + i) (S.1 7 i) v) 7 i (S.1 7 i + 1)) 7 (3 + z)) 60 0 = none
    intro z hz e; rw [aU_n (by omega), aU_n (by omega)] at e; rw [show (fun k => nI ((aU (aU S.1 (10 + i) (S.1 7 i) v) 7 i (S.1 7 i + 1)) (13 + z) k)) = (fun k => nI (S.1 (13 + z) k)) from (by funext k; rw [aU_n (by omega), aU_n (by omega)]), aU_n (by omega), aU_n (by omega)]; exact h8 z hz e
theorem wf_put {S : sS2} {j : Nat} {x : sTm} (h : wf S) (hx : thv j x) (hj : j < 42) : wf (pPut S j x) := by
  unfold pPut; split
  · rename_i hc; exact wf_put1 hx hj hc h
  · exact h
theorem wf_link {S : sS2} {x y : Nat} (h : wf S) (hx : x < 6) (hy : y < 6) : wf (pLink S x y) := by
  unfold pLink; split
  · exact h
  · rename_i hh
    have hb := h.1
    have b1 := (hb.1 x hx).2.2.1
    have h1 : wf (aU S.1 4 x (S.1 4 x ||| 2 ^ y), S.2) := wf_lk hx (bt_l _ b1 y hy).1 (by rw [bt_s _ b1 y hy x hx, if_neg (by omega)]; exact h.2.2.2.2.1 x hx) h
    have b2 := (h1.1.1 y hy).2.2.1
    exact wf_lk (S := (aU S.1 4 x (S.1 4 x ||| 2 ^ y), S.2)) hy (bt_l _ b2 x hx).1 (by rw [bt_s _ b2 x hx y hy, if_neg (by omega)]; exact h1.2.2.2.2.1 y hy) h1
theorem wf_end1 {S : sS2} {m i why q : Nat} (h : wf S) (hi : i < 6) (hq : q < 6) (hw : why < 2013) : wf (pEnd1 m i why q S) := by
  unfold pEnd1; split
  · exact h
  · have h1 : wf (pPut S (6 * i + q) (9, [why])) := wf_put h (.inr ⟨by omega, why, hw, rfl⟩) (by omega)
    have b1 := (h1.1.1 q hq).2.2.1
    refine wf_lk (S := pPut S (6 * i + q) (9, [why])) hq (bt_l _ b1 i hi).2 ?_ h1
    rw [bt_k _ b1 i hi q hq]
    split
    · rfl
    · exact h1.2.2.2.2.1 q hq
theorem wf_endL {m i why : Nat} (hi : i < 6) (hw : why < 2013) : ∀ q r {S : sS2}, q + r = 6 → wf S → wf (pEndL m i why q r S)
  | 0, _, _, _, h => h
  | q + 1, r, _, e, h => wf_endL hi hw q (r + 1) (by omega) (wf_end1 h hi (by omega) hw)
theorem wf_end {S : sS2} {i why : Nat} (h : wf S) (hi : i < 6) (hw : why < 2013) : wf (pEnd S i why) := wf_endL hi hw 6 0 rfl (wf_end0 hi hw h)
