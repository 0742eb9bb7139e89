/-! THE MODEL: merge -/
theorem pTake_le {li : ML} {z w : Int32} : (pTake li z w).1.length ≤ li.1.length + 1 := by
  unfold pTake
  by_cases h : z ∈ li.1
  · rw [if_pos h]
    exact Nat.le_succ _
  · rw [if_neg h]
    show (lapp 64 li.1 z).length ≤ _
    unfold lapp
    split
    · rw [len_1]
      exact Nat.le_refl _
    · exact Nat.le_succ _
theorem pMg_le {ms : List Int32} {r : Int32} {li : ML} : ∀ k : Nat, (pMg ms r li k).1.length ≤ li.1.length + k := by
  intro k
  induction k with
  | zero => exact Nat.le_refl _
  | succ k ih =>
    have := @pTake_le (pMg ms r li k) (ms.getD k 0) r
    show (pTake _ _ _).1.length ≤ _
    omega
theorem sAp_take {li : ML} {z w : Int32} (h : sAp li) (h1 : li.1.length ≤ 64) (h2 : li.2.1.length = li.1.length) (hlt : ¬ z ∈ li.1 → li.1.length < 64) : sAp (pTake li z w) := by
  unfold pTake
  by_cases hz : z ∈ li.1
  · rw [if_pos hz]
    exact h
  · rw [if_neg hz, lapp_lt (hlt hz), lapp_lt (by have := hlt hz; omega)]
    intro i j hi0 hj0 hx0 hy0
    have hi : i < (li.1 ++ [z]).length := hi0
    have hj : j < (li.1 ++ [z]).length := hj0
    have hx : (li.2.1 ++ [(0 : Int32)]).getD i 0 = 1 := hx0
    have hy : (li.2.1 ++ [(0 : Int32)]).getD j 0 = 1 := hy0
    show pOpp ((li.1 ++ [z]).getD i 0) ((li.1 ++ [z]).getD j 0) = 0
    rw [len_1] at hi hj
    have d1 : (li.2.1 ++ [(0 : Int32)]).getD li.1.length 0 = 0 := by rw [← h2]; exact gDa_r
    by_cases qi : i < li.1.length
    · by_cases qj : j < li.1.length
      · rw [gDa_l (by omega)] at hx hy
        rw [gDa_l qi, gDa_l qj]
        exact h i j qi qj hx hy
      · have e : j = li.1.length := by omega
        rw [e, d1] at hy
        exact absurd hy (by decide)
    · have e : i = li.1.length := by omega
      rw [e, d1] at hx
      exact absurd hx (by decide)
theorem pShN_lt {x : List SH} {k : Int32} {j : Nat} (h : ¬ (x.getD j shD).2.1 = k) : ∀ n : Nat, j < n → pShN x k n + 1 ≤ n := by
  intro n
  have le : ∀ m : Nat, pShN x k m ≤ m := fun m => by
    have := List.countP_le_length (p := fun i => decide ((x.getD i shD).2.1 = k)) (l := List.range m)
    rw [List.length_range] at this
    exact this
  induction n with
  | zero => intro q; omega
  | succ n ih =>
    intro hj
    have e : pShN x k (n + 1) = pShN x k n + (if (x.getD n shD).2.1 = k then 1 else 0) := by
      by_cases q : (x.getD n shD).2.1 = k
      · rw [if_pos q]
        exact (pC_s (f := fun i => decide ((x.getD i shD).2.1 = k)) (n := n) (decide_eq_true q)).symm
      · rw [if_neg q]
        exact (pC_n (f := fun i => decide ((x.getD i shD).2.1 = k)) (n := n) (by simpa using q)).symm
    by_cases q : j = n
    · subst q
      rw [if_neg h] at e
      have := le j
      omega
    · have := ih (by omega)
      rw [e]
      split <;> omega
theorem pShN_set {x : List SH} {c : SH} {k : Int32} {j : Nat} (hj : j < x.length) (h : ¬ (x.getD j shD).2.1 = k) (hc : c.2.1 = k) : ∀ n : Nat, j < n → pShN x k n + 1 ≤ pShN (x.set j c) k n := by
  intro n
  have st : ∀ (y : List SH) (m : Nat), pShN y k (m + 1) = pShN y k m + (if (y.getD m shD).2.1 = k then 1 else 0) := fun y m => by
    by_cases q : (y.getD m shD).2.1 = k
    · rw [if_pos q]
      exact (pC_s (f := fun i => decide ((y.getD i shD).2.1 = k)) (n := m) (decide_eq_true q)).symm
    · rw [if_neg q]
      exact (pC_n (f := fun i => decide ((y.getD i shD).2.1 = k)) (n := m) (by simpa using q)).symm
  induction n with
  | zero => intro q; omega
  | succ n ih =>
    intro hn
    rw [st, st]
    by_cases q : j = n
    · subst q
      rw [if_neg h, gSs_eq hj, if_pos hc]
      have := @pShN_le x (x.set j c) k j (fun i hi hq => by rw [gSs_ne (by omega)]; exact hq)
      omega
    · have := ih (by omega)
      rw [gSs_ne q]
      split <;> omega
theorem sR_mg {st f : Nat → Int32} {t : TS} {j r : Nat} (h : sR st t.1) (hj : j < t.1.2.2.1.length) (h1 : (oShj t j).2.1 = 1) (hr : r < 6) (hsr : (oShj t j).1 = nI r) (hL : sLi f (pMg (oShj t j).2.2 (nI r) t.1.2.2.2.1 (oShj t j).2.2.length) t.1.1.length) (hA : sAp (pMg (oShj t j).2.2 (nI r) t.1.2.2.2.1 (oShj t j).2.2.length)) (e1 : f (127 + 35 * j + 1) = 3) (e2 : f 5 = st 5 + nI (oMgU t j)) (e3 : f (9 + 3 * r + 2) = st (9 + 3 * r + 2) + nI (oShj t j).2.2.length)
    (e : ∀ q : Nat, q < 407 → q ≠ 3 → q ≠ 5 → q ≠ 9 + 3 * r + 2 → q ≠ 127 + 35 * j + 1 → f q = st q) : sR f (oMg t j) := by
  have hs := sR_stat (f := upd st (127 + 35 * j + 1) (nI 3)) (k := 3) h hj (by decide) (fun _ => rfl) pk_us (fun q _ hq => pk_un hq)
  obtain ⟨g0, g1, g2, g3, g4, g5, g6⟩ := h
  have m8 : (oShj t j).2.2.length ≤ 8 := (g2.2.2 j hj).2.2.2.1
  have l2 := g2.2.1
  have k1 := g4.2.2.2.2.1 1 (by decide)
  have k2 := (g4.2.2.2.2.2 r hr).2.2
  unfold oMg
  rw [hsr]
  refine ⟨sTx_cg g0 (fun q hq hb => e q (by omega) (by omega) (by omega) (by omega) (by omega)), by rw [e 1 (by omega) (by omega) (by omega) (by omega) (by omega)]; exact g1, ?_, hL, ?_, hA, ?_⟩
  · have s9 : sSh f (t.1.2.2.1.set j ((t.1.2.2.1.getD j shD).1, nI 3, (t.1.2.2.1.getD j shD).2.2)) t.1.1.length := sSh_cg hs.2.2.1 (Nat.le_refl _) (fun q hq hb => by
      by_cases y : q = 127 + 35 * j + 1
      · rw [y, pk_us, e1]
        rfl
      · rw [pk_un y]
        exact e q (by omega) (by omega) (by omega) (by omega) y)
    rw [show ((nI r, 3, (oShj t j).2.2) : SH) = ((t.1.2.2.1.getD j shD).1, nI 3, (t.1.2.2.1.getD j shD).2.2) from by rw [← hsr]; rfl]
    exact s9
  · have a1 := sAc_0 (f := upd st 5 (st 5 + nI (oMgU t j))) (k := 1) (y := nI (oMgU t j)) g4 (by decide) (by rw [← k1]; exact pk_us) (fun q hq hd => pk_un (by omega))
    exact sAc_3 (k := r) (y := nI (oShj t j).2.2.length) a1 hr (by rw [e3, k2]) (fun q hq hd => by
      by_cases y : q = 5
      · rw [y, pk_us, e2]
      · rw [pk_un y]
        exact e q (by omega) (by omega) y hd (by omega))
  · show (pMg _ _ _ _).1.length ≤ 8 * pShN (t.1.2.2.1.set j _) 3 (t.1.2.2.1.set j _).length
    rw [List.length_set]
    have q1 := @pMg_le (oShj t j).2.2 (nI r) t.1.2.2.2.1 (oShj t j).2.2.length
    have q2 := pShN_set (x := t.1.2.2.1) (c := (nI r, 3, (oShj t j).2.2)) (k := 3) hj (by rw [show (t.1.2.2.1.getD j shD).2.1 = 1 from h1]; decide) rfl t.1.2.2.1.length hj
    have q3 : t.1.2.2.2.1.1.length ≤ 8 * pShN t.1.2.2.1 3 t.1.2.2.1.length := g6
    omega

