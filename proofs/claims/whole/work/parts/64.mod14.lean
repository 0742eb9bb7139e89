/-! THE MODEL: the text of the next round at once is the class's -/
def mS (li : ML) (k : Nat) : Nat → Nat
  | 0 => 0
  | n + 1 => mS li k n + (mBr li n k).length
theorem mS_s {li : ML} {k : Nat} : ∀ n : Nat, mS li (k + 1) n ≤ mS li k n + (if pF (li.1.getD k 0) < n then 1 else 0) := by
  intro n
  induction n with
  | zero => exact Nat.zero_le _
  | succ n ih =>
    have e : (mBr li n (k + 1)).length ≤ (mBr li n k).length + (if pF (li.1.getD k 0) = n then 1 else 0) := by
      rw [mBr]
      by_cases q : li.2.1.getD k 0 = 1 ∧ pKind (li.1.getD k 0) = 1 ∧ pF (li.1.getD k 0) = n
      · rw [if_pos q, if_pos q.2.2, len_1]
        exact Nat.le_refl _
      · rw [if_neg q]
        exact Nat.le_add_right _ _
    show mS li (k + 1) n + (mBr li n (k + 1)).length ≤ mS li k n + (mBr li n k).length + _
    by_cases q : pF (li.1.getD k 0) = n
    · rw [if_pos q] at e
      rw [if_neg (by omega)] at ih
      rw [if_pos (by omega)]
      omega
    · rw [if_neg q] at e
      by_cases q2 : pF (li.1.getD k 0) < n
      · rw [if_pos q2] at ih
        rw [if_pos (by omega)]
        omega
      · rw [if_neg q2] at ih
        rw [if_neg (by omega)]
        omega
theorem mS_0 {li : ML} : ∀ n : Nat, mS li 0 n = 0 := by
  intro n
  induction n with
  | zero => rfl
  | succ n ih => rw [mS, ih]; rfl
theorem mS_le {li : ML} {n : Nat} : ∀ k : Nat, mS li k n ≤ k := by
  intro k
  induction k with
  | zero => rw [mS_0]; exact Nat.le_refl _
  | succ k ih =>
    have := @mS_s li k n
    have h2 : (if pF (li.1.getD k 0) < n then 1 else 0) ≤ 1 := by split <;> omega
    omega
theorem mMk_n {tx : List Int32} {li : ML} : ∀ n : Nat, (mMk tx li n).length ≤ n + mS li li.1.length n := by
  intro n
  induction n with
  | zero => exact Nat.zero_le _
  | succ n ih =>
    rw [mMk, List.length_append, List.length_append, mS]
    have h2 : (if mTv tx li n < 0 then ([] : List Int32) else [mTv tx li n]).length ≤ 1 := by split <;> simp
    omega
theorem mAll_n {tx : List Int32} {li : ML} : (mAll tx li).length ≤ tx.length + li.1.length := by
  have h1 := @mMk_n tx li tx.length
  have h2 := @mS_le li (tx.length + 1) li.1.length
  rw [mS] at h2
  unfold mAll
  rw [List.length_append]
  omega
/-- two marks that are accepted and not the same -/
theorem ac_un {li : ML} {i k : Nat} (hA : sAp li) (hN : li.1.Nodup) (hi : i < li.1.length) (hk : k < li.1.length) (hne : i ≠ k) (ai : li.2.1.getD i 0 = 1) (ak : li.2.1.getD k 0 = 1) : ¬ li.1.getD i 0 = li.1.getD k 0 ∧ pOpp (li.1.getD i 0) (li.1.getD k 0) = 0 := by
  refine ⟨fun q => hne ?_, hA i k hi hk ai ak⟩
  rw [gD_in hi, gD_in hk] at q
  exact (List.getElem_inj hN).mp q
theorem hit_1 {li : ML} {pos i : Nat} (h : mHit li pos i) : ¬ pKind (li.1.getD i 0) = 1 := fun q => by
  have e := pE_1 q
  have h1 := h.2.1
  have h2 := h.2.2.1
  omega
theorem hit_un {li : ML} {pos i k : Nat} (hA : sAp li) (hN : li.1.Nodup) (hi : i < li.1.length) (hk : k < li.1.length) (h1 : mHit li pos i) (h2 : mHit li pos k) : i = k := by
  by_cases hne : i = k
  · exact hne
  · exfalso
    obtain ⟨u1, u2⟩ := ac_un hA hN hi hk hne h1.1 h2.1
    rw [pOpp, if_neg (fun q => q.elim u1 (fun q => q.elim h1.2.2.2 h2.2.2.2)), if_neg (fun q => hit_1 h1 q.1), pFirst_nI, pFirst_nI, pEnd_nI, pEnd_nI] at u2
    have b1 := pF_lt (li.1.getD i 0)
    have b2 := pF_lt (li.1.getD k 0)
    have b3 := pE_lt (li.1.getD i 0)
    have b4 := pE_lt (li.1.getD k 0)
    have c1 := h1.2.1
    have c2 := h1.2.2.1
    have c3 := h2.2.1
    have c4 := h2.2.2.1
    have w1 : nI (pF (li.1.getD i 0)) < nI (pE (li.1.getD k 0)) := nI_lt (by omega) (by omega)
    have w2 : nI (pF (li.1.getD k 0)) < nI (pE (li.1.getD i 0)) := nI_lt (by omega) (by omega)
    have w3 : nI (pF (li.1.getD i 0)) < nI (pE (li.1.getD k 0)) ∧ nI (pF (li.1.getD k 0)) < nI (pE (li.1.getD i 0)) := ⟨w1, w2⟩
    rw [if_pos w3] at u2
    exact absurd u2 (by decide)
theorem mBr_ex {li : ML} {pos : Nat} : ∀ k : Nat, ¬ mBr li pos k = [] → ∃ i : Nat, i < k ∧ li.2.1.getD i 0 = 1 ∧ pKind (li.1.getD i 0) = 1 ∧ pF (li.1.getD i 0) = pos := by
  intro k
  induction k with
  | zero => intro h; exact absurd rfl h
  | succ k ih =>
    intro h
    by_cases q : li.2.1.getD k 0 = 1 ∧ pKind (li.1.getD k 0) = 1 ∧ pF (li.1.getD k 0) = pos
    · exact ⟨k, by omega, q⟩
    · rw [mBr, if_neg q] at h
      obtain ⟨i, h1, h2⟩ := ih h
      exact ⟨i, by omega, h2⟩
theorem ins_un {li : ML} {i k : Nat} (hA : sAp li) (hN : li.1.Nodup) (hi : i < li.1.length) (hk : k < li.1.length) (ai : li.2.1.getD i 0 = 1) (ak : li.2.1.getD k 0 = 1) (ki : pKind (li.1.getD i 0) = 1) (kk : pKind (li.1.getD k 0) = 1) (hp : pF (li.1.getD i 0) = pF (li.1.getD k 0)) : i = k := by
  by_cases hne : i = k
  · exact hne
  · exfalso
    obtain ⟨u1, u2⟩ := ac_un hA hN hi hk hne ai ak
    have w3 : pKind (li.1.getD i 0) = 1 ∧ pKind (li.1.getD k 0) = 1 := ⟨ki, kk⟩
    rw [pOpp, if_neg (fun q => q.elim u1 (fun q => q.elim (fun y => by rw [ki] at y; exact absurd y (by decide)) (fun y => by rw [kk] at y; exact absurd y (by decide)))), if_pos w3, pFirst_nI, pFirst_nI, hp, if_pos rfl] at u2
    exact absurd u2 (by decide)
