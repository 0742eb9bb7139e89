/-! THE MODEL: the text of the next round at once is the class's, the pure lemma -/
theorem gSt_e {xs : List Int32} {i j : Nat} {v : Int32} : (xs.set i v).getD j 0 = if i = j ∧ j < xs.length then v else xs.getD j 0 := by
  rw [List.getD_eq_getElem?_getD, List.getElem?_set]
  by_cases h : i = j
  · subst h
    by_cases q : i < xs.length
    · rw [if_pos rfl, if_pos q, if_pos ⟨rfl, q⟩]
      rfl
    · rw [if_pos rfl, if_neg q, if_neg (fun y => q y.2), List.getD_eq_getElem?_getD, List.getElem?_eq_none (by omega)]
  · rw [if_neg h, if_neg (fun y => h y.1), List.getD_eq_getElem?_getD]
theorem lget_F {xs : List Int32} (c : Int32) : lget xs (nI (pF c)) = xs.getD (pF c) 0 := lget_nI (by have := pF_lt c; omega)
theorem lset_F {xs : List Int32} (c v : Int32) : lset xs (nI (pF c)) v = xs.set (pF c) v := lset_nI (by have := pF_lt c; omega)
theorem lget_F1 {xs : List Int32} (c : Int32) : lget xs (nI (pF c + 1)) = xs.getD (pF c + 1) 0 := lget_nI (by have := pF_lt c; omega)
theorem lset_F1 {xs : List Int32} (c v : Int32) : lset xs (nI (pF c + 1)) v = xs.set (pF c + 1) v := lset_nI (by have := pF_lt c; omega)
theorem pZero_e {xs : List Int32} {a pos : Nat} (ha : a < 300) (hp : pos < xs.length) : ∀ n : Nat, n < 300 → (pZero xs a n).getD pos 0 = if a ≤ pos ∧ pos < a + n then 0 else xs.getD pos 0 := by
  intro n
  induction n with
  | zero => intro _; rw [if_neg (by omega)]; rfl
  | succ n ih =>
    intro hn
    rw [pZero, lset_nI (by omega), gSt_e, pZero_n, ih (by omega)]
    by_cases q : a + n = pos
    · rw [if_pos ⟨q, hp⟩, if_pos (by omega)]
    · rw [if_neg (fun y => q y.1)]
      by_cases q2 : a ≤ pos ∧ pos < a + n
      · rw [if_pos q2, if_pos (by omega)]
      · rw [if_neg q2, if_neg (by omega)]
def mV0 (tx : List Int32) (c : Int32) (pos : Nat) : Int32 := if pKind c = 0 then 0 else mVal tx c pos
theorem pArr_1 {tx : List Int32} {w : List Int32 × List Int32} {c : Int32} (h : ¬ pKind c = 1) : (pArr tx w c).1 = w.1 := by
  unfold pArr
  by_cases h0 : pKind c = 0
  · rw [if_pos h0]
  rw [if_neg h0, if_neg h]
  by_cases h2 : pKind c = 2
  · rw [if_pos h2]
  rw [if_neg h2]
  by_cases h3 : pKind c = 3
  · rw [if_pos h3]
  rw [if_neg h3]
  by_cases h4 : pKind c = 4
  · rw [if_pos h4]
  rw [if_neg h4]
theorem pArr_2 {tx : List Int32} {w : List Int32 × List Int32} {c : Int32} {pos : Nat} (hc : iOk c tx.length) (hw : w.2.length = tx.length) (hp : pos < tx.length) : (pArr tx w c).2.getD pos 0 = if pF c ≤ pos ∧ pos < pE c ∧ ¬ pKind c = 5 then mV0 tx c pos else w.2.getD pos 0 := by
  have u1 := pF_lt c
  have u2 := pS_lt c
  rcases hc.1 with h | h | h | h | h | h
  · have e : pE c = pS c := if_pos h.1
    rw [pArr, if_pos h.1, e]
    show (pZero w.2 (pF c) (pS c - pF c)).getD pos 0 = _
    rw [pZero_e (by omega) (by omega) _ (by omega), mV0, if_pos h.1]
    by_cases q : pF c ≤ pos ∧ pos < pS c
    · rw [if_pos (by omega), if_pos ⟨q.1, q.2, by rw [h.1]; decide⟩]
    · rw [if_neg (by omega), if_neg (fun y => q ⟨y.1, y.2.1⟩)]
  · have e := pE_1 h.1
    have k0 : ¬ pKind c = 0 := by rw [h.1]; decide
    rw [pArr, if_neg k0, if_pos h.1, if_neg (by omega)]
  · have k0 : ¬ pKind c = 0 := by rw [h.1]; decide
    have k1 : ¬ pKind c = 1 := by rw [h.1]; decide
    have k3 : ¬ pKind c = 3 := by rw [h.1]; decide
    have e : pE c = pF c + 1 := by rw [pE, if_neg k0, if_neg k1, if_neg k3]
    rw [pArr, if_neg k0, if_neg k1, if_pos h.1, e]
    show (lset w.2 (nI (pF c)) (pSign c)).getD pos 0 = _
    rw [lset_F, gSt_e, hw, mV0, if_neg k0, mVal, if_neg k0, if_pos h.1]
    by_cases q : pF c = pos
    · rw [if_pos ⟨q, hp⟩, if_pos ⟨by omega, by omega, by rw [h.1]; decide⟩]
    · rw [if_neg (fun y => q y.1), if_neg (by omega)]
  · have k0 : ¬ pKind c = 0 := by rw [h.1]; decide
    have k1 : ¬ pKind c = 1 := by rw [h.1]; decide
    have k2 : ¬ pKind c = 2 := by rw [h.1]; decide
    have e := pE_3 h.1
    rw [pArr, if_neg k0, if_neg k1, if_neg k2, if_pos h.1, e]
    show (lset (lset w.2 (nI (pF c)) (lget tx (nI (pF c + 1)))) (nI (pF c + 1)) (lget tx (nI (pF c)))).getD pos 0 = _
    rw [lset_F, lset_F1, lget_F, lget_F1, gSt_e, gSt_e, List.length_set, hw, mV0, if_neg k0, mVal, if_neg k0, if_neg k2, if_pos h.1]
    by_cases q : pF c + 1 = pos
    · rw [if_pos ⟨q, hp⟩, if_pos ⟨by omega, by omega, by rw [h.1]; decide⟩, show 2 * pF c + 1 - pos = pF c by omega]
    · rw [if_neg (fun y => q y.1)]
      by_cases q2 : pF c = pos
      · rw [if_pos ⟨q2, hp⟩, if_pos ⟨by omega, by omega, by rw [h.1]; decide⟩, show 2 * pF c + 1 - pos = pF c + 1 by omega]
      · rw [if_neg (fun y => q2 y.1), if_neg (by omega)]
  · have k0 : ¬ pKind c = 0 := by rw [h.1]; decide
    have k1 : ¬ pKind c = 1 := by rw [h.1]; decide
    have k2 : ¬ pKind c = 2 := by rw [h.1]; decide
    have k3 : ¬ pKind c = 3 := by rw [h.1]; decide
    have e : pE c = pF c + 1 := by rw [pE, if_neg k0, if_neg k1, if_neg k3]
    rw [pArr, if_neg k0, if_neg k1, if_neg k2, if_neg k3, if_pos h.1, e]
    show (lset w.2 (nI (pF c)) (pOther (lget tx (nI (pF c))))).getD pos 0 = _
    rw [lset_F, lget_F, gSt_e, hw, mV0, if_neg k0, mVal, if_neg k0, if_neg k2, if_neg k3]
    by_cases q : pF c = pos
    · rw [if_pos ⟨q, hp⟩, if_pos ⟨by omega, by omega, by rw [h.1]; decide⟩, q]
    · rw [if_neg (fun y => q y.1), if_neg (by omega)]
  · have k0 : ¬ pKind c = 0 := by rw [h.1]; decide
    have k1 : ¬ pKind c = 1 := by rw [h.1]; decide
    have k2 : ¬ pKind c = 2 := by rw [h.1]; decide
    have k3 : ¬ pKind c = 3 := by rw [h.1]; decide
    have k4 : ¬ pKind c = 4 := by rw [h.1]; decide
    rw [pArr, if_neg k0, if_neg k1, if_neg k2, if_neg k3, if_neg k4, if_neg (fun y => y.2.2 h.1)]
theorem pArrs_1 {tx : List Int32} {li : ML} (hA : sAp li) (hN : li.1.Nodup) (hI : ∀ k : Nat, k < li.1.length → iOk (li.1.getD k 0) tx.length) {pos : Nat} (hp : pos ≤ tx.length) : ∀ k : Nat, k ≤ li.1.length → mBr li pos k = if (pArrs tx li.1 li.2.1 k).1.getD pos 0 = 0 then [] else [(pArrs tx li.1 li.2.1 k).1.getD pos 0] := by
  intro k
  induction k with
  | zero =>
    intro _
    have e : (pArrs tx li.1 li.2.1 0).1.getD pos 0 = 0 := by
      show (List.replicate (tx.length + 1) (0 : Int32)).getD pos 0 = 0
      rw [List.getD_eq_getElem?_getD, List.getElem?_replicate]
      split <;> rfl
    rw [if_pos e]
    rfl
  | succ k ih =>
    intro hk
    have ih := ih (by omega)
    rw [mBr, pArrs]
    by_cases a : li.2.1.getD k 0 = 1
    · rw [if_pos a]
      by_cases k1 : pKind (li.1.getD k 0) = 1
      · have e : (pArr tx (pArrs tx li.1 li.2.1 k) (li.1.getD k 0)).1 = (pArrs tx li.1 li.2.1 k).1.set (pF (li.1.getD k 0)) (pSign (li.1.getD k 0)) := by
          rw [pArr, if_neg (by rw [k1]; decide), if_pos k1, ← lset_F]
        rw [e, gSt_e, (pArrs_n).1]
        by_cases q : pF (li.1.getD k 0) = pos
        · have e0 : mBr li pos k = [] := by
            by_cases y : mBr li pos k = []
            · exact y
            · obtain ⟨i, i1, i2, i3, i4⟩ := mBr_ex k y
              have := ins_un hA hN (by omega) (by omega) i2 a i3 k1 (i4.trans q.symm)
              omega
          have h32 := ((hI k (by omega)).2 (Or.inl k1)).1
          have hn : ¬ pSign (li.1.getD k 0) = 0 := fun y => by rw [y] at h32; exact absurd h32 (by decide)
          have c1 : li.2.1.getD k 0 = 1 ∧ pKind (li.1.getD k 0) = 1 ∧ pF (li.1.getD k 0) = pos := ⟨a, k1, q⟩
          have c2 : pF (li.1.getD k 0) = pos ∧ pos < tx.length + 1 := ⟨q, by omega⟩
          rw [if_pos c1, if_pos c2, if_neg hn, e0]
          rfl
        · have c1 : ¬ (li.2.1.getD k 0 = 1 ∧ pKind (li.1.getD k 0) = 1 ∧ pF (li.1.getD k 0) = pos) := fun y => q y.2.2
          have c2 : ¬ (pF (li.1.getD k 0) = pos ∧ pos < tx.length + 1) := fun y => q y.1
          rw [if_neg c1, if_neg c2]
          exact ih
      · have c1 : ¬ (li.2.1.getD k 0 = 1 ∧ pKind (li.1.getD k 0) = 1 ∧ pF (li.1.getD k 0) = pos) := fun y => k1 y.2.1
        rw [if_neg c1, pArr_1 k1]
        exact ih
    · have c1 : ¬ (li.2.1.getD k 0 = 1 ∧ pKind (li.1.getD k 0) = 1 ∧ pF (li.1.getD k 0) = pos) := fun y => a y.1
      rw [if_neg c1, if_neg a]
      exact ih
theorem pArrs_2 {tx : List Int32} {li : ML} (hI : ∀ k : Nat, k < li.1.length → iOk (li.1.getD k 0) tx.length) {pos : Nat} (hp : pos < tx.length) : ∀ k : Nat, k ≤ li.1.length → (∃ i : Nat, i < k ∧ mHit li pos i ∧ (pArrs tx li.1 li.2.1 k).2.getD pos 0 = mV0 tx (li.1.getD i 0) pos) ∨ ((∀ i : Nat, i < k → ¬ mHit li pos i) ∧ (pArrs tx li.1 li.2.1 k).2.getD pos 0 = tx.getD pos 0) := by
  intro k
  induction k with
  | zero => intro _; exact Or.inr ⟨fun i hi => absurd hi (by omega), rfl⟩
  | succ k ih =>
    intro hk
    have ih := ih (by omega)
    have key : mHit li pos k ∨ ¬ mHit li pos k := Classical.em _
    rcases key with q | q
    · refine Or.inl ⟨k, by omega, q, ?_⟩
      rw [pArrs, if_pos q.1, pArr_2 (hI k (by omega)) pArrs_n.2 hp, if_pos q.2]
    · have e : (pArrs tx li.1 li.2.1 (k + 1)).2.getD pos 0 = (pArrs tx li.1 li.2.1 k).2.getD pos 0 := by
        rw [pArrs]
        by_cases a : li.2.1.getD k 0 = 1
        · rw [if_pos a, pArr_2 (hI k (by omega)) pArrs_n.2 hp, if_neg (fun y => q ⟨a, y⟩)]
        · rw [if_neg a]
      rw [e]
      rcases ih with ⟨i, h1, h2⟩ | ⟨h1, h2⟩
      · exact Or.inl ⟨i, by omega, h2⟩
      · refine Or.inr ⟨fun i hi => ?_, h2⟩
        by_cases y : i = k
        · subst y; exact q
        · exact h1 i (by omega)
def cOk (x : Int32) : Prop := 32 ≤ x ∧ x ≤ 126
theorem cOk_n {x : Int32} (h : cOk x) : ¬ x < 0 ∧ ¬ x = 0 := by
  obtain ⟨h1, h2⟩ := h
  have e : (32 : Int32).toInt = 32 := by decide
  have e0 : (0 : Int32).toInt = 0 := by decide
  rw [Int32.le_iff_toInt_le, e] at h1
  refine ⟨fun q => ?_, fun q => ?_⟩
  · rw [Int32.lt_iff_toInt_lt, e0] at q
    omega
  · rw [q, e0] at h1
    omega
theorem cOk_i {x : Int32} : cOk x ↔ 32 ≤ x.toInt ∧ x.toInt ≤ 126 := by
  unfold cOk
  rw [Int32.le_iff_toInt_le, Int32.le_iff_toInt_le]
  exact Iff.rfl
theorem cOk_ex {x : Int32} (h : cOk x) : ∃ n : Nat, x = nI n ∧ 32 ≤ n ∧ n ≤ 126 := by
  obtain ⟨h1, h2⟩ := cOk_i.mp h
  refine ⟨x.toInt.toNat, ?_, by omega, by omega⟩
  refine Int32.toInt_inj.mp ?_
  rw [nI_toInt (by omega)]
  omega
theorem cOk_ot0 : ∀ n : Nat, n ≤ 126 → 32 ≤ n → 32 ≤ pOther (nI n) ∧ pOther (nI n) ≤ 126 := by decide +kernel
theorem cOk_ot {x : Int32} (h : cOk x) : cOk (pOther x) := by
  obtain ⟨n, rfl, h1, h2⟩ := cOk_ex h
  exact cOk_ot0 n h2 h1
theorem mVal_ok {tx : List Int32} {li : ML} {pos i : Nat} (hI : iOk (li.1.getD i 0) tx.length) (hC : ∀ k : Nat, k < tx.length → cOk (tx.getD k 0)) (hp : pos < tx.length) (h : mHit li pos i) (k0 : ¬ pKind (li.1.getD i 0) = 0) : cOk (mVal tx (li.1.getD i 0) pos) := by
  have k1 := hit_1 h
  rw [mVal, if_neg k0]
  by_cases k2 : pKind (li.1.getD i 0) = 2
  · rw [if_pos k2]
    exact hI.2 (Or.inr k2)
  · rw [if_neg k2]
    by_cases k3 : pKind (li.1.getD i 0) = 3
    · rw [if_pos k3]
      have e := pE_3 k3
      have f := iOk_3 hI.1 k3
      have h1 := h.2.1
      have h2 := h.2.2.1
      exact hC _ (by omega)
    · rw [if_neg k3]
      exact cOk_ot (hC pos hp)
theorem mTv_c {tx : List Int32} {li : ML} (hA : sAp li) (hN : li.1.Nodup) (hI : ∀ k : Nat, k < li.1.length → iOk (li.1.getD k 0) tx.length) (hC : ∀ k : Nat, k < tx.length → cOk (tx.getD k 0)) {pos : Nat} (hp : pos < tx.length) : (mTv tx li pos < 0 ∧ (pArrs tx li.1 li.2.1 li.1.length).2.getD pos 0 = 0) ∨ (cOk (mTv tx li pos) ∧ (pArrs tx li.1 li.2.1 li.1.length).2.getD pos 0 = mTv tx li pos) := by
  rcases pArrs_2 hI hp li.1.length (Nat.le_refl _) with ⟨i, h1, h2, h3⟩ | ⟨h1, h2⟩
  · have e : mVal tx (li.1.getD i 0) pos = mTv tx li pos := mTv_e (Or.inl ⟨i, h1, h2, fun j hj y => by have := hit_un hA hN (by omega) h1 y h2; omega, rfl⟩)
    rw [h3, mV0]
    by_cases k0 : pKind (li.1.getD i 0) = 0
    · refine Or.inl ⟨?_, if_pos k0⟩
      rw [← e, mVal, if_pos k0]
      decide
    · refine Or.inr ⟨?_, by rw [if_neg k0, e]⟩
      rw [← e]
      exact mVal_ok (hI i h1) hC hp h2 k0
  · have e : tx.getD pos 0 = mTv tx li pos := mTv_e (Or.inr ⟨h1, rfl⟩)
    refine Or.inr ⟨?_, by rw [h2, e]⟩
    rw [← e]
    exact hC pos hp
theorem pPut_e {xs : List Int32} {c : Int32} (h : xs.length + (if c = 0 then ([] : List Int32) else [c]).length ≤ 164) : pPut xs c = xs ++ (if c = 0 then [] else [c]) := by
  unfold pPut
  by_cases q : c = 0
  · rw [if_pos q, if_pos q, List.append_nil]
  · rw [if_neg q] at h
    have h2 : xs.length < 164 := by
      have : [c].length = 1 := rfl
      omega
    rw [if_neg q, if_neg q, lapp, if_pos h2]
theorem pPrt_e {tx : List Int32} {li : ML} (hA : sAp li) (hN : li.1.Nodup) (hI : ∀ k : Nat, k < li.1.length → iOk (li.1.getD k 0) tx.length) (hC : ∀ k : Nat, k < tx.length → cOk (tx.getD k 0)) (ht : tx.length ≤ 100) (hl : li.1.length ≤ 64) : ∀ n : Nat, n ≤ tx.length → pPrt (pArrs tx li.1 li.2.1 li.1.length) n = mMk tx li n := by
  intro n
  induction n with
  | zero => intro _; rfl
  | succ n ih =>
    intro hn
    have m1 := @mMk_n tx li n
    have m2 := @mS_le li (n + 1) li.1.length
    rw [mS] at m2
    rw [pPrt, ih (by omega), mMk, lget_nI (by omega), lget_nI (by omega)]
    have e1 := pArrs_1 hA hN hI (pos := n) (by omega) li.1.length (Nat.le_refl _)
    have e2 : (if (pArrs tx li.1 li.2.1 li.1.length).2.getD n 0 = 0 then ([] : List Int32) else [(pArrs tx li.1 li.2.1 li.1.length).2.getD n 0]) = if mTv tx li n < 0 then [] else [mTv tx li n] := by
      rcases mTv_c hA hN hI hC (pos := n) (by omega) with ⟨h1, h2⟩ | ⟨h1, h2⟩
      · rw [if_pos h1, if_pos h2]
      · rw [h2, if_neg (cOk_n h1).1, if_neg (cOk_n h1).2]
    have e3 : (if mTv tx li n < 0 then ([] : List Int32) else [mTv tx li n]).length ≤ 1 := by split <;> simp
    have p1 : pPut (mMk tx li n) ((pArrs tx li.1 li.2.1 li.1.length).1.getD n 0) = mMk tx li n ++ mBr li n li.1.length := by
      rw [e1]
      exact pPut_e (by rw [← e1]; omega)
    rw [p1, ← e2]
    exact pPut_e (by rw [e2, List.length_append]; omega)
theorem lcut_t {xs : List Int32} (h : xs.length < 2 ^ 31) : lcut xs 100 = xs.take 100 := by
  have e : (100 : Int32) = nI 100 := by decide
  unfold lcut
  rw [e, gIn_nI (by omega), nI_clamp (by omega)]
  by_cases q : 100 < xs.length
  · rw [if_pos (decide_eq_true q)]
  · rw [if_neg (by simpa using q), List.take_of_length_le (by omega)]
theorem pOnce_e {tx : List Int32} {li : ML} (hA : sAp li) (hN : li.1.Nodup) (hI : ∀ k : Nat, k < li.1.length → iOk (li.1.getD k 0) tx.length) (hC : ∀ k : Nat, k < tx.length → cOk (tx.getD k 0)) (ht : tx.length ≤ 100) (hl : li.1.length ≤ 64) : pOnce tx li.1 li.2.1 = (mAll tx li).take 100 := by
  have m1 := @mMk_n tx li tx.length
  have m2 := @mS_le li (tx.length + 1) li.1.length
  rw [mS] at m2
  have e1 := pArrs_1 hA hN hI (pos := tx.length) (Nat.le_refl _) li.1.length (Nat.le_refl _)
  have e2 : (pArrs tx li.1 li.2.1 li.1.length).2.getD tx.length 0 = 0 := by
    rw [List.getD_eq_getElem?_getD, List.getElem?_eq_none (by rw [pArrs_n.2]; exact Nat.le_refl _)]
    rfl
  have m3 := @mAll_n tx li
  rw [pOnce, pPrt, pPrt_e hA hN hI hC ht hl _ (Nat.le_refl _), lget_nI (by omega), lget_nI (by omega), e2]
  have p1 : pPut (mMk tx li tx.length) ((pArrs tx li.1 li.2.1 li.1.length).1.getD tx.length 0) = mMk tx li tx.length ++ mBr li tx.length li.1.length := by
    rw [e1]
    exact pPut_e (by rw [← e1]; omega)
  rw [p1]
  show lcut (mAll tx li) 100 = _
  exact lcut_t (by omega)
theorem mBr_ok {tx : List Int32} {li : ML} (hI : ∀ k : Nat, k < li.1.length → iOk (li.1.getD k 0) tx.length) {pos : Nat} : ∀ k : Nat, k ≤ li.1.length → ∀ x ∈ mBr li pos k, cOk x := by
  intro k
  induction k with
  | zero => intro _ x hx; exact absurd hx (by simp [mBr])
  | succ k ih =>
    intro hk x hx
    rw [mBr] at hx
    by_cases q : li.2.1.getD k 0 = 1 ∧ pKind (li.1.getD k 0) = 1 ∧ pF (li.1.getD k 0) = pos
    · rw [if_pos q, List.mem_append] at hx
      rcases hx with hx | hx
      · exact ih (by omega) x hx
      · rw [List.mem_singleton] at hx
        rw [hx]
        exact (hI k (by omega)).2 (Or.inl q.2.1)
    · rw [if_neg q] at hx
      exact ih (by omega) x hx
theorem mMk_ok {tx : List Int32} {li : ML} (hA : sAp li) (hN : li.1.Nodup) (hI : ∀ k : Nat, k < li.1.length → iOk (li.1.getD k 0) tx.length) (hC : ∀ k : Nat, k < tx.length → cOk (tx.getD k 0)) : ∀ n : Nat, n ≤ tx.length → ∀ x ∈ mMk tx li n, cOk x := by
  intro n
  induction n with
  | zero => intro _ x hx; exact absurd hx (by simp [mMk])
  | succ n ih =>
    intro hn x hx
    rw [mMk, List.mem_append, List.mem_append] at hx
    rcases hx with (hx | hx) | hx
    · exact ih (by omega) x hx
    · exact mBr_ok hI _ (Nat.le_refl _) x hx
    · rcases mTv_c hA hN hI hC (pos := n) (by omega) with ⟨h1, h2⟩ | ⟨h1, h2⟩
      · rw [if_pos h1] at hx
        exact absurd hx (by simp)
      · rw [if_neg (cOk_n h1).1, List.mem_singleton] at hx
        rw [hx]
        exact h1
theorem mAll_ok {tx : List Int32} {li : ML} (hA : sAp li) (hN : li.1.Nodup) (hI : ∀ k : Nat, k < li.1.length → iOk (li.1.getD k 0) tx.length) (hC : ∀ k : Nat, k < tx.length → cOk (tx.getD k 0)) : ∀ x ∈ (mAll tx li).take 100, cOk x := by
  intro x hx
  have hx := List.mem_of_mem_take hx
  unfold mAll at hx
  rw [List.mem_append] at hx
  rcases hx with hx | hx
  · exact mMk_ok hA hN hI hC _ (Nat.le_refl _) x hx
  · exact mBr_ok hI _ (Nat.le_refl _) x hx
