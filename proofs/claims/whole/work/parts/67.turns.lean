/-! AGAIN: the order in which marks are carried out, and what each does to the text; pure lemmas -/
def mBk (li : ML) (pos turn : Nat) : Nat → List Int32
  | 0 => []
  | k + 1 => if li.2.1.getD k 0 = 1 ∧ pF (li.1.getD k 0) = pos ∧ (pKind (li.1.getD k 0) = 1 ↔ turn = 1) then mBk li pos turn k ++ [li.1.getD k 0] else mBk li pos turn k
def mOr (li : ML) (L k : Nat) : Nat → List Int32
  | 0 => []
  | i + 1 => (mOr li L k i ++ mBk li (L - i) 0 k) ++ mBk li (L - i) 1 k
theorem mBk_m {li : ML} {pos turn : Nat} {x : Int32} : ∀ k : Nat, x ∈ mBk li pos turn k → ∃ i : Nat, i < k ∧ li.2.1.getD i 0 = 1 ∧ x = li.1.getD i 0 ∧ pF x = pos ∧ (pKind x = 1 ↔ turn = 1) := by
  intro k
  induction k with
  | zero => intro h; exact absurd h (by simp [mBk])
  | succ k ih =>
    intro h
    rw [mBk] at h
    by_cases q : li.2.1.getD k 0 = 1 ∧ pF (li.1.getD k 0) = pos ∧ (pKind (li.1.getD k 0) = 1 ↔ turn = 1)
    · rw [if_pos q, List.mem_append] at h
      rcases h with h | h
      · obtain ⟨i, h1, h2⟩ := ih h
        exact ⟨i, by omega, h2⟩
      · rw [List.mem_singleton] at h
        subst h
        exact ⟨k, by omega, q.1, rfl, q.2⟩
    · rw [if_neg q] at h
      obtain ⟨i, h1, h2⟩ := ih h
      exact ⟨i, by omega, h2⟩
theorem mOr_m {li : ML} {L k : Nat} {x : Int32} : ∀ n : Nat, n ≤ L + 1 → x ∈ mOr li L k n → pF x ≤ L ∧ L < pF x + n ∧ ∃ i : Nat, i < k ∧ li.2.1.getD i 0 = 1 ∧ x = li.1.getD i 0 := by
  intro n
  induction n with
  | zero => intro _ h; exact absurd h (by simp [mOr])
  | succ n ih =>
    intro hn h
    rw [mOr, List.mem_append, List.mem_append] at h
    rcases h with (h | h) | h
    · obtain ⟨h1, h2, h3⟩ := ih (by omega) h
      exact ⟨h1, by omega, h3⟩
    · obtain ⟨i, h1, h2, h3, h4, h5⟩ := mBk_m k h
      exact ⟨by omega, by omega, i, h1, h2, h3⟩
    · obtain ⟨i, h1, h2, h3, h4, h5⟩ := mBk_m k h
      exact ⟨by omega, by omega, i, h1, h2, h3⟩
theorem mOr_a {li : ML} {L k i : Nat} : ∀ n : Nat, mOr li L k (i + n) = mOr li L k i ++ mOr li (L - i) k n := by
  intro n
  induction n with
  | zero => rw [mOr, List.append_nil]; rfl
  | succ n ih =>
    show (mOr li L k (i + n) ++ mBk li (L - (i + n)) 0 k) ++ mBk li (L - (i + n)) 1 k = _
    rw [ih, mOr, Nat.sub_add_eq, List.append_assoc, List.append_assoc, List.append_assoc]
theorem mOr_1 {li : ML} {L k : Nat} : mOr li L k 1 = mBk li L 0 k ++ mBk li L 1 k := by
  show (([] : List Int32) ++ mBk li (L - 0) 0 k) ++ mBk li (L - 0) 1 k = _
  rw [List.nil_append, Nat.sub_zero]
theorem mBk_n {li : ML} {pos turn k : Nat} (h : ¬ (li.2.1.getD k 0 = 1 ∧ pF (li.1.getD k 0) = pos ∧ (pKind (li.1.getD k 0) = 1 ↔ turn = 1))) : mBk li pos turn (k + 1) = mBk li pos turn k := if_neg h
theorem mOr_n {li : ML} {L k : Nat} : ∀ n : Nat, n ≤ L + 1 → ¬ (li.2.1.getD k 0 = 1 ∧ pF (li.1.getD k 0) ≤ L ∧ L < pF (li.1.getD k 0) + n) → mOr li L (k + 1) n = mOr li L k n := by
  intro n
  induction n with
  | zero => intro _ _; rfl
  | succ n ih =>
    intro hn h
    rw [mOr, mOr, ih (by omega) (fun q => h ⟨q.1, q.2.1, by omega⟩), mBk_n (fun q => h ⟨q.1, by omega, by omega⟩), mBk_n (fun q => h ⟨q.1, by omega, by omega⟩)]
theorem mOr_0 {li : ML} {L : Nat} : ∀ n : Nat, mOr li L 0 n = [] := by
  intro n
  induction n with
  | zero => rfl
  | succ n ih => rw [mOr, ih]; rfl
theorem pBef_i {c x : Int32} : pBefore c x = true ↔ pF x < pF c ∨ (pF x = pF c ∧ ¬ pKind c = 1 ∧ pKind x = 1) := by
  have h1 := pF_lt c
  have h2 := pF_lt x
  unfold pBefore
  rw [pFirst_nI, pFirst_nI]
  by_cases q : pF c = pF x
  · rw [if_pos (by rw [q]), Bool.and_eq_true, decide_eq_true_eq, decide_eq_true_eq]
    constructor
    · intro y
      exact Or.inr ⟨q.symm, y⟩
    · rintro (y | y)
      · omega
      · exact y.2
  · rw [if_neg (fun y => q ((nI_eq (by omega) (by omega)).mp y)), decide_eq_true_eq, nI_ltI (by omega) (by omega)]
    constructor
    · intro y
      exact Or.inl y
    · rintro (y | y)
      · exact y
      · exact absurd y.1.symm q
theorem ins_ab {c : Int32} {B : List Int32} (hB : ∀ x ∈ B, pBefore c x = true) : ∀ A : List Int32, (∀ x ∈ A, ¬ pBefore c x = true) → (A ++ B).insertIdx (pTo (A ++ B) c) c = A ++ c :: B := by
  intro A
  induction A with
  | nil =>
    intro _
    rw [List.nil_append, List.nil_append]
    cases B with
    | nil => rfl
    | cons b B =>
      have e : pTo (b :: B) c = 0 := by
        unfold pTo
        rw [List.findIdx_cons, hB b List.mem_cons_self]
        rfl
      rw [e, List.insertIdx_zero]
  | cons a A ih =>
    intro hA
    have e : pTo (a :: A ++ B) c = pTo (A ++ B) c + 1 := by
      unfold pTo
      have q : pBefore c a = false := by
        have := hA a List.mem_cons_self
        simpa using this
      rw [List.cons_append, List.findIdx_cons, q]
      rfl
    rw [e, List.cons_append, List.insertIdx_succ_cons, ih (fun x hx => hA x (List.mem_cons_of_mem _ hx)), List.cons_append]
theorem pTurns_e {li : ML} {L : Nat} : ∀ k : Nat, (∀ i : Nat, i < k → li.2.1.getD i 0 = 1 → pF (li.1.getD i 0) ≤ L) → mOr li L k (L + 1) = pTurns li.1 li.2.1 k := by
  intro k
  induction k with
  | zero => intro _; rw [mOr_0]; rfl
  | succ k ih =>
    intro h
    have ih := ih (fun i hi => h i (by omega))
    rw [pTurns]
    by_cases a : li.2.1.getD k 0 = 1
    · rw [if_pos a, ← ih]
      have hp := h k (by omega) a
      obtain ⟨c, hc⟩ : ∃ c, c = li.1.getD k 0 := ⟨_, rfl⟩
      rw [← hc] at hp
      rw [← hc]
      have s0 : ∀ j : Nat, mOr li L j (L + 1) = mOr li L j (L - pF c) ++ ((mBk li (pF c) 0 j ++ mBk li (pF c) 1 j) ++ mOr li (pF c - 1) j (pF c)) := by
        intro j
        have e1 := @mOr_a li L j (L - pF c) (pF c + 1)
        have e2 := @mOr_a li (pF c) j 1 (pF c)
        rw [show L - pF c + (pF c + 1) = L + 1 by omega, show L - (L - pF c) = pF c by omega, Nat.add_comm (pF c) 1, e2, mOr_1] at e1
        exact e1
      have n1 : mOr li L (k + 1) (L - pF c) = mOr li L k (L - pF c) := mOr_n _ (by omega) (fun q => by rw [← hc] at q; omega)
      have n2 : mOr li (pF c - 1) (k + 1) (pF c) = mOr li (pF c - 1) k (pF c) := mOr_n _ (by omega) (fun q => by rw [← hc] at q; omega)
      have fA : ∀ x ∈ mOr li L k (L - pF c), ¬ pBefore c x = true := fun x hx q => by
        have y := mOr_m _ (by omega) hx
        rcases pBef_i.mp q with q | q
        · omega
        · omega
      have fB : ∀ x ∈ mOr li (pF c - 1) k (pF c), pBefore c x = true := fun x hx => by
        have y := mOr_m _ (by omega) hx
        exact pBef_i.mpr (Or.inl (by omega))
      rw [s0 (k + 1), s0 k, n1, n2]
      by_cases k1 : pKind c = 1
      · have b0 : mBk li (pF c) 0 (k + 1) = mBk li (pF c) 0 k := mBk_n (fun q => by rw [← hc] at q; exact absurd (q.2.2.mp k1) (by decide))
        have b1 : mBk li (pF c) 1 (k + 1) = mBk li (pF c) 1 k ++ [c] := by
          rw [mBk, ← hc]
          exact if_pos ⟨a, rfl, ⟨fun _ => rfl, fun _ => k1⟩⟩
        have key := ins_ab (c := c) fB (mOr li L k (L - pF c) ++ (mBk li (pF c) 0 k ++ mBk li (pF c) 1 k)) (fun x hx q => by
          rw [List.mem_append, List.mem_append] at hx
          rcases hx with hx | hx
          · exact fA x hx q
          · rcases pBef_i.mp q with q | q
            · rcases hx with hx | hx
              · obtain ⟨i, -, -, -, e, -⟩ := mBk_m _ hx
                omega
              · obtain ⟨i, -, -, -, e, -⟩ := mBk_m _ hx
                omega
            · exact q.2.1 k1)
        rw [show mOr li L k (L - pF c) ++ ((mBk li (pF c) 0 k ++ mBk li (pF c) 1 k) ++ mOr li (pF c - 1) k (pF c)) = (mOr li L k (L - pF c) ++ (mBk li (pF c) 0 k ++ mBk li (pF c) 1 k)) ++ mOr li (pF c - 1) k (pF c) by simp only [List.append_assoc], key, b0, b1]
        simp only [List.append_assoc, List.cons_append, List.nil_append]
      · have b0 : mBk li (pF c) 0 (k + 1) = mBk li (pF c) 0 k ++ [c] := by
          rw [mBk, ← hc]
          exact if_pos ⟨a, rfl, ⟨fun y => absurd y k1, fun y => absurd y (by decide)⟩⟩
        have b1 : mBk li (pF c) 1 (k + 1) = mBk li (pF c) 1 k := mBk_n (fun q => by rw [← hc] at q; exact k1 (q.2.2.mpr rfl))
        have key := ins_ab (c := c) (B := mBk li (pF c) 1 k ++ mOr li (pF c - 1) k (pF c)) (fun x hx => by
          rw [List.mem_append] at hx
          rcases hx with hx | hx
          · obtain ⟨i, -, -, -, e, e2⟩ := mBk_m _ hx
            exact pBef_i.mpr (Or.inr ⟨e, k1, e2.mpr rfl⟩)
          · exact fB x hx) (mOr li L k (L - pF c) ++ mBk li (pF c) 0 k) (fun x hx q => by
          rw [List.mem_append] at hx
          rcases hx with hx | hx
          · exact fA x hx q
          · obtain ⟨i, -, -, -, e, e2⟩ := mBk_m _ hx
            rcases pBef_i.mp q with q | q
            · omega
            · exact absurd (e2.mp q.2.2) (by decide))
        rw [show mOr li L k (L - pF c) ++ ((mBk li (pF c) 0 k ++ mBk li (pF c) 1 k) ++ mOr li (pF c - 1) k (pF c)) = (mOr li L k (L - pF c) ++ mBk li (pF c) 0 k) ++ (mBk li (pF c) 1 k ++ mOr li (pF c - 1) k (pF c)) by simp only [List.append_assoc], key, b0, b1]
        simp only [List.append_assoc, List.cons_append, List.nil_append]
    · rw [if_neg a, ← ih]
      exact mOr_n _ (by omega) (fun q => a q.1)
/-! what one mark does -/
theorem lrem_nI {xs : List Int32} {j : Nat} (hj : j < xs.length) (hl : xs.length < 2 ^ 31) : lrem xs (nI j) = xs.eraseIdx j := by
  unfold lrem
  rw [gIn_nI (by omega), nI_clamp (by omega), if_pos (decide_eq_true hj)]
theorem gEr_e {xs : List Int32} {a j : Nat} (ha : a < xs.length) : (xs.eraseIdx a).getD j 0 = if j < a then xs.getD j 0 else xs.getD (j + 1) 0 := by
  rw [List.getD_eq_getElem?_getD, List.getElem?_eraseIdx]
  split
  · rw [List.getD_eq_getElem?_getD]
  · rw [List.getD_eq_getElem?_getD]
theorem pRemN_e {xs : List Int32} {a : Nat} (hl : xs.length < 2 ^ 31) : ∀ n : Nat, a + n ≤ xs.length → (pRemN xs a n).length = xs.length - n ∧ ∀ j : Nat, (pRemN xs a n).getD j 0 = if j < a then xs.getD j 0 else xs.getD (j + n) 0 := by
  intro n
  induction n with
  | zero => intro _; exact ⟨rfl, fun j => by split <;> rfl⟩
  | succ n ih =>
    intro hn
    obtain ⟨h1, h2⟩ := ih (by omega)
    rw [pRemN, lrem_nI (by omega) (by omega)]
    refine ⟨by rw [List.length_eraseIdx, h1, if_pos (by omega)]; omega, fun j => ?_⟩
    rw [gEr_e (by omega), h2, h2]
    by_cases q : j < a
    · rw [if_pos q, if_pos q, if_pos q]
    · rw [if_neg q, if_neg (by omega), if_neg q, show j + 1 + n = j + (n + 1) by omega]
theorem lins_e {xs : List Int32} {a : Nat} {v : Int32} (ha : a ≤ xs.length) (hl : xs.length < 164) : (lins 164 xs (nI a) v).length = xs.length + 1 ∧ ∀ j : Nat, (lins 164 xs (nI a) v).getD j 0 = if j < a then xs.getD j 0 else if j = a then v else xs.getD (j - 1) 0 := by
  have e : lins 164 xs (nI a) v = xs.insertIdx a v := by
    unfold lins
    rw [gIn_nI (by omega), nI_clamp (by omega), decide_eq_true (show a < xs.length + 1 by omega), decide_eq_true hl]
    rfl
  rw [e]
  refine ⟨by rw [List.length_insertIdx, if_pos ha], fun j => ?_⟩
  rw [List.getD_eq_getElem?_getD, List.getElem?_insertIdx]
  by_cases q : j < a
  · rw [if_pos q, if_pos q, List.getD_eq_getElem?_getD]
  · rw [if_neg q, if_neg q]
    by_cases q2 : j = a
    · rw [if_pos q2, if_pos q2, if_pos (by omega)]
      rfl
    · rw [if_neg q2, if_neg q2, List.getD_eq_getElem?_getD]
theorem pCar_0 {xs : List Int32} {c : Int32} (h : pKind c = 0) : pCar xs c = pRemN xs (pF c) (pS c - pF c) := if_pos h
theorem pCar_1 {xs : List Int32} {c : Int32} (h : pKind c = 1) : pCar xs c = lins 164 xs (nI (pF c)) (pSign c) := by
  rw [pCar, if_neg (by rw [h]; decide), if_pos h]
theorem pCar_2 {xs : List Int32} {c : Int32} (h : pKind c = 2) : pCar xs c = xs.set (pF c) (pSign c) := by
  rw [pCar, if_neg (by rw [h]; decide), if_neg (by rw [h]; decide), if_pos h, lset_F]
theorem pCar_3 {xs : List Int32} {c : Int32} (h : pKind c = 3) : pCar xs c = (xs.set (pF c) (xs.getD (pF c + 1) 0)).set (pF c + 1) (xs.getD (pF c) 0) := by
  rw [pCar, if_neg (by rw [h]; decide), if_neg (by rw [h]; decide), if_neg (by rw [h]; decide), if_pos h, lset_F, lset_F1, lget_F, lget_F1]
theorem pCar_4 {xs : List Int32} {c : Int32} (h : pKind c = 4) : pCar xs c = xs.set (pF c) (pOther (xs.getD (pF c) 0)) := by
  rw [pCar, if_neg (by rw [h]; decide), if_neg (by rw [h]; decide), if_neg (by rw [h]; decide), if_neg (by rw [h]; decide), if_pos h, lset_F, lget_F]
theorem pCar_5 {xs : List Int32} {c : Int32} (h : pKind c = 5) : pCar xs c = xs := by
  rw [pCar, if_neg (by rw [h]; decide), if_neg (by rw [h]; decide), if_neg (by rw [h]; decide), if_neg (by rw [h]; decide), if_neg (by rw [h]; decide)]
/-- its length -/
theorem pRemN_le {xs : List Int32} {a : Nat} : ∀ n : Nat, (pRemN xs a n).length ≤ xs.length := by
  intro n
  induction n with
  | zero => exact Nat.le_refl _
  | succ n ih =>
    rw [pRemN, lrem]
    split
    · rw [List.length_eraseIdx]
      split <;> omega
    · exact ih
theorem pCar_le {xs : List Int32} {c : Int32} : (pCar xs c).length ≤ xs.length + 1 := by
  unfold pCar
  split
  · exact Nat.le_succ_of_le (pRemN_le _)
  · split
    · unfold lins
      split
      · rw [List.length_insertIdx]
        split <;> omega
      · omega
    · split
      · rw [lset_len]; omega
      · split
        · rw [lset_len, lset_len]; omega
        · split
          · rw [lset_len]; omega
          · omega
theorem pCar_ge {xs : List Int32} {c : Int32} {n : Nat} (hc : iOk0 c n) (k5 : ¬ pKind c = 5) (h : pE c ≤ xs.length) (hl : xs.length < 164) : pF c ≤ (pCar xs c).length := by
  rcases hc with q | q | q | q | q | q
  · have e : pE c = pS c := if_pos q.1
    rw [pCar_0 q.1, (pRemN_e (by omega) _ (by omega)).1]
    omega
  · have e := pE_1 q.1
    rw [pCar_1 q.1, (lins_e (by omega) hl).1]
    omega
  · have e : pE c = pF c + 1 := by rw [pE, if_neg (by rw [q.1]; decide), if_neg (by rw [q.1]; decide), if_neg (by rw [q.1]; decide)]
    rw [pCar_2 q.1, List.length_set]
    omega
  · have e := pE_3 q.1
    rw [pCar_3 q.1, List.length_set, List.length_set]
    omega
  · have e : pE c = pF c + 1 := by rw [pE, if_neg (by rw [q.1]; decide), if_neg (by rw [q.1]; decide), if_neg (by rw [q.1]; decide)]
    rw [pCar_4 q.1, List.length_set]
    omega
  · exact absurd q.1 k5
theorem cars_le {T : List Int32} : ∀ xs : List Int32, (T.foldl pCar xs).length ≤ xs.length + T.length := by
  induction T with
  | nil => intro xs; exact Nat.le_refl _
  | cons b T ih =>
    intro xs
    have h1 := ih (pCar xs b)
    have h2 := @pCar_le xs b
    rw [List.foldl_cons, List.length_cons]
    omega
/-- b stands before c in the order -/
def oRel (b c : Int32) : Prop := ¬ pKind b = 5 → ¬ pKind c = 5 → pE c ≤ pF b
theorem cars_ok {n : Nat} : ∀ (T xs : List Int32), T.Pairwise oRel → (∀ c ∈ T, iOk0 c n) → (∀ c ∈ T, ¬ pKind c = 5 → pE c ≤ xs.length) → xs.length + T.length ≤ 164 → ∀ (P : List Int32) (c : Int32) (S : List Int32), T = P ++ c :: S → ¬ pKind c = 5 → pE c ≤ (P.foldl pCar xs).length := by
  intro T
  induction T with
  | nil => intro xs _ _ _ _ P c S e; exact absurd e (by simp)
  | cons b T ih =>
    intro xs hP hI hE hl P c S e k5
    cases P with
    | nil =>
      rw [List.nil_append, List.cons.injEq] at e
      rw [← e.1] at k5 ⊢
      exact hE b List.mem_cons_self k5
    | cons b2 P =>
      rw [List.cons_append, List.cons.injEq] at e
      rw [List.foldl_cons, ← e.1]
      rw [List.length_cons] at hl
      obtain ⟨hP1, hP2⟩ := List.pairwise_cons.mp hP
      have h2 := @pCar_le xs b
      refine ih (pCar xs b) hP2 (fun c hc => hI c (List.mem_cons_of_mem _ hc)) (fun c hc k => ?_) (by omega) P c S e.2 k5
      by_cases kb : pKind b = 5
      · rw [pCar_5 kb]
        exact hE c (List.mem_cons_of_mem _ hc) k
      · exact Nat.le_trans (hP1 c hc kb k) (pCar_ge (hI b List.mem_cons_self) kb (hE b List.mem_cons_self kb) (by omega))
theorem oRel_i {li : ML} {n i j : Nat} (hA : sAp li) (hN : li.1.Nodup) (hi : i < li.1.length) (hj : j < li.1.length) (hne : i ≠ j) (ai : li.2.1.getD i 0 = 1) (aj : li.2.1.getD j 0 = 1) (hI : iOk (li.1.getD i 0) n) (h : pF (li.1.getD j 0) < pF (li.1.getD i 0) ∨ (pF (li.1.getD j 0) = pF (li.1.getD i 0) ∧ (pKind (li.1.getD j 0) = 1 ∨ ¬ pKind (li.1.getD i 0) = 1))) : oRel (li.1.getD i 0) (li.1.getD j 0) := by
  intro kb kc
  by_cases c1 : pKind (li.1.getD j 0) = 1
  · rw [pE_1 c1]
    omega
  · obtain ⟨u1, u2⟩ := ac_un hA hN hi hj hne ai aj
    rw [pOpp_3 (fun q => q.elim u1 (fun q => q.elim kb kc)) (fun q => c1 q.2)] at u2
    by_cases y : pF (li.1.getD i 0) < pE (li.1.getD j 0) ∧ pF (li.1.getD j 0) < pE (li.1.getD i 0)
    · rw [if_pos y] at u2
      exact absurd u2 (by decide)
    · by_cases b1 : pKind (li.1.getD i 0) = 1
      · have e := pE_1 b1
        rcases h with h | h
        · omega
        · rcases h.2 with h2 | h2
          · exact absurd h2 c1
          · exact absurd b1 h2
      · have e := pE_g hI b1
        omega
theorem nodup_ne {li : ML} {i j : Nat} (hN : li.1.Nodup) (hi : i < li.1.length) (hj : j < li.1.length) (h : ¬ li.1.getD i 0 = li.1.getD j 0) : i ≠ j := fun q => h (by rw [q])
theorem mBk_p {li : ML} {n pos turn : Nat} (hA : sAp li) (hN : li.1.Nodup) (hI : ∀ k : Nat, k < li.1.length → iOk (li.1.getD k 0) n) : ∀ k : Nat, k ≤ li.1.length → (mBk li pos turn k).Pairwise oRel := by
  intro k
  induction k with
  | zero => intro _; exact List.Pairwise.nil
  | succ k ih =>
    intro hk
    rw [mBk]
    by_cases q : li.2.1.getD k 0 = 1 ∧ pF (li.1.getD k 0) = pos ∧ (pKind (li.1.getD k 0) = 1 ↔ turn = 1)
    · rw [if_pos q, List.pairwise_append]
      refine ⟨ih (by omega), List.pairwise_singleton _ _, fun x hx y hy => ?_⟩
      rw [List.mem_singleton] at hy
      subst hy
      obtain ⟨i, h1, h2, rfl, h4, h5⟩ := mBk_m k hx
      refine oRel_i hA hN (by omega) (by omega) (by omega) h2 q.1 (hI i (by omega)) (Or.inr ⟨by omega, ?_⟩)
      by_cases t1 : turn = 1
      · exact Or.inl (q.2.2.mpr t1)
      · exact Or.inr (fun y => t1 (h5.mp y))
    · rw [if_neg q]
      exact ih (by omega)
theorem mOr_p {li : ML} {n L : Nat} (hA : sAp li) (hN : li.1.Nodup) (hI : ∀ k : Nat, k < li.1.length → iOk (li.1.getD k 0) n) : ∀ i : Nat, i ≤ L + 1 → (mOr li L li.1.length i).Pairwise oRel := by
  intro i
  induction i with
  | zero => intro _; exact List.Pairwise.nil
  | succ i ih =>
    intro hi
    have st : ∀ x ∈ mOr li L li.1.length i, ∀ (turn : Nat), ∀ y ∈ mBk li (L - i) turn li.1.length, oRel x y := by
      intro x hx turn y hy
      obtain ⟨h1, h2, j, h3, h4, rfl⟩ := mOr_m i (by omega) hx
      obtain ⟨k, g1, g2, rfl, g4, g5⟩ := mBk_m _ hy
      exact oRel_i hA hN h3 g1 (fun q => by subst q; omega) h4 g2 (hI j h3) (Or.inl (by omega))
    rw [mOr, List.pairwise_append, List.pairwise_append]
    refine ⟨⟨ih (by omega), mBk_p hA hN hI _ (Nat.le_refl _), fun x hx y hy => st x hx 0 y hy⟩, mBk_p hA hN hI _ (Nat.le_refl _), fun x hx y hy => ?_⟩
    rw [List.mem_append] at hx
    rcases hx with hx | hx
    · exact st x hx 1 y hy
    · obtain ⟨j, h1, h2, rfl, h4, h5⟩ := mBk_m _ hx
      obtain ⟨k, g1, g2, rfl, g4, g5⟩ := mBk_m _ hy
      refine oRel_i hA hN h1 g1 (fun q => ?_) h2 g2 (hI j h1) (Or.inr ⟨by omega, Or.inl (g5.mpr rfl)⟩)
      subst q
      exact absurd (h5.mp (g5.mpr rfl)) (by decide)
theorem mBk_sp {li : ML} {pos turn j : Nat} (h : li.2.1.getD j 0 = 1 ∧ pF (li.1.getD j 0) = pos ∧ (pKind (li.1.getD j 0) = 1 ↔ turn = 1)) : ∀ n : Nat, j < n → ∃ S : List Int32, mBk li pos turn n = mBk li pos turn j ++ li.1.getD j 0 :: S := by
  intro n
  induction n with
  | zero => intro q; omega
  | succ n ih =>
    intro hn
    by_cases q : j = n
    · subst q
      exact ⟨[], if_pos h⟩
    · obtain ⟨S, e⟩ := ih (by omega)
      rw [mBk]
      split
      · exact ⟨S ++ [li.1.getD n 0], by rw [e, List.append_assoc, List.cons_append]⟩
      · exact ⟨S, e⟩
/-- what is needed at one mark of the walk -/
theorem turn_ok {tx : List Int32} {li : ML} (hA : sAp li) (hN : li.1.Nodup) (hI : ∀ k : Nat, k < li.1.length → iOk (li.1.getD k 0) tx.length) (ht : tx.length ≤ 100) (hl : li.1.length ≤ 64) {P S : List Int32} {c : Int32} (e : mOr li tx.length li.1.length (tx.length + 1) = P ++ c :: S) : (P.foldl pCar tx).length < 164 ∧ (¬ pKind c = 5 → pE c ≤ (P.foldl pCar tx).length) := by
  have hF : ∀ i : Nat, i < li.1.length → pF (li.1.getD i 0) ≤ tx.length := fun i hi => by
    rcases (hI i hi).1 with q | q | q | q | q | q <;> omega
  have hE : ∀ i : Nat, i < li.1.length → ¬ pKind (li.1.getD i 0) = 5 → pE (li.1.getD i 0) ≤ tx.length := fun i hi k5 => by
    rcases (hI i hi).1 with q | q | q | q | q | q
    · have e : pE (li.1.getD i 0) = pS (li.1.getD i 0) := if_pos q.1
      omega
    · have e := pE_1 q.1
      omega
    · have e : pE (li.1.getD i 0) = pF (li.1.getD i 0) + 1 := by rw [pE, if_neg (by rw [q.1]; decide), if_neg (by rw [q.1]; decide), if_neg (by rw [q.1]; decide)]
      omega
    · have e := pE_3 q.1
      omega
    · have e : pE (li.1.getD i 0) = pF (li.1.getD i 0) + 1 := by rw [pE, if_neg (by rw [q.1]; decide), if_neg (by rw [q.1]; decide), if_neg (by rw [q.1]; decide)]
      omega
    · exact absurd q.1 k5
  have hlen : (mOr li tx.length li.1.length (tx.length + 1)).length ≤ li.1.length := by
    rw [pTurns_e li.1.length (fun i hi _ => hF i hi)]
    exact pTurns_n
  have hm : ∀ c ∈ mOr li tx.length li.1.length (tx.length + 1), ∃ i : Nat, i < li.1.length ∧ c = li.1.getD i 0 := fun c hc => by
    obtain ⟨-, -, i, h1, -, h2⟩ := mOr_m _ (Nat.le_refl _) hc
    exact ⟨i, h1, h2⟩
  refine ⟨?_, fun k5 => cars_ok (n := tx.length) _ tx (mOr_p hA hN hI _ (Nat.le_refl _)) (fun c hc => ?_) (fun c hc k => ?_) (by omega) P c S e k5⟩
  · have h1 := @cars_le P tx
    rw [e, List.length_append, List.length_cons] at hlen
    omega
  · obtain ⟨i, h1, rfl⟩ := hm c hc
    exact (hI i h1).1
  · obtain ⟨i, h1, rfl⟩ := hm c hc
    exact hE i h1 k
theorem pCars_f {xs tu : List Int32} : ∀ n : Nat, n ≤ tu.length → pCars xs tu n = (tu.take n).foldl pCar xs := by
  intro n
  induction n with
  | zero => intro _; rfl
  | succ n ih =>
    intro hn
    rw [pCars, ih (by omega), List.take_succ, List.getElem?_eq_getElem (by omega), List.foldl_append, gD_in (by omega)]
    rfl
theorem pTurn_e {tx : List Int32} {li : ML} (hI : ∀ k : Nat, k < li.1.length → iOk (li.1.getD k 0) tx.length) (ht : tx.length ≤ 100) (hl : li.1.length ≤ 64) : pTurn tx li.1 li.2.1 = ((mOr li tx.length li.1.length (tx.length + 1)).foldl pCar tx).take 100 := by
  have hF : ∀ i : Nat, i < li.1.length → pF (li.1.getD i 0) ≤ tx.length := fun i hi => by
    rcases (hI i hi).1 with q | q | q | q | q | q <;> omega
  have e := pTurns_e (L := tx.length) li.1.length (fun i hi _ => hF i hi)
  have hn := @pTurns_n li.1 li.2.1 li.1.length
  have h1 := @cars_le (pTurns li.1 li.2.1 li.1.length) tx
  rw [pTurn, pCars_f _ (Nat.le_refl _), List.take_length, e, lcut_t (by omega)]
