/-! THE MODEL: what becomes of a character -/
def mHit (li : ML) (pos k : Nat) : Prop := li.2.1.getD k 0 = 1 ∧ pF (li.1.getD k 0) ≤ pos ∧ pos < pE (li.1.getD k 0) ∧ ¬ pKind (li.1.getD k 0) = 5
def mVal (tx : List Int32) (c : Int32) (pos : Nat) : Int32 := if pKind c = 0 then -1 else if pKind c = 2 then pSign c else if pKind c = 3 then tx.getD (2 * pF c + 1 - pos) 0 else pOther (tx.getD pos 0)
def mTu (tx : List Int32) (li : ML) (pos : Nat) (x : Int32) : Prop := (∃ k : Nat, k < li.1.length ∧ mHit li pos k ∧ (∀ i : Nat, i < k → ¬ mHit li pos i) ∧ x = mVal tx (li.1.getD k 0) pos) ∨ ((∀ k : Nat, k < li.1.length → ¬ mHit li pos k) ∧ x = tx.getD pos 0)
theorem out_ie {pos f e : Nat} (hp : pos < 1000) (hf : f < 1000) (he : e < 1000) : pOut (nI pos) (nI f) (nI e - nI 1) = 0 ↔ f ≤ pos ∧ pos < e := by
  have h1 : (nI pos).toInt = pos := nI_toInt (by omega)
  have h2 : (nI f).toInt = f := nI_toInt (by omega)
  have h3 : (nI e - nI 1).toInt = (e : Int) - (1 : Nat) := pk_sub_toInt (by omega) (by omega)
  unfold pOut
  by_cases q : nI pos < nI f ∨ nI e - nI 1 < nI pos
  · rw [if_pos q]
    rw [Int32.lt_iff_toInt_lt, Int32.lt_iff_toInt_lt, h1, h2, h3] at q
    constructor
    · intro y
      exact absurd y (by decide)
    · intro y
      omega
  · rw [if_neg q]
    rw [Int32.lt_iff_toInt_lt, Int32.lt_iff_toInt_lt, h1, h2, h3] at q
    constructor
    · intro _
      omega
    · intro _
      rfl

