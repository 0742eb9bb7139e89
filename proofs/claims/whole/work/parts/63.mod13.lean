/-! THE MODEL: the text of the next round at once -/
def mHb (li : ML) (pos k : Nat) : Bool := decide (li.2.1.getD k 0 = 1) && (decide (pF (li.1.getD k 0) ≤ pos) && (decide (pos < pE (li.1.getD k 0)) && !decide (pKind (li.1.getD k 0) = 5)))
theorem mHb_i {li : ML} {pos k : Nat} : mHb li pos k = true ↔ mHit li pos k := by
  unfold mHb mHit
  rw [Bool.and_eq_true, Bool.and_eq_true, Bool.and_eq_true, decide_eq_true_eq, decide_eq_true_eq, decide_eq_true_eq, Bool.not_eq_true', decide_eq_false_iff_not]
def mTv (tx : List Int32) (li : ML) (pos : Nat) : Int32 := match (List.range li.1.length).find? (mHb li pos) with
  | some k => mVal tx (li.1.getD k 0) pos
  | none => tx.getD pos 0
theorem mTv_e {tx : List Int32} {li : ML} {pos : Nat} {x : Int32} (h : mTu tx li pos x) : x = mTv tx li pos := by
  unfold mTv
  rcases h with ⟨k, hk, h1, h2, h3⟩ | ⟨h1, h2⟩
  · have e : (List.range li.1.length).find? (mHb li pos) = some k := by
      rw [List.find?_range_eq_some]
      exact ⟨mHb_i.mpr h1, List.mem_range.mpr hk, fun j hj => by rw [Bool.not_eq_true']; exact Bool.eq_false_iff.mpr (fun y => h2 j hj (mHb_i.mp y))⟩
    rw [e]
    exact h3
  · have e : (List.range li.1.length).find? (mHb li pos) = none := by
      rw [List.find?_range_eq_none]
      exact fun j hj => by rw [Bool.not_eq_true']; exact Bool.eq_false_iff.mpr (fun y => h1 j hj (mHb_i.mp y))
    rw [e]
    exact h2
def mMk (tx : List Int32) (li : ML) : Nat → List Int32
  | 0 => []
  | n + 1 => (mMk tx li n ++ mBr li n li.1.length) ++ (if mTv tx li n < 0 then [] else [mTv tx li n])
theorem mMk_le {tx : List Int32} {li : ML} {k : Nat} : ∀ n : Nat, k ≤ n → (mMk tx li k).length ≤ (mMk tx li n).length := by
  intro n
  induction n with
  | zero => intro h; rw [show k = 0 by omega]; exact Nat.le_refl _
  | succ n ih =>
    intro h
    by_cases q : k = n + 1
    · rw [q]; exact Nat.le_refl _
    · have := ih (by omega)
      rw [mMk, List.length_append, List.length_append]
      omega

