/-! THE MODEL: the text of the next round at once -/
instance {li : ML} {pos k : Nat} : Decidable (mHit li pos k) := by
  unfold mHit
  exact inferInstance
def mTv (tx : List Int32) (li : ML) (pos : Nat) : Int32 := match (List.range li.1.length).find? (fun k => decide (mHit li pos k)) with
  | some k => mVal tx (li.1.getD k 0) pos
  | none => tx.getD pos 0
theorem mTv_e {tx : List Int32} {li : ML} {pos : Nat} {x : Int32} (h : mTu tx li pos x) : x = mTv tx li pos := by
  unfold mTv
  rcases h with ⟨k, hk, h1, h2, h3⟩ | ⟨h1, h2⟩
  · have e : (List.range li.1.length).find? (fun k => decide (mHit li pos k)) = some k := by
      rw [List.find?_range_eq_some]
      exact ⟨decide_eq_true h1, List.mem_range.mpr hk, fun j hj => by simpa using h2 j hj⟩
    rw [e]
    exact h3
  · have e : (List.range li.1.length).find? (fun k => decide (mHit li pos k)) = none := by
      rw [List.find?_range_eq_none]
      exact fun j hj => by simpa using h1 j hj
    rw [e]
    exact h2
def mMk (tx : List Int32) (li : ML) : Nat → List Int32
  | 0 => []
  | n + 1 => (mMk tx li n ++ mBr li n li.1.length) ++ (if mTv tx li n < 0 then [] else [mTv tx li n])
theorem mMk_le {tx : List Int32} {li : ML} {k : Nat} : ∀ n : Nat, k ≤ n → (mMk tx li k).length ≤ (mMk tx li n).length := by
  intro n
  induction n with
  | zero => intro h; rw [show k = 0 by omega]; exact Nat.le_refl _
  | succ n ih =>
    intro h
    by_cases q : k = n + 1
    · rw [q]; exact Nat.le_refl _
    · have := ih (by omega)
      rw [mMk, List.length_append, List.length_append]
      omega

