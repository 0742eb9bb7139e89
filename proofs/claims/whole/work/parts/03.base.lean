/-! ROWS OF NUMBERS AS LISTS -/
def gIn (i : Int32) (n : Nat) : Bool := decide (0 ≤ i.toInt) && decide (i.toInt < (n : Int))
theorem gIn_vp {i : Int32} {n : Nat} : gIn i n = true ↔ vp_in i n := by
  rw [vp_in_iff]
  simp [gIn]
theorem gz_lt0 {i : Int32} : i < 0 ↔ i.toInt < 0 := by
  rw [Int32.lt_iff_toInt_lt]
  rfl
theorem gIn_t {i : Int32} {n : Nat} (h0 : ¬ i < 0) (h1 : ¬ nI n ≤ i) (hn : n < 2 ^ 31) : gIn i n = true := by
  rw [gz_lt0] at h0
  rw [Int32.le_iff_toInt_le, nI_toInt hn] at h1
  simp [gIn]
  omega
theorem gIn_f0 {i : Int32} {n : Nat} (h0 : i < 0) : gIn i n = false := by
  rw [gz_lt0] at h0
  simp [gIn]
  omega
theorem gIn_f1 {i : Int32} {n : Nat} (h1 : nI n ≤ i) (hn : n < 2 ^ 31) : gIn i n = false := by
  rw [Int32.le_iff_toInt_le, nI_toInt hn] at h1
  simp [gIn]
  omega
theorem gIn_nI {j n : Nat} (hj : j < 2 ^ 31) : gIn (nI j) n = decide (j < n) := by
  simp [gIn, nI_toInt hj]
theorem gIn_ex {i : Int32} {n : Nat} (h : gIn i n = true) (hn : n < 2 ^ 31) : ∃ j : Nat, j < n ∧ i = nI j := vp_in_of (gIn_vp.mp h) hn
theorem gIn_cl {i : Int32} {n : Nat} (h : gIn i n = true) : i.toNatClampNeg < n := Nat.not_le.mp fun q => (gIn_vp.mp h) (Or.inr q)
theorem gz_ltc {i : Int32} {n cap : Nat} (h1 : ¬ nI n ≤ i) (hl : n ≤ cap) (hc : cap < 2 ^ 31) : i < nI cap := by
  rw [Int32.le_iff_toInt_le, nI_toInt (by omega)] at h1
  rw [Int32.lt_iff_toInt_lt, nI_toInt hc]
  omega
def lget (xs : List Int32) (i : Int32) : Int32 := if gIn i xs.length then xs.getD i.toNatClampNeg 0 else 0
def lset (xs : List Int32) (i v : Int32) : List Int32 := if gIn i xs.length then xs.set i.toNatClampNeg v else xs
def lapp (cap : Nat) (xs : List Int32) (v : Int32) : List Int32 := if xs.length < cap then xs ++ [v] else xs
def lcut (xs : List Int32) (n : Int32) : List Int32 := if gIn n xs.length then xs.take n.toNatClampNeg else xs
def lins (cap : Nat) (xs : List Int32) (i v : Int32) : List Int32 := if gIn i (xs.length + 1) && decide (xs.length < cap) then xs.insertIdx i.toNatClampNeg v else xs
def lrem (xs : List Int32) (i : Int32) : List Int32 := if gIn i xs.length then xs.eraseIdx i.toNatClampNeg else xs
def lidx (xs : List Int32) (v : Int32) : Int32 := if v ∈ xs then nI (xs.idxOf v) else -1
theorem lget_nI {xs : List Int32} {j : Nat} (hj : j < 2 ^ 31) : lget xs (nI j) = xs.getD j 0 := by
  unfold lget
  rw [gIn_nI hj, nI_clamp hj]
  by_cases h : j < xs.length
  · simp [h]
  · simp [h]
theorem lset_nI {xs : List Int32} {j : Nat} {v : Int32} (hj : j < 2 ^ 31) : lset xs (nI j) v = xs.set j v := by
  unfold lset
  rw [gIn_nI hj, nI_clamp hj]
  by_cases h : j < xs.length
  · simp [h]
  · rw [List.set_eq_of_length_le (by omega)]; simp
theorem lset_len {xs : List Int32} {i v : Int32} : (lset xs i v).length = xs.length := by
  unfold lset
  split <;> simp
def gRow (D : gD) (G : gH) (r cap : Nat) (xs : List Int32) : Prop := ∃ f : Nat → Int32, G r = some (.inr (4, [.ref (r + 1), .int (nI xs.length)])) ∧ G (r + 1) = some (.inl (D.1.1 100, cap, .inl f)) ∧ xs.length ≤ cap ∧ cap < 1000 ∧ ∀ (i : Nat) (h : i < xs.length), f i = xs[i]
/-- nothing outside the cells from a to a + n - 1 is another -/
def gOut (a n : Nat) (G G' : gH) : Prop := ∀ q : Nat, (q < a ∨ a + n ≤ q) → G' q = G q
theorem gOut_rf {a n : Nat} {G : gH} : gOut a n G G := fun _ _ => rfl
theorem gOut_tr {a n : Nat} {G G1 G2 : gH} (h1 : gOut a n G G1) (h2 : gOut a n G1 G2) : gOut a n G G2 := fun q hq => (h2 q hq).trans (h1 q hq)
theorem gOut_up {a n b : Nat} {G G1 : gH} {e : va_E} (h1 : gOut a n G G1) (hb : a ≤ b ∧ b < a + n) : gOut a n G (gU G1 b e) := fun q hq => by
  rw [gU_n (by omega)]
  exact h1 q hq
theorem gOut_wd {a n b k : Nat} {G G1 : gH} (h : gOut a n G G1) (hb : b ≤ a ∧ a + n ≤ b + k) : gOut b k G G1 := fun q hq => h q (by omega)
theorem gRow_fr {D : gD} {G G' : gH} {r cap a n : Nat} {xs : List Int32} (h : gRow D G r cap xs) (ho : gOut a n G G') (hd : r + 2 ≤ a ∨ a + n ≤ r) : gRow D G' r cap xs := by
  obtain ⟨f, h1, h2, h3⟩ := h
  exact ⟨f, by rw [ho r (by omega)]; exact h1, by rw [ho (r + 1) (by omega)]; exact h2, h3⟩
theorem gRow_le {D : gD} {G : gH} {r cap : Nat} {xs : List Int32} (h : gRow D G r cap xs) : xs.length ≤ cap ∧ cap < 1000 := by
  obtain ⟨f, h1, h2, h3, h4, h5⟩ := h
  exact ⟨h3, h4⟩
theorem gRow_ob {D : gD} {G : gH} {r cap : Nat} {xs : List Int32} (h : gRow D G r cap xs) : G r = some (.inr (4, [.ref (r + 1), .int (nI xs.length)])) := by
  obtain ⟨f, h1, h2, h3, h4, h5⟩ := h
  exact h1
theorem gRow_mk {D : gD} {G : gH} {r cap : Nat} {ys : List Int32} {u : Int32} {g : Nat → Int32} (h1 : G r = some (.inr (4, [.ref (r + 1), .int u]))) (h2 : G (r + 1) = some (.inl (D.1.1 100, cap, .inl g))) (hu : u = nI ys.length) (hl : ys.length ≤ cap) (hc : cap < 1000) (hg : ∀ (i : Nat) (h : i < ys.length), g i = ys[i]) : gRow D G r cap ys :=
  ⟨g, by rw [h1, hu], h2, hl, hc, hg⟩
