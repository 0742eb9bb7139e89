/-! WHAT THE CELLS OF THE CLASS HOLD: a sheet, a list, a state, as plain values -/
abbrev SH : Type := Int32 × Int32 × List Int32
abbrev ML : Type := List Int32 × List Int32 × List Int32 × List Int32
abbrev SV : Type := List Int32 × Int32 × List SH × ML × ML
def gRf (f : Nat → Option Nat) (n : Nat) : vp_A := (n, .inr (.inr (.inr (.inr f))))
def gSheet (D : gD) (G : gH) (a : Nat) (v : SH) : Prop := G a = some (.inr (5, [.ref (a + 1), .int v.1, .int v.2.1])) ∧ gRow D G (a + 1) 8 v.2.2
def gList (D : gD) (G : gH) (a : Nat) (v : ML) : Prop := G a = some (.inr (1, [.ref (a + 1), .ref (a + 3), .ref (a + 5), .ref (a + 7)])) ∧ gRow D G (a + 1) 64 v.1 ∧ gRow D G (a + 3) 64 v.2.1 ∧ gRow D G (a + 5) 64 v.2.2.1 ∧ gRow D G (a + 7) 64 v.2.2.2
def gAcc (D : gD) (G : gH) (a : Nat) (v : ML) : Prop := gRow D G a 5 v.1 ∧ gRow D G (a + 2) 6 v.2.1 ∧ gRow D G (a + 4) 6 v.2.2.1 ∧ gRow D G (a + 6) 6 v.2.2.2
def gShs (D : gD) (G : gH) (a : Nat) (sh : List SH) : Prop := sh.length ≤ 8 ∧ ∀ i : Nat, i < 8 → ∃ c : SH, gSheet D G (a + 3 * i) c ∧ ∀ h : i < sh.length, c = sh[i]
def gSv (D : gD) (G : gH) (S : Nat) (v : SV) : Prop :=
  G S = some (.inr (6, [.ref (S + 1), .ref (S + 3), .ref (S + 4), .ref (S + 13), .ref (S + 15), .ref (S + 17), .ref (S + 19), .int v.2.1, .int (nI v.2.2.1.length)])) ∧
  (∃ f : Nat → Option Nat, G (S + 3) = some (.inl (D.1.1 101, gRf f 8)) ∧ ∀ i : Nat, i < 8 → f i = some (S + 21 + 3 * i)) ∧
  gRow D G (S + 1) 100 v.1 ∧ gList D G (S + 4) v.2.2.2.1 ∧ gAcc D G (S + 13) v.2.2.2.2 ∧ gShs D G (S + 21) v.2.2.1
theorem gSheet_fr {D : gD} {G G' : gH} {a b n : Nat} {v : SH} (h : gSheet D G a v) (ho : gOut b n G G') (hd : a + 3 ≤ b ∨ b + n ≤ a) : gSheet D G' a v :=
  ⟨by rw [ho a (by omega)]; exact h.1, gRow_fr h.2 ho (by omega)⟩
theorem gList_fr {D : gD} {G G' : gH} {a b n : Nat} {v : ML} (h : gList D G a v) (ho : gOut b n G G') (hd : a + 9 ≤ b ∨ b + n ≤ a) : gList D G' a v :=
  ⟨by rw [ho a (by omega)]; exact h.1, gRow_fr h.2.1 ho (by omega), gRow_fr h.2.2.1 ho (by omega), gRow_fr h.2.2.2.1 ho (by omega), gRow_fr h.2.2.2.2 ho (by omega)⟩
theorem gAcc_fr {D : gD} {G G' : gH} {a b n : Nat} {v : ML} (h : gAcc D G a v) (ho : gOut b n G G') (hd : a + 8 ≤ b ∨ b + n ≤ a) : gAcc D G' a v :=
  ⟨gRow_fr h.1 ho (by omega), gRow_fr h.2.1 ho (by omega), gRow_fr h.2.2.1 ho (by omega), gRow_fr h.2.2.2 ho (by omega)⟩
theorem gShs_fr {D : gD} {G G' : gH} {a b n : Nat} {sh : List SH} (h : gShs D G a sh) (ho : gOut b n G G') (hd : a + 24 ≤ b ∨ b + n ≤ a) : gShs D G' a sh := by
  refine ⟨h.1, fun i hi => ?_⟩
  obtain ⟨c, h1, h2⟩ := h.2 i hi
  exact ⟨c, gSheet_fr h1 ho (by omega), h2⟩
theorem gSv_fr {D : gD} {G G' : gH} {S b n : Nat} {v : SV} (h : gSv D G S v) (ho : gOut b n G G') (hd : S + 45 ≤ b ∨ b + n ≤ S) : gSv D G' S v := by
  obtain ⟨h1, ⟨f, h2, h3⟩, h4, h5, h6, h7⟩ := h
  exact ⟨by rw [ho S (by omega)]; exact h1, ⟨f, by rw [ho (S + 3) (by omega)]; exact h2, h3⟩, gRow_fr h4 ho (by omega), gList_fr h5 ho (by omega), gAcc_fr h6 ho (by omega), gShs_fr h7 ho (by omega)⟩
theorem gSv_ob {D : gD} {G : gH} {S : Nat} {v : SV} (h : gSv D G S v) : G S = some (.inr (6, [.ref (S + 1), .ref (S + 3), .ref (S + 4), .ref (S + 13), .ref (S + 15), .ref (S + 17), .ref (S + 19), .int v.2.1, .int (nI v.2.2.1.length)])) := h.1
theorem gSv_tx {D : gD} {G : gH} {S : Nat} {v : SV} (h : gSv D G S v) : gRow D G (S + 1) 100 v.1 := h.2.2.1
theorem gSv_li {D : gD} {G : gH} {S : Nat} {v : SV} (h : gSv D G S v) : gList D G (S + 4) v.2.2.2.1 := h.2.2.2.1
theorem gSv_ac {D : gD} {G : gH} {S : Nat} {v : SV} (h : gSv D G S v) : gAcc D G (S + 13) v.2.2.2.2 := h.2.2.2.2.1
theorem gSv_sh {D : gD} {G : gH} {S : Nat} {v : SV} (h : gSv D G S v) : gShs D G (S + 21) v.2.2.1 := h.2.2.2.2.2
theorem gSv_at {D : gD} {G : gH} {S i : Nat} {v : SV} (h : gSv D G S v) (hi : i < v.2.2.1.length) : gSheet D G (S + 21 + 3 * i) v.2.2.1[i] := by
  obtain ⟨h1, h2⟩ := gSv_sh h
  obtain ⟨c, h3, h4⟩ := h2 i (by omega)
  rw [h4 hi] at h3
  exact h3
/-- one part of a state is another -/
theorem gSv_tx' {D : gD} {G G' : gH} {S : Nat} {v : SV} {xs : List Int32} (h : gSv D G S v) (hr : gRow D G' (S + 1) 100 xs) (ho : gOut (S + 1) 2 G G') : gSv D G' S (xs, v.2) := by
  obtain ⟨h1, ⟨f, h2, h3⟩, h4, h5, h6, h7⟩ := h
  exact ⟨by rw [ho S (by omega)]; exact h1, ⟨f, by rw [ho (S + 3) (by omega)]; exact h2, h3⟩, hr, gList_fr h5 ho (by omega), gAcc_fr h6 ho (by omega), gShs_fr h7 ho (by omega)⟩
theorem gSv_li' {D : gD} {G G' : gH} {S : Nat} {v : SV} {w : ML} (h : gSv D G S v) (hr : gList D G' (S + 4) w) (ho : gOut (S + 4) 9 G G') : gSv D G' S (v.1, v.2.1, v.2.2.1, w, v.2.2.2.2) := by
  obtain ⟨h1, ⟨f, h2, h3⟩, h4, h5, h6, h7⟩ := h
  exact ⟨by rw [ho S (by omega)]; exact h1, ⟨f, by rw [ho (S + 3) (by omega)]; exact h2, h3⟩, gRow_fr h4 ho (by omega), hr, gAcc_fr h6 ho (by omega), gShs_fr h7 ho (by omega)⟩
theorem gSv_ac' {D : gD} {G G' : gH} {S : Nat} {v : SV} {w : ML} (h : gSv D G S v) (hr : gAcc D G' (S + 13) w) (ho : gOut (S + 13) 8 G G') : gSv D G' S (v.1, v.2.1, v.2.2.1, v.2.2.2.1, w) := by
  obtain ⟨h1, ⟨f, h2, h3⟩, h4, h5, h6, h7⟩ := h
  exact ⟨by rw [ho S (by omega)]; exact h1, ⟨f, by rw [ho (S + 3) (by omega)]; exact h2, h3⟩, gRow_fr h4 ho (by omega), gList_fr h5 ho (by omega), hr, gShs_fr h7 ho (by omega)⟩
theorem gAcc_0 {D : gD} {G G' : gH} {a : Nat} {v : ML} {xs : List Int32} (h : gAcc D G a v) (hr : gRow D G' a 5 xs) (ho : gOut a 2 G G') : gAcc D G' a (xs, v.2) :=
  ⟨hr, gRow_fr h.2.1 ho (by omega), gRow_fr h.2.2.1 ho (by omega), gRow_fr h.2.2.2 ho (by omega)⟩
theorem gAcc_1 {D : gD} {G G' : gH} {a : Nat} {v : ML} {xs : List Int32} (h : gAcc D G a v) (hr : gRow D G' (a + 2) 6 xs) (ho : gOut (a + 2) 2 G G') : gAcc D G' a (v.1, xs, v.2.2) :=
  ⟨gRow_fr h.1 ho (by omega), hr, gRow_fr h.2.2.1 ho (by omega), gRow_fr h.2.2.2 ho (by omega)⟩
theorem gAcc_2 {D : gD} {G G' : gH} {a : Nat} {v : ML} {xs : List Int32} (h : gAcc D G a v) (hr : gRow D G' (a + 4) 6 xs) (ho : gOut (a + 4) 2 G G') : gAcc D G' a (v.1, v.2.1, xs, v.2.2.2) :=
  ⟨gRow_fr h.1 ho (by omega), gRow_fr h.2.1 ho (by omega), hr, gRow_fr h.2.2.2 ho (by omega)⟩
theorem gAcc_3 {D : gD} {G G' : gH} {a : Nat} {v : ML} {xs : List Int32} (h : gAcc D G a v) (hr : gRow D G' (a + 6) 6 xs) (ho : gOut (a + 6) 2 G G') : gAcc D G' a (v.1, v.2.1, v.2.2.1, xs) :=
  ⟨gRow_fr h.1 ho (by omega), gRow_fr h.2.1 ho (by omega), gRow_fr h.2.2.1 ho (by omega), hr⟩
theorem gList_0 {D : gD} {G G' : gH} {a : Nat} {v : ML} {xs : List Int32} (h : gList D G a v) (hr : gRow D G' (a + 1) 64 xs) (ho : gOut (a + 1) 2 G G') : gList D G' a (xs, v.2) :=
  ⟨by rw [ho a (by omega)]; exact h.1, hr, gRow_fr h.2.2.1 ho (by omega), gRow_fr h.2.2.2.1 ho (by omega), gRow_fr h.2.2.2.2 ho (by omega)⟩
theorem gList_1 {D : gD} {G G' : gH} {a : Nat} {v : ML} {xs : List Int32} (h : gList D G a v) (hr : gRow D G' (a + 3) 64 xs) (ho : gOut (a + 3) 2 G G') : gList D G' a (v.1, xs, v.2.2) :=
  ⟨by rw [ho a (by omega)]; exact h.1, gRow_fr h.2.1 ho (by omega), hr, gRow_fr h.2.2.2.1 ho (by omega), gRow_fr h.2.2.2.2 ho (by omega)⟩
theorem gList_2 {D : gD} {G G' : gH} {a : Nat} {v : ML} {xs : List Int32} (h : gList D G a v) (hr : gRow D G' (a + 5) 64 xs) (ho : gOut (a + 5) 2 G G') : gList D G' a (v.1, v.2.1, xs, v.2.2.2) :=
  ⟨by rw [ho a (by omega)]; exact h.1, gRow_fr h.2.1 ho (by omega), gRow_fr h.2.2.1 ho (by omega), hr, gRow_fr h.2.2.2.2 ho (by omega)⟩
theorem gList_3 {D : gD} {G G' : gH} {a : Nat} {v : ML} {xs : List Int32} (h : gList D G a v) (hr : gRow D G' (a + 7) 64 xs) (ho : gOut (a + 7) 2 G G') : gList D G' a (v.1, v.2.1, v.2.2.1, xs) :=
  ⟨by rw [ho a (by omega)]; exact h.1, gRow_fr h.2.1 ho (by omega), gRow_fr h.2.2.1 ho (by omega), gRow_fr h.2.2.2.1 ho (by omega), hr⟩
theorem gSheet_ms {D : gD} {G G' : gH} {a : Nat} {v : SH} {xs : List Int32} (h : gSheet D G a v) (hr : gRow D G' (a + 1) 8 xs) (ho : gOut (a + 1) 2 G G') : gSheet D G' a (v.1, v.2.1, xs) :=
  ⟨by rw [ho a (by omega)]; exact h.1, hr⟩
/-- one sheet is another, of those in use -/
theorem gShs_set {D : gD} {G G' : gH} {a i : Nat} {sh : List SH} {c : SH} (h : gShs D G a sh) (hi : i < sh.length) (hr : gSheet D G' (a + 3 * i) c) (ho : gOut (a + 3 * i) 3 G G') : gShs D G' a (sh.set i c) := by
  refine ⟨by rw [List.length_set]; exact h.1, fun j hj => ?_⟩
  by_cases q : j = i
  · subst q
    exact ⟨c, hr, fun _ => by simp⟩
  · obtain ⟨c2, h1, h2⟩ := h.2 j hj
    refine ⟨c2, gSheet_fr h1 ho (by omega), fun hl => ?_⟩
    rw [List.length_set] at hl
    rw [List.getElem_set_ne (Ne.symm q)]
    exact h2 hl
theorem gSv_sh' {D : gD} {G G' : gH} {S i : Nat} {v : SV} {c : SH} (h : gSv D G S v) (hi : i < v.2.2.1.length) (hr : gSheet D G' (S + 21 + 3 * i) c) (ho : gOut (S + 21 + 3 * i) 3 G G') : gSv D G' S (v.1, v.2.1, v.2.2.1.set i c, v.2.2.2) := by
  have h8 := h.2.2.2.2.2.1
  obtain ⟨h1, ⟨f, h2, h3⟩, h4, h5, h6, h7⟩ := h
  exact ⟨by rw [ho S (by omega), List.length_set]; exact h1, ⟨f, by rw [ho (S + 3) (by omega)]; exact h2, h3⟩, gRow_fr h4 ho (by omega), gList_fr h5 ho (by omega), gAcc_fr h6 ho (by omega), gShs_set h7 hi hr ho⟩
