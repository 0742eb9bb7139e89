/-! THE MODEL'S MARK TEXT: pure lemmas -/
theorem fa_or (a b : Nat) : nI a ||| nI b = nI (a ||| b) := by
  apply Int32.toBitVec_inj.1
  show BitVec.ofNat 32 a ||| BitVec.ofNat 32 b = BitVec.ofNat 32 (a ||| b)
  apply BitVec.eq_of_getLsbD_eq
  intro i hi
  simp [hi]
theorem fa_or_sum {a k : Nat} (b : Nat) (h : a < 2 ^ k) : nI (2 ^ k * b) ||| nI a = nI (2 ^ k * b + a) := by rw [fa_or, Nat.two_pow_add_eq_or_of_lt h]
theorem pCode_n {k a b c : Nat} (hk : k < 8) (ha : a < 256) (hb : b < 256) (hc : c < 256) : pCode (nI k) (nI a) (nI b) (nI c) = nI (((k * 256 + a) * 256 + b) * 256 + c) := by
  have e1 : nI k <<< ((24 : Int32) &&& 31) = nI (2 ^ 24 * k) := by rw [pk_shlN ((24 : Int32) &&& 31) 24 (by decide) (by omega), Nat.mul_comm]
  have e2 : nI a <<< ((16 : Int32) &&& 31) = nI (a * 2 ^ 16) := pk_shlN ((16 : Int32) &&& 31) 16 (by decide) (by omega)
  have e3 : nI b <<< ((8 : Int32) &&& 31) = nI (b * 2 ^ 8) := pk_shlN ((8 : Int32) &&& 31) 8 (by decide) (by omega)
  unfold pCode
  rw [e1, e2, e3, fa_or_sum (k := 24) k (by omega), show 2 ^ 24 * k + a * 2 ^ 16 = 2 ^ 16 * (k * 256 + a) by omega, fa_or_sum (k := 16) (k * 256 + a) (by omega), show 2 ^ 16 * (k * 256 + a) + b * 2 ^ 8 = 2 ^ 8 * ((k * 256 + a) * 256 + b) by omega, fa_or_sum (k := 8) ((k * 256 + a) * 256 + b) (by omega)]
  exact congrArg nI (by omega)
theorem pC_kind {k a b c : Nat} (hk : k < 8) (ha : a < 256) (hb : b < 256) (hc : c < 256) : pKind (pCode (nI k) (nI a) (nI b) (nI c)) = nI k := by
  rw [pCode_n hk ha hb hc, pKind, pk_shrN (by omega) ((24 : Int32) &&& 31) 24 (by decide)]
  exact congrArg nI (by omega)
theorem pC_first {k a b c : Nat} (hk : k < 8) (ha : a < 256) (hb : b < 256) (hc : c < 256) : pFirst (pCode (nI k) (nI a) (nI b) (nI c)) = nI a := by
  rw [pCode_n hk ha hb hc, pFirst, pk_shrN (by omega) ((16 : Int32) &&& 31) 16 (by decide), pk_andN (by omega) 8 (by decide)]
  exact congrArg nI (by omega)
theorem pC_second {k a b c : Nat} (hk : k < 8) (ha : a < 256) (hb : b < 256) (hc : c < 256) : pSecond (pCode (nI k) (nI a) (nI b) (nI c)) = nI b := by
  rw [pCode_n hk ha hb hc, pSecond, pk_shrN (by omega) ((8 : Int32) &&& 31) 8 (by decide), pk_andN (by omega) 8 (by decide)]
  exact congrArg nI (by omega)
theorem pC_sign {k a b c : Nat} (hk : k < 8) (ha : a < 256) (hb : b < 256) (hc : c < 256) : pSign (pCode (nI k) (nI a) (nI b) (nI c)) = nI c := by
  rw [pCode_n hk ha hb hc, pSign, pk_andN (by omega) 8 (by decide)]
  exact congrArg nI (by omega)
theorem pC_F {k a b c : Nat} (hk : k < 8) (ha : a < 256) (hb : b < 256) (hc : c < 256) : pF (pCode (nI k) (nI a) (nI b) (nI c)) = a := by
  rw [pF, pC_first hk ha hb hc, nI_clamp (by omega)]
theorem pC_S {k a b c : Nat} (hk : k < 8) (ha : a < 256) (hb : b < 256) (hc : c < 256) : pS (pCode (nI k) (nI a) (nI b) (nI c)) = b := by
  rw [pS, pC_second hk ha hb hc, nI_clamp (by omega)]
/-! words -/
theorem tLet_n {x : Int32} (h : tLet x = true) : ∃ n : Nat, x = nI n ∧ 97 ≤ n ∧ n ≤ 122 := by
  unfold tLet at h
  rw [Bool.and_eq_true, decide_eq_true_eq, decide_eq_true_eq, Int32.le_iff_toInt_le, Int32.le_iff_toInt_le] at h
  have e1 : (97 : Int32).toInt = 97 := by decide
  have e2 : (122 : Int32).toInt = 122 := by decide
  rw [e1, e2] at h
  refine ⟨x.toInt.toNat, ?_, by omega, by omega⟩
  refine Int32.toInt_inj.mp ?_
  rw [nI_toInt (by omega)]
  omega
theorem tDig_n {x : Int32} (h : tDig x = true) : ∃ n : Nat, x = nI n ∧ 48 ≤ n ∧ n ≤ 57 := by
  unfold tDig at h
  rw [Bool.and_eq_true, decide_eq_true_eq, decide_eq_true_eq, Int32.le_iff_toInt_le, Int32.le_iff_toInt_le] at h
  have e1 : (48 : Int32).toInt = 48 := by decide
  have e2 : (57 : Int32).toInt = 57 := by decide
  rw [e1, e2] at h
  refine ⟨x.toInt.toNat, ?_, by omega, by omega⟩
  refine Int32.toInt_inj.mp ?_
  rw [nI_toInt (by omega)]
  omega
theorem tLet_p {x : Int32} : tLet x = true ↔ pOut x 97 122 = 0 := by
  unfold tLet pOut
  rw [Bool.and_eq_true, decide_eq_true_eq, decide_eq_true_eq]
  by_cases q : x < 97 ∨ 122 < x
  · rw [if_pos q]
    constructor
    · rintro ⟨h1, h2⟩
      rcases q with q | q
      · exact absurd q (Int32.not_lt.mpr h1)
      · exact absurd q (Int32.not_lt.mpr h2)
    · intro h
      exact absurd h (by decide)
  · rw [if_neg q]
    exact ⟨fun _ => rfl, fun _ => ⟨Int32.not_lt.mp (fun y => q (Or.inl y)), Int32.not_lt.mp (fun y => q (Or.inr y))⟩⟩
theorem tDig_p {x : Int32} : tDig x = true ↔ pOut x 48 57 = 0 := by
  unfold tDig pOut
  rw [Bool.and_eq_true, decide_eq_true_eq, decide_eq_true_eq]
  by_cases q : x < 48 ∨ 57 < x
  · rw [if_pos q]
    constructor
    · rintro ⟨h1, h2⟩
      rcases q with q | q
      · exact absurd q (Int32.not_lt.mpr h1)
      · exact absurd q (Int32.not_lt.mpr h2)
    · intro h
      exact absurd h (by decide)
  · rw [if_neg q]
    exact ⟨fun _ => rfl, fun _ => ⟨Int32.not_lt.mp (fun y => q (Or.inl y)), Int32.not_lt.mp (fun y => q (Or.inr y))⟩⟩
theorem tEnd_let {sg : List Int32} : ∀ (n i : Nat), sg.length ≤ i + n → ∀ j : Nat, i ≤ j → j < tEnd sg i → tLet (sg.getD j 0) = true := by
  intro n
  induction n with
  | zero =>
    intro i h j h1 h2
    rw [tEnd, dif_neg (by omega)] at h2
    omega
  | succ n ih =>
    intro i h j h1 h2
    by_cases q : tLet (sg.getD i 0) = true
    · by_cases y : j = i
      · rw [y]; exact q
      · rw [tEnd_t q] at h2
        exact ih (i + 1) (by omega) j (by omega) h2
    · rw [tEnd_f q] at h2
      omega
def tWn (sg : List Int32) (cu : Nat) : Nat → Nat
  | 0 => 0
  | m + 1 => tWn sg cu m * 128 + (sg.getD (cu + m) 0).toNatClampNeg
theorem tSp_0 {sg : List Int32} {cu e i : Nat} (h : ¬ e = cu + gSl.getD i 0) : tSp sg cu e i = false := by
  unfold tSp
  rw [decide_eq_false h, Bool.false_and]
theorem tSp_r {sg : List Int32} {cu e i : Nat} (h : e = cu + gSl.getD i 0) : tSp sg cu e i = (List.range (gSl.getD i 0)).all (fun k => decide (sg.getD (cu + k) 0 = gCh i k)) := by
  unfold tSp
  rw [decide_eq_true h, Bool.true_and]
theorem nIe (a b : Nat) (ha : a < 2 ^ 31) (hb : b < 2 ^ 31) : decide (nI a = nI b) = decide (a = b) := by
  by_cases q : a = b
  · rw [q, decide_eq_true rfl, decide_eq_true rfl]
  · rw [decide_eq_false q, decide_eq_false (fun y => q ((nI_eq ha hb).mp y))]
theorem tSp_3 {sg : List Int32} {cu i n0 n1 n2 a b c : Nat} (hl : gSl.getD i 0 = 3) (g0 : gCh i 0 = nI a) (g1 : gCh i 1 = nI b) (g2 : gCh i 2 = nI c) (h0 : sg.getD cu 0 = nI n0) (h1 : sg.getD (cu + 1) 0 = nI n1) (h2 : sg.getD (cu + 2) 0 = nI n2) (k : n0 < 128 ∧ n1 < 128 ∧ n2 < 128 ∧ a < 128 ∧ b < 128 ∧ c < 128) : tSp sg cu (cu + 3) i = decide ((n0 * 128 + n1) * 128 + n2 = ((0 * 128 + a) * 128 + b) * 128 + c) := by
  rw [tSp_r (by rw [hl]), hl]
  show (decide (sg.getD (cu + 0) 0 = gCh i 0) && (decide (sg.getD (cu + 1) 0 = gCh i 1) && (decide (sg.getD (cu + 2) 0 = gCh i 2) && true))) = _
  rw [Nat.add_zero, h0, h1, h2, g0, g1, g2, nIe _ _ (by omega) (by omega), nIe _ _ (by omega) (by omega), nIe _ _ (by omega) (by omega), Bool.and_true, ← Bool.decide_and, ← Bool.decide_and]
  by_cases q : (n0 * 128 + n1) * 128 + n2 = ((0 * 128 + a) * 128 + b) * 128 + c
  · rw [decide_eq_true q, decide_eq_true (by omega)]
  · rw [decide_eq_false q, decide_eq_false (by omega)]
theorem tSp_4 {sg : List Int32} {cu n0 n1 n2 n3 : Nat} (h0 : sg.getD cu 0 = nI n0) (h1 : sg.getD (cu + 1) 0 = nI n1) (h2 : sg.getD (cu + 2) 0 = nI n2) (h3 : sg.getD (cu + 3) 0 = nI n3) (k : n0 < 128 ∧ n1 < 128 ∧ n2 < 128 ∧ n3 < 128) : tSp sg cu (cu + 4) 3 = decide (((n0 * 128 + n1) * 128 + n2) * 128 + n3 = ((115 * 128 + 119) * 128 + 97) * 128 + 112) := by
  have hl : gSl.getD 3 0 = 4 := rfl
  have g0 : gCh 3 0 = nI 115 := by decide
  have g1 : gCh 3 1 = nI 119 := by decide
  have g2 : gCh 3 2 = nI 97 := by decide
  have g3 : gCh 3 3 = nI 112 := by decide
  rw [tSp_r (by rw [hl]), hl]
  show (decide (sg.getD (cu + 0) 0 = gCh 3 0) && (decide (sg.getD (cu + 1) 0 = gCh 3 1) && (decide (sg.getD (cu + 2) 0 = gCh 3 2) && (decide (sg.getD (cu + 3) 0 = gCh 3 3) && true)))) = _
  rw [Nat.add_zero, h0, h1, h2, h3, g0, g1, g2, g3, nIe _ _ (by omega) (by omega), nIe _ _ (by omega) (by omega), nIe _ _ (by omega) (by omega), nIe _ _ (by omega) (by omega), Bool.and_true, ← Bool.decide_and, ← Bool.decide_and, ← Bool.decide_and]
  by_cases q : ((n0 * 128 + n1) * 128 + n2) * 128 + n3 = ((115 * 128 + 119) * 128 + 97) * 128 + 112
  · rw [decide_eq_true q, decide_eq_true (by omega)]
  · rw [decide_eq_false q, decide_eq_false (by omega)]
theorem tWd_6 {sg : List Int32} {cu e : Nat} : tWd sg cu e 6 = if tSp sg cu e 5 = true then nI 5 else if tSp sg cu e 4 = true then nI 4 else if tSp sg cu e 3 = true then nI 3 else if tSp sg cu e 2 = true then nI 2 else if tSp sg cu e 1 = true then nI 1 else if tSp sg cu e 0 = true then nI 0 else -1 := rfl
theorem tW3 : ∀ W : Nat, W < 2 ^ 31 → (if decide (W = ((0 * 128 + 97) * 128 + 115) * 128 + 107) = true then nI 5 else if decide (W = ((0 * 128 + 99) * 128 + 97) * 128 + 112) = true then nI 4 else if false = true then nI 3 else if decide (W = ((0 * 128 + 114) * 128 + 101) * 128 + 112) = true then nI 2 else if decide (W = ((0 * 128 + 105) * 128 + 110) * 128 + 115) = true then nI 1 else if decide (W = ((0 * 128 + 100) * 128 + 101) * 128 + 108) = true then nI 0 else -1) = (if nI W = nI (((0 * 128 + 100) * 128 + 101) * 128 + 108) then 0 else if nI W = nI (((0 * 128 + 105) * 128 + 110) * 128 + 115) then 1 else if nI W = nI (((0 * 128 + 114) * 128 + 101) * 128 + 112) then 2 else if nI W = nI (((0 * 128 + 99) * 128 + 97) * 128 + 112) then 4 else if nI W = nI (((0 * 128 + 97) * 128 + 115) * 128 + 107) then 5 else -1) := by
  intro W hW
  by_cases h0 : W = ((0 * 128 + 100) * 128 + 101) * 128 + 108
  · subst h0; decide
  by_cases h1 : W = ((0 * 128 + 105) * 128 + 110) * 128 + 115
  · subst h1; decide
  by_cases h2 : W = ((0 * 128 + 114) * 128 + 101) * 128 + 112
  · subst h2; decide
  by_cases h4 : W = ((0 * 128 + 99) * 128 + 97) * 128 + 112
  · subst h4; decide
  by_cases h5 : W = ((0 * 128 + 97) * 128 + 115) * 128 + 107
  · subst h5; decide
  rw [decide_eq_false h0, decide_eq_false h1, decide_eq_false h2, decide_eq_false h4, decide_eq_false h5, if_neg (by decide), if_neg (by decide), if_neg (by decide), if_neg (by decide), if_neg (by decide), if_neg (by decide), if_neg (fun q => h0 ((nI_eq hW (by omega)).mp q)), if_neg (fun q => h1 ((nI_eq hW (by omega)).mp q)), if_neg (fun q => h2 ((nI_eq hW (by omega)).mp q)), if_neg (fun q => h4 ((nI_eq hW (by omega)).mp q)), if_neg (fun q => h5 ((nI_eq hW (by omega)).mp q))]
theorem tK3 {sg : List Int32} {cu : Nat} (h : tEnd sg cu = cu + 3) : tKind sg cu = (if nI (tWn sg cu 3) = nI (((0 * 128 + 100) * 128 + 101) * 128 + 108) then 0 else if nI (tWn sg cu 3) = nI (((0 * 128 + 105) * 128 + 110) * 128 + 115) then 1 else if nI (tWn sg cu 3) = nI (((0 * 128 + 114) * 128 + 101) * 128 + 112) then 2 else if nI (tWn sg cu 3) = nI (((0 * 128 + 99) * 128 + 97) * 128 + 112) then 4 else if nI (tWn sg cu 3) = nI (((0 * 128 + 97) * 128 + 115) * 128 + 107) then 5 else -1) := by
  obtain ⟨n0, e0, a0, b0⟩ := tLet_n (tEnd_let (sg := sg) sg.length cu (by omega) cu (by omega) (by omega))
  obtain ⟨n1, e1, a1, b1⟩ := tLet_n (tEnd_let (sg := sg) sg.length cu (by omega) (cu + 1) (by omega) (by omega))
  obtain ⟨n2, e2, a2, b2⟩ := tLet_n (tEnd_let (sg := sg) sg.length cu (by omega) (cu + 2) (by omega) (by omega))
  have eW : tWn sg cu 3 = (n0 * 128 + n1) * 128 + n2 := by
    show ((0 * 128 + (sg.getD (cu + 0) 0).toNatClampNeg) * 128 + (sg.getD (cu + 1) 0).toNatClampNeg) * 128 + (sg.getD (cu + 2) 0).toNatClampNeg = _
    rw [Nat.add_zero, e0, e1, e2, nI_clamp (by omega), nI_clamp (by omega), nI_clamp (by omega), Nat.zero_mul, Nat.zero_add]
  rw [← tW3 _ (by omega), tKind, h, tWd_6, eW, tSp_3 (i := 5) (a := 97) (b := 115) (c := 107) rfl (by decide) (by decide) (by decide) e0 e1 e2 (by omega), tSp_3 (i := 4) (a := 99) (b := 97) (c := 112) rfl (by decide) (by decide) (by decide) e0 e1 e2 (by omega), tSp_3 (i := 2) (a := 114) (b := 101) (c := 112) rfl (by decide) (by decide) (by decide) e0 e1 e2 (by omega), tSp_3 (i := 1) (a := 105) (b := 110) (c := 115) rfl (by decide) (by decide) (by decide) e0 e1 e2 (by omega), tSp_3 (i := 0) (a := 100) (b := 101) (c := 108) rfl (by decide) (by decide) (by decide) e0 e1 e2 (by omega), tSp_0 (i := 3) (by show ¬ cu + 3 = cu + 4; omega)]
theorem tK4 {sg : List Int32} {cu : Nat} (h : tEnd sg cu = cu + 4) : tKind sg cu = (if nI (tWn sg cu 4) = nI (((115 * 128 + 119) * 128 + 97) * 128 + 112) then 3 else -1) := by
  obtain ⟨n0, e0, a0, b0⟩ := tLet_n (tEnd_let (sg := sg) sg.length cu (by omega) cu (by omega) (by omega))
  obtain ⟨n1, e1, a1, b1⟩ := tLet_n (tEnd_let (sg := sg) sg.length cu (by omega) (cu + 1) (by omega) (by omega))
  obtain ⟨n2, e2, a2, b2⟩ := tLet_n (tEnd_let (sg := sg) sg.length cu (by omega) (cu + 2) (by omega) (by omega))
  obtain ⟨n3, e3, a3, b3⟩ := tLet_n (tEnd_let (sg := sg) sg.length cu (by omega) (cu + 3) (by omega) (by omega))
  have eW : tWn sg cu 4 = ((n0 * 128 + n1) * 128 + n2) * 128 + n3 := by
    show (((0 * 128 + (sg.getD (cu + 0) 0).toNatClampNeg) * 128 + (sg.getD (cu + 1) 0).toNatClampNeg) * 128 + (sg.getD (cu + 2) 0).toNatClampNeg) * 128 + (sg.getD (cu + 3) 0).toNatClampNeg = _
    rw [Nat.add_zero, e0, e1, e2, e3, nI_clamp (by omega), nI_clamp (by omega), nI_clamp (by omega), nI_clamp (by omega), Nat.zero_mul, Nat.zero_add]
  have s : ∀ i : Nat, gSl.getD i 0 = 3 → tSp sg cu (cu + 4) i = false := fun i hi => tSp_0 (by rw [hi]; omega)
  rw [tKind, h, tWd_6, eW, s 5 rfl, s 4 rfl, s 2 rfl, s 1 rfl, s 0 rfl, tSp_4 e0 e1 e2 e3 (by omega)]
  have nf : ¬ (false = true) := by decide
  rw [if_neg nf, if_neg nf]
  by_cases q : ((n0 * 128 + n1) * 128 + n2) * 128 + n3 = ((115 * 128 + 119) * 128 + 97) * 128 + 112
  · rw [decide_eq_true q, if_pos rfl, q, if_pos rfl]
    rfl
  · rw [decide_eq_false q, if_neg nf, if_neg nf, if_neg nf, if_neg nf, if_neg (fun y => q ((nI_eq (by omega) (by omega)).mp y))]
theorem tKn {sg : List Int32} {cu : Nat} (h3 : ¬ tEnd sg cu = cu + 3) (h4 : ¬ tEnd sg cu = cu + 4) : tKind sg cu = -1 := by
  rw [tKind, tWd_6, tSp_0 (i := 5) h3, tSp_0 (i := 4) h3, tSp_0 (i := 3) h4, tSp_0 (i := 2) h3, tSp_0 (i := 1) h3, tSp_0 (i := 0) h3]
  rfl
theorem tWn_lt {sg : List Int32} {cu m : Nat} (h : tEnd sg cu = cu + m) : ∀ k : Nat, k ≤ m → tWn sg cu k < 128 ^ k := by
  intro k
  induction k with
  | zero => intro _; show 0 < 128 ^ 0; decide
  | succ k ih =>
    intro hk
    obtain ⟨n0, e0, a0, b0⟩ := tLet_n (tEnd_let (sg := sg) sg.length cu (by omega) (cu + k) (by omega) (by omega))
    have := ih (by omega)
    rw [tWn, e0, nI_clamp (by omega), Nat.pow_succ]
    omega
theorem tKind_n {sg : List Int32} {cu : Nat} (h : ¬ tKind sg cu < 0) : ∃ k : Nat, k < 6 ∧ tKind sg cu = nI k := by
  have e : tKind sg cu = _ := tWd_6
  rw [e] at h ⊢
  by_cases h5 : tSp sg cu (tEnd sg cu) 5 = true
  · exact ⟨5, by decide, if_pos h5⟩
  rw [if_neg h5] at h ⊢
  by_cases h4 : tSp sg cu (tEnd sg cu) 4 = true
  · exact ⟨4, by decide, if_pos h4⟩
  rw [if_neg h4] at h ⊢
  by_cases h3 : tSp sg cu (tEnd sg cu) 3 = true
  · exact ⟨3, by decide, if_pos h3⟩
  rw [if_neg h3] at h ⊢
  by_cases h2 : tSp sg cu (tEnd sg cu) 2 = true
  · exact ⟨2, by decide, if_pos h2⟩
  rw [if_neg h2] at h ⊢
  by_cases h1 : tSp sg cu (tEnd sg cu) 1 = true
  · exact ⟨1, by decide, if_pos h1⟩
  rw [if_neg h1] at h ⊢
  by_cases h0 : tSp sg cu (tEnd sg cu) 0 = true
  · exact ⟨0, by decide, if_pos h0⟩
  rw [if_neg h0] at h
  exact absurd (by decide) h
/-! positions -/
theorem tDigs_v {sg : List Int32} : ∀ (n v cu : Nat), ∃ y : Nat, y < (v + 1) * 10 ^ n ∧ (tDigs sg n (nI v) cu).1 = nI y := by
  intro n
  induction n with
  | zero => intro v cu; exact ⟨v, by omega, rfl⟩
  | succ n ih =>
    intro v cu
    rw [tDigs]
    have hp : 0 < 10 ^ n := Nat.pow_pos (by decide)
    rw [Nat.pow_succ]
    by_cases q : tDig (sg.getD cu 0) = true
    · rw [if_pos q]
      obtain ⟨d, e, d1, d2⟩ := tDig_n q
      have e2 : nI v * 10 + sg.getD cu 0 - 48 = nI (v * 10 + (d - 48)) := by
        rw [e, show (10 : Int32) = nI 10 from rfl, show (48 : Int32) = nI 48 from rfl, pk_mul, nI_add, pk_sub (by omega)]
        exact congrArg nI (by omega)
      rw [e2]
      have hb : (v * 10 + (d - 48) + 1) * 10 ^ n ≤ (v + 1) * (10 ^ n * 10) := by
        rw [show (v + 1) * (10 ^ n * 10) = ((v + 1) * 10) * 10 ^ n by rw [Nat.mul_assoc, Nat.mul_comm (10 ^ n) 10]]
        exact Nat.mul_le_mul_right _ (by omega)
      obtain ⟨y, y1, y2⟩ := ih (v * 10 + (d - 48)) (cu + 1)
      exact ⟨y, Nat.lt_of_lt_of_le y1 hb, y2⟩
    · rw [if_neg q]
      refine ⟨v, ?_, rfl⟩
      have : v + 1 ≤ (v + 1) * (10 ^ n * 10) := Nat.le_mul_of_pos_right _ (by omega)
      omega
theorem tDigs_s {sg : List Int32} {cu n : Nat} {v : Int32} (h : tDig (sg.getD cu 0) = true) : ¬ (tDigs sg (n + 1) v cu).2 = cu := by
  have l := gD_lt (tDig_0 h)
  rw [tDigs, if_pos h]
  have := tDigs_le (sg := sg) n (v * 10 + sg.getD cu 0 - 48) (cu + 1) (by omega)
  omega
theorem tDigs_n {sg : List Int32} {cu n : Nat} {v : Int32} (h : ¬ tDig (sg.getD cu 0) = true) : tDigs sg (n + 1) v cu = (v, cu) := by
  rw [tDigs, if_neg h]
theorem tPos_0 {sg : List Int32} {cu : Nat} (h : ¬ sg.getD cu 0 = 32) : tPos sg cu = (-1, cu) := if_neg h
theorem tPos_1 {sg : List Int32} {cu : Nat} (h : sg.getD cu 0 = 32) (h2 : ¬ tDig (sg.getD (cu + 1) 0) = true) : tPos sg cu = (-1, cu + 1) := by
  rw [tPos, if_pos h, tDigs_n h2, if_pos rfl]
theorem tPos_2 {sg : List Int32} {cu : Nat} (h : sg.getD cu 0 = 32) (h2 : tDig (sg.getD (cu + 1) 0) = true) : tPos sg cu = tDigs sg 3 0 (cu + 1) := by
  rw [tPos, if_pos h, if_neg (tDigs_s h2)]
theorem tPos_v {sg : List Int32} {cu : Nat} (h : ¬ (tPos sg cu).1 < 0) : ∃ y : Nat, y < 1000 ∧ (tPos sg cu).1 = nI y := by
  by_cases q : sg.getD cu 0 = 32
  · by_cases q2 : tDig (sg.getD (cu + 1) 0) = true
    · rw [tPos_2 q q2]
      obtain ⟨y, y1, y2⟩ := tDigs_v (sg := sg) 3 0 (cu + 1)
      exact ⟨y, by omega, y2⟩
    · rw [tPos_1 q q2] at h
      exact absurd (show (-1 : Int32) < 0 by decide) h
  · rw [tPos_0 q] at h
    exact absurd (show (-1 : Int32) < 0 by decide) h
theorem tChr_v {sg : List Int32} {cu : Nat} (hC : ∀ i : Nat, i < sg.length → cOk (sg.getD i 0)) (h : ¬ (tChr sg cu).1 < 0) : sg.getD cu 0 = 32 ∧ cu + 1 < sg.length ∧ tChr sg cu = (sg.getD (cu + 1) 0, cu + 2) := by
  unfold tChr at h ⊢
  by_cases q : sg.getD cu 0 = 32
  · rw [if_pos q] at h ⊢
    by_cases q2 : cu + 1 < sg.length
    · rw [if_pos q2]
      exact ⟨q, q2, rfl⟩
    · rw [if_neg q2] at h
      exact absurd (show (-1 : Int32) < 0 by decide) h
  · rw [if_neg q] at h
    exact absurd (show (-1 : Int32) < 0 by decide) h
/-- the parts of a mark that has its form -/
theorem tGood {sg : List Int32} {cu k : Nat} (hC : ∀ i : Nat, i < sg.length → cOk (sg.getD i 0)) (hk : tKind sg cu = nI k) (k6 : k < 6) (h : ¬ ((tP1 sg cu).1 < 0 ∨ (tP2 sg cu).1 < 0 ∨ (tP3 sg cu).1 < 0 ∨ ¬ sg.getD (tP3 sg cu).2 0 = 59)) : ∃ a b c : Nat, a < 1000 ∧ b < 1000 ∧ c < 127 ∧ (tP1 sg cu).1 = nI a ∧ (tP2 sg cu).1 = nI b ∧ (tP3 sg cu).1 = nI c ∧ (¬ k = 0 → b = 0) ∧ (k = 1 ∨ k = 2 → 32 ≤ c ∧ c ≤ 126) := by
  have h1 : ¬ (tP1 sg cu).1 < 0 := fun q => h (Or.inl q)
  have h2 : ¬ (tP2 sg cu).1 < 0 := fun q => h (Or.inr (Or.inl q))
  have h3 : ¬ (tP3 sg cu).1 < 0 := fun q => h (Or.inr (Or.inr (Or.inl q)))
  obtain ⟨a, a1, a2⟩ := tPos_v h1
  have hb : ∃ b : Nat, b < 1000 ∧ (tP2 sg cu).1 = nI b ∧ (¬ k = 0 → b = 0) := by
    unfold tP2 at h2 ⊢
    by_cases q : tKind sg cu = 0
    · rw [if_pos q] at h2 ⊢
      obtain ⟨b, b1, b2⟩ := tPos_v h2
      rw [hk] at q
      exact ⟨b, b1, b2, fun y => absurd ((nI_eq (b := 0) (by omega) (by omega)).mp q) y⟩
    · rw [if_neg q]
      exact ⟨0, by omega, rfl, fun _ => rfl⟩
  have hc : ∃ c : Nat, c < 127 ∧ (tP3 sg cu).1 = nI c ∧ (k = 1 ∨ k = 2 → 32 ≤ c ∧ c ≤ 126) := by
    unfold tP3 at h3 ⊢
    by_cases q : pTakes (tKind sg cu) = 0
    · rw [if_pos q]
      refine ⟨0, by omega, rfl, fun y => ?_⟩
      rw [hk] at q
      rcases y with rfl | rfl
      · exact absurd q (by decide)
      · exact absurd q (by decide)
    · rw [if_neg q] at h3 ⊢
      obtain ⟨q1, q2, q3⟩ := tChr_v hC h3
      rw [q3]
      obtain ⟨c, c1, c2, c3⟩ := cOk_ex (hC _ q2)
      exact ⟨c, by omega, c1, fun _ => ⟨c2, c3⟩⟩
  obtain ⟨b, b1, b2, b3⟩ := hb
  obtain ⟨c, c1, c2, c3⟩ := hc
  exact ⟨a, b, c, a1, b1, c1, a2, b2, c2, b3, c3⟩
/-- is it in range: as the model asks -/
theorem pOk_0 {a b n : Nat} (ha : a < 1000) (hb : b < 1000) (hn : n < 1000) : pOk (nI 0) (nI a) (nI b) (nI n) = if a < b ∧ b ≤ n then 1 else 0 := by
  rw [pOk, if_pos (by decide)]
  by_cases q : a < b ∧ b ≤ n
  · rw [if_pos q, if_pos ⟨nI_lt q.1 (by omega), nI_le q.2 (by omega)⟩]
  · rw [if_neg q, if_neg (fun y => q ⟨(nI_ltI (by omega) (by omega)).mp y.1, (nI_leI (by omega) (by omega)).mp y.2⟩)]
theorem pOk_k {k a b n : Nat} (hk : k < 6) (k0 : ¬ k = 0) (ha : a < 1000) (hn : n < 1000) : pOk (nI k) (nI a) (nI b) (nI n) = if a + (if k = 1 then 0 else if k = 3 then 2 else 1) ≤ n then 1 else 0 := by
  have e : nI a + 1 = nI (a + 1) := nI_add a 1
  rcases (show k = 1 ∨ k = 2 ∨ k = 3 ∨ k = 4 ∨ k = 5 by omega) with rfl | rfl | rfl | rfl | rfl
  · rw [pOk, if_neg (by decide), if_pos (by decide)]
    show (if nI a ≤ nI n then (1 : Int32) else 0) = if a ≤ n then 1 else 0
    by_cases q : a ≤ n
    · rw [if_pos q, if_pos (nI_le q (by omega))]
    · rw [if_neg q, if_neg (fun y => q ((nI_leI (by omega) (by omega)).mp y))]
  · rw [pOk, if_neg (by decide), if_neg (by decide), if_neg (by decide)]
    show (if nI a < nI n then (1 : Int32) else 0) = if a + 1 ≤ n then 1 else 0
    by_cases q : a + 1 ≤ n
    · rw [if_pos q, if_pos (nI_lt q (by omega))]
    · rw [if_neg q, if_neg (fun y => q ((nI_ltI (by omega) (by omega)).mp y))]
  · rw [pOk, if_neg (by decide), if_neg (by decide), if_pos (by decide), e]
    show (if nI (a + 1) < nI n then (1 : Int32) else 0) = if a + 2 ≤ n then 1 else 0
    by_cases q : a + 2 ≤ n
    · rw [if_pos q, if_pos (nI_lt (by omega) (by omega))]
    · rw [if_neg q, if_neg (fun y => q (by have := (nI_ltI (by omega) (by omega)).mp y; omega))]
  · rw [pOk, if_neg (by decide), if_neg (by decide), if_neg (by decide)]
    show (if nI a < nI n then (1 : Int32) else 0) = if a + 1 ≤ n then 1 else 0
    by_cases q : a + 1 ≤ n
    · rw [if_pos q, if_pos (nI_lt q (by omega))]
    · rw [if_neg q, if_neg (fun y => q ((nI_ltI (by omega) (by omega)).mp y))]
  · rw [pOk, if_neg (by decide), if_neg (by decide), if_neg (by decide)]
    show (if nI a < nI n then (1 : Int32) else 0) = if a + 1 ≤ n then 1 else 0
    by_cases q : a + 1 ≤ n
    · rw [if_pos q, if_pos (nI_lt q (by omega))]
    · rw [if_neg q, if_neg (fun y => q ((nI_ltI (by omega) (by omega)).mp y))]
/-- a mark that is read and in its range -/
theorem iOk_new {k a b c n : Nat} (hk : k < 6) (ha : a < 1000) (hb : b < 1000) (hc : c < 127) (hn : n ≤ 100) (b0 : ¬ k = 0 → b = 0) (h12 : k = 1 ∨ k = 2 → 32 ≤ c ∧ c ≤ 126) (h : ¬ pOk (nI k) (nI a) (nI b) (nI n) = 0) : a < 256 ∧ b < 256 ∧ iOk (pCode (nI k) (nI a) (nI b) (nI c)) n := by
  have e : ∀ {i j : Nat}, i < 1000 → j < 1000 → (nI i = nI j ↔ i = j) := fun hi hj => nI_eq (by omega) (by omega)
  have key : a < 256 ∧ b < 256 ∧ ((k = 0 ∧ a < b ∧ b ≤ n) ∨ (k = 1 ∧ a ≤ n) ∨ (k = 2 ∧ a < n) ∨ (k = 3 ∧ a + 1 < n) ∨ (k = 4 ∧ a < n) ∨ (k = 5 ∧ a < n)) := by
    by_cases k0 : k = 0
    · subst k0
      rw [pOk_0 ha hb (by omega)] at h
      by_cases q : a < b ∧ b ≤ n
      · omega
      · rw [if_neg q] at h
        exact absurd rfl h
    · rw [pOk_k hk k0 ha (by omega)] at h
      have b1 := b0 k0
      by_cases q : a + (if k = 1 then 0 else if k = 3 then 2 else 1) ≤ n
      · rcases (show k = 1 ∨ k = 2 ∨ k = 3 ∨ k = 4 ∨ k = 5 by omega) with rfl | rfl | rfl | rfl | rfl
        · rw [if_pos rfl] at q
          omega
        · rw [if_neg (by decide), if_neg (by decide)] at q
          omega
        · rw [if_neg (by decide), if_pos rfl] at q
          omega
        · rw [if_neg (by decide), if_neg (by decide)] at q
          omega
        · rw [if_neg (by decide), if_neg (by decide)] at q
          omega
      · rw [if_neg q] at h
        exact absurd rfl h
  obtain ⟨a2, b2, key⟩ := key
  refine ⟨a2, b2, ?_, ?_⟩
  · unfold iOk0
    rw [pC_kind (by omega) a2 b2 (by omega), pC_F (by omega) a2 b2 (by omega), pC_S (by omega) a2 b2 (by omega)]
    rcases key with q | q | q | q | q | q
    · exact Or.inl ⟨by rw [q.1]; rfl, q.2⟩
    · exact Or.inr (Or.inl ⟨by rw [q.1]; rfl, q.2⟩)
    · exact Or.inr (Or.inr (Or.inl ⟨by rw [q.1]; rfl, q.2⟩))
    · exact Or.inr (Or.inr (Or.inr (Or.inl ⟨by rw [q.1]; rfl, q.2⟩)))
    · exact Or.inr (Or.inr (Or.inr (Or.inr (Or.inl ⟨by rw [q.1]; rfl, q.2⟩))))
    · exact Or.inr (Or.inr (Or.inr (Or.inr (Or.inr ⟨by rw [q.1]; rfl, q.2⟩))))
  · rw [pC_kind (by omega) a2 b2 (by omega), pC_sign (by omega) a2 b2 (by omega)]
    intro q
    have q2 : k = 1 ∨ k = 2 := by
      rcases q with q | q
      · exact Or.inl ((e (j := 1) (by omega) (by omega)).mp q)
      · exact Or.inr ((e (j := 2) (by omega) (by omega)).mp q)
    have := h12 q2
    exact ⟨nI_le (a := 32) this.1 (by omega), nI_le (b := 126) this.2 (by omega)⟩
theorem mkR_new {f : Nat → Int32} {p k a b c : Nat} (hk : k < 6) (ha : a < 256) (hb : b < 256) (hc : c < 127) (h0 : f p = nI k) (h1 : f (p + 1) = nI a) (h2 : f (p + 2) = nI b) (h3 : f (p + 3) = nI c) : mkR f p (pCode (nI k) (nI a) (nI b) (nI c)) := by
  unfold mkR
  rw [pC_kind (by omega) ha hb (by omega), pC_first (by omega) ha hb (by omega), pC_second (by omega) ha hb (by omega), pC_sign (by omega) ha hb (by omega)]
  exact ⟨h0, h1, h2, h3⟩
