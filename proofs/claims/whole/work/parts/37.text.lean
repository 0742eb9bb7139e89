/-! MARK TEXTS -/
def gMt (D : gD) (G : gH) (a : Nat) (sg cd : List Int32) (st cu re : Int32) : Prop := G a = some (.inr (2, [.ref (a + 1), .ref (a + 3), .int st, .int cu, .int re])) ∧ gRow D G (a + 1) 80 sg ∧ gRow D G (a + 3) 8 cd
theorem gMt_fr {D : gD} {G G' : gH} {a b n : Nat} {sg cd : List Int32} {st cu re : Int32} (h : gMt D G a sg cd st cu re) (ho : gOut b n G G') (hd : a + 5 ≤ b ∨ b + n ≤ a) : gMt D G' a sg cd st cu re :=
  ⟨by rw [ho a (by omega)]; exact h.1, gRow_fr h.2.1 ho (by omega), gRow_fr h.2.2 ho (by omega)⟩
theorem gMt_up {D : gD} {G : gH} {a : Nat} {sg cd : List Int32} {st cu re st' cu' re' : Int32} (h : gMt D G a sg cd st cu re) : gMt D (gU G a (.inr (2, [.ref (a + 1), .ref (a + 3), .int st', .int cu', .int re']))) a sg cd st' cu' re' :=
  ⟨gU_s, gRow_fr h.2.1 (gOut_up (a := a) (n := 1) gOut_rf (by omega)) (by omega), gRow_fr h.2.2 (gOut_up (a := a) (n := 1) gOut_rf (by omega)) (by omega)⟩
theorem gMt_up2 {D : gD} {G : gH} {a : Nat} {sg cd : List Int32} {st cu re st' cu' re' : Int32} (h : gMt D G a sg cd st cu re) : gMt D (gU G a (.inr (2, [.ref (a + 1), .ref (a + 3), .int st', .int cu', .int re']))) a sg cd st' cu' re' ∧ gOut a 5 G (gU G a (.inr (2, [.ref (a + 1), .ref (a + 3), .int st', .int cu', .int re']))) := ⟨gMt_up h, gOut_up gOut_rf (by omega)⟩
theorem gMt_re {D : gD} {G : gH} {a : Nat} {sg cd : List Int32} {st cu re : Int32} (re' : Int32) (h : gMt D G a sg cd st cu re) : gMt D (gU G a (.inr (2, [.ref (a + 1), .ref (a + 3), .int st, .int cu, .int re']))) a sg cd st cu re' := gMt_up h
theorem gMt_cu {D : gD} {G : gH} {a : Nat} {sg cd : List Int32} {st cu re : Int32} (cu' : Int32) (h : gMt D G a sg cd st cu re) : gMt D (gU G a (.inr (2, [.ref (a + 1), .ref (a + 3), .int st, .int cu', .int re]))) a sg cd st cu' re := gMt_up h
theorem gMt_cd {D : gD} {G G' : gH} {a : Nat} {sg cd xs : List Int32} {st cu re : Int32} (h : gMt D G a sg cd st cu re) (hr : gRow D G' (a + 3) 8 xs) (ho : gOut (a + 3) 2 G G') : gMt D G' a sg xs st cu re :=
  ⟨by rw [ho a (by omega)]; exact h.1, gRow_fr h.2.1 ho (by omega), hr⟩
theorem gMt_sg {D : gD} {G G' : gH} {a : Nat} {sg cd xs : List Int32} {st cu re : Int32} (h : gMt D G a sg cd st cu re) (hr : gRow D G' (a + 1) 80 xs) (ho : gOut (a + 1) 2 G G') : gMt D G' a xs cd st cu re :=
  ⟨by rw [ho a (by omega)]; exact h.1, hr, gRow_fr h.2.2 ho (by omega)⟩
theorem gD_lt {sg : List Int32} {j : Nat} (h : ¬ sg.getD j 0 = 0) : j < sg.length := by
  rcases Nat.lt_or_ge j sg.length with q | q
  · exact q
  · exact absurd (by rw [List.getD_eq_getElem?_getD, List.getElem?_eq_none q]; rfl) h
def tLet (x : Int32) : Bool := decide (97 ≤ x) && decide (x ≤ 122)
def tDig (x : Int32) : Bool := decide (48 ≤ x) && decide (x ≤ 57)
theorem tLet_0 {x : Int32} (h : tLet x = true) : ¬ x = 0 := by
  rintro rfl
  exact absurd h (by decide)
theorem tDig_0 {x : Int32} (h : tDig x = true) : ¬ x = 0 := by
  rintro rfl
  exact absurd h (by decide)
def tEnd (sg : List Int32) (i : Nat) : Nat := if h : i < sg.length ∧ tLet (sg.getD i 0) = true then tEnd sg (i + 1) else i
termination_by sg.length - i
decreasing_by omega
theorem tEnd_t {sg : List Int32} {i : Nat} (h : tLet (sg.getD i 0) = true) : tEnd sg i = tEnd sg (i + 1) := by
  rw [tEnd, dif_pos ⟨gD_lt (tLet_0 h), h⟩]
theorem tEnd_f {sg : List Int32} {i : Nat} (h : ¬ tLet (sg.getD i 0) = true) : tEnd sg i = i := by
  rw [tEnd, dif_neg (fun q => h q.2)]
theorem tEnd_le {sg : List Int32} : ∀ (n i : Nat), sg.length ≤ i + n → i ≤ sg.length → i ≤ tEnd sg i ∧ tEnd sg i ≤ sg.length := by
  intro n
  induction n with
  | zero =>
    intro i h1 h2
    rw [tEnd, dif_neg (by omega)]
    omega
  | succ n ih =>
    intro i h1 h2
    by_cases q : tLet (sg.getD i 0) = true
    · have := gD_lt (tLet_0 q)
      rw [tEnd_t q]
      have := ih (i + 1) (by omega) (by omega)
      omega
    · rw [tEnd_f q]
      omega
def tSp (sg : List Int32) (cu e i : Nat) : Bool := decide (e = cu + gSl.getD i 0) && (List.range (gSl.getD i 0)).all (fun k => decide (sg.getD (cu + k) 0 = gCh i k))
def tWd (sg : List Int32) (cu e : Nat) : Nat → Int32
  | 0 => -1
  | n + 1 => if tSp sg cu e n = true then nI n else tWd sg cu e n
def tDigs (sg : List Int32) : Nat → Int32 → Nat → Int32 × Nat
  | 0, v, cu => (v, cu)
  | n + 1, v, cu => if tDig (sg.getD cu 0) = true then tDigs sg n (v * 10 + sg.getD cu 0 - 48) (cu + 1) else (v, cu)
theorem tDigs_le {sg : List Int32} : ∀ (n : Nat) (v : Int32) (cu : Nat), cu ≤ sg.length → cu ≤ (tDigs sg n v cu).2 ∧ (tDigs sg n v cu).2 ≤ sg.length := by
  intro n
  induction n with
  | zero => intro v cu h; exact ⟨Nat.le_refl _, h⟩
  | succ n ih =>
    intro v cu h
    rw [tDigs]
    split
    · rename_i q
      have := gD_lt (tDig_0 q)
      have := ih (v * 10 + sg.getD cu 0 - 48) (cu + 1) (by omega)
      omega
    · exact ⟨Nat.le_refl _, h⟩
def tPos (sg : List Int32) (cu : Nat) : Int32 × Nat := if sg.getD cu 0 = 32 then (if (tDigs sg 3 0 (cu + 1)).2 = cu + 1 then -1 else (tDigs sg 3 0 (cu + 1)).1, (tDigs sg 3 0 (cu + 1)).2) else (-1, cu)
theorem tPos_le {sg : List Int32} {cu : Nat} (h : cu ≤ sg.length) : cu ≤ (tPos sg cu).2 ∧ (tPos sg cu).2 ≤ sg.length := by
  unfold tPos
  split
  · rename_i q
    have := gD_lt (sg := sg) (j := cu) (by rw [q]; decide)
    have := tDigs_le (sg := sg) 3 0 (cu + 1) (by omega)
    omega
  · exact ⟨Nat.le_refl _, h⟩
def tChr (sg : List Int32) (cu : Nat) : Int32 × Nat := if sg.getD cu 0 = 32 then (if cu + 1 < sg.length then (sg.getD (cu + 1) 0, cu + 2) else (-1, cu + 1)) else (-1, cu)
theorem tChr_le {sg : List Int32} {cu : Nat} (h : cu ≤ sg.length) : cu ≤ (tChr sg cu).2 ∧ (tChr sg cu).2 ≤ sg.length := by
  unfold tChr
  split
  · rename_i q
    have := gD_lt (sg := sg) (j := cu) (by rw [q]; decide)
    split <;> omega
  · exact ⟨Nat.le_refl _, h⟩
def tKind (sg : List Int32) (cu : Nat) : Int32 := tWd sg cu (tEnd sg cu) 6
def tP1 (sg : List Int32) (cu : Nat) : Int32 × Nat := tPos sg (tEnd sg cu)
def tP2 (sg : List Int32) (cu : Nat) : Int32 × Nat := if tKind sg cu = 0 then tPos sg (tP1 sg cu).2 else (0, (tP1 sg cu).2)
def tP3 (sg : List Int32) (cu : Nat) : Int32 × Nat := if pTakes (tKind sg cu) = 0 then (0, (tP2 sg cu).2) else tChr sg (tP2 sg cu).2
def tCode (sg : List Int32) (cu : Nat) : Int32 := pCode (tKind sg cu) (tP1 sg cu).1 (tP2 sg cu).1 (tP3 sg cu).1
def tWhy (sg ms cd : List Int32) (tl : Int32) (cu : Nat) : Int32 :=
  if tKind sg cu < 0 then 1 else if (tP1 sg cu).1 < 0 ∨ (tP2 sg cu).1 < 0 ∨ (tP3 sg cu).1 < 0 ∨ ¬ sg.getD (tP3 sg cu).2 0 = 59 then 2
  else if pOk (tKind sg cu) (tP1 sg cu).1 (tP2 sg cu).1 tl = 0 then 3 else if tCode sg cu ∈ ms ∨ tCode sg cu ∈ cd then 4 else if 8 ≤ ms.length + cd.length then 5 else 0
theorem tP_le {sg : List Int32} {cu : Nat} (h : cu ≤ sg.length) : cu ≤ tEnd sg cu ∧ tEnd sg cu ≤ (tP1 sg cu).2 ∧ (tP1 sg cu).2 ≤ (tP2 sg cu).2 ∧ (tP2 sg cu).2 ≤ (tP3 sg cu).2 ∧ (tP3 sg cu).2 ≤ sg.length := by
  have h1 := tEnd_le (sg := sg) sg.length cu (by omega) h
  have h2 := tPos_le (sg := sg) h1.2
  have e1 : tP1 sg cu = tPos sg (tEnd sg cu) := rfl
  rw [← e1] at h2
  have h3 := tPos_le (sg := sg) h2.2
  have h4 : (tP1 sg cu).2 ≤ (tP2 sg cu).2 ∧ (tP2 sg cu).2 ≤ sg.length := by
    unfold tP2
    split
    · exact h3
    · exact ⟨Nat.le_refl _, h2.2⟩
  have h5 := tChr_le (sg := sg) h4.2
  have h6 : (tP2 sg cu).2 ≤ (tP3 sg cu).2 ∧ (tP3 sg cu).2 ≤ sg.length := by
    unfold tP3
    split
    · exact ⟨Nat.le_refl _, h4.2⟩
    · exact h5
  omega
/-- the whole mark text: the last start, the marks, the reason -/
def tAll (sg ms : List Int32) (tl : Int32) : Nat → Nat → List Int32 → Nat × List Int32 × Int32
  | 0, cu, cd => (cu, cd, 0)
  | n + 1, cu, cd => if cu < sg.length then (if tWhy sg ms cd tl cu = 0 then tAll sg ms tl n ((tP3 sg cu).2 + 1) (cd ++ [tCode sg cu]) else (cu, cd, tWhy sg ms cd tl cu)) else (cu, cd, 0)
set_option maxRecDepth 20000 in
theorem in_X3_passes_X3 : ∀ w ∈ wsX30, w ∈ wsX3_passes := by decide +kernel
set_option maxRecDepth 20000 in
theorem fd_X3_passes_14 : gFd wsX3_passes RX3 14 2 RX3 TX3 5 0 := ⟨in_X3_passes_X3, rfl, by decide, by decide +kernel⟩
set_option maxRecDepth 20000 in
theorem fd_X3_passes_26 : gFd wsX3_passes RX3 26 2 RX3 TX3 5 3 := ⟨in_X3_passes_X3, rfl, by decide, by decide +kernel⟩
theorem cb_X3_passes__X5_get : gCb yX5_get cX5_get 2 (some .int) wsX5_get (gR 1) (gR 2) 0 0 1 := ⟨rfl, rfl, rfl, by decide +kernel, by decide⟩
theorem cb_X3_spells__J0_length_8abf5 : gCb yJ0_length_8abf5 cJ0_length_8abf5 1 (some .int) wsJ0_length_8abf5 (gR 1) (gR 4) 0 0 0 := ⟨rfl, rfl, rfl, by decide +kernel, by decide⟩
theorem cb_X3_spells__J0_charAt_5068e : gCb yJ0_charAt_5068e cJ0_charAt_5068e 2 (some .char) wsJ0_charAt_5068e (gR 3) (gR 4) 0 0 1 := ⟨rfl, rfl, rfl, by decide +kernel, by decide⟩
set_option maxRecDepth 20000 in
theorem in_X3_spells_X3 : ∀ w ∈ wsX30, w ∈ wsX3_spells := by decide +kernel
set_option maxRecDepth 20000 in
theorem fd_X3_spells_14 : gFd wsX3_spells RX3 14 2 RX3 TX3 5 0 := ⟨in_X3_spells_X3, rfl, by decide, by decide +kernel⟩
set_option maxRecDepth 20000 in
theorem fd_X3_spells_26 : gFd wsX3_spells RX3 26 2 RX3 TX3 5 3 := ⟨in_X3_spells_X3, rfl, by decide, by decide +kernel⟩
theorem cb_X3_spells__X5_get : gCb yX5_get cX5_get 2 (some .int) wsX5_get (gR 1) (gR 4) 0 0 1 := ⟨rfl, rfl, rfl, by decide +kernel, by decide⟩
set_option maxRecDepth 20000 in
theorem in_X3_readWord_X3 : ∀ w ∈ wsX30, w ∈ wsX3_readWord := by decide +kernel
set_option maxRecDepth 20000 in
theorem fd_X3_readWord_26 : gFd wsX3_readWord RX3 26 2 RX3 TX3 5 3 := ⟨in_X3_readWord_X3, rfl, by decide, by decide +kernel⟩
theorem cb_X3_readWord__X3_wordOf : gCb yX3_wordOf cX3_wordOf 1 (some (.object "java/lang/String")) wsX3_wordOf (gR 0) (gR 5) 0 0 1 := ⟨rfl, rfl, rfl, by decide +kernel, by decide⟩
theorem cb_X3_readWord__X3_spells : gCb yX3_spells cX3_spells 4 (some .boolean) wsX3_spells (gR 4) (gR 5) 0 0 2 := ⟨rfl, rfl, rfl, by decide +kernel, by decide⟩
set_option maxRecDepth 20000 in
theorem fd_X3_readWord_14 : gFd wsX3_readWord RX3 14 2 RX3 TX3 5 0 := ⟨in_X3_readWord_X3, rfl, by decide, by decide +kernel⟩
theorem cb_X3_readWord__X5_used : gCb yX5_used cX5_used 1 (some .int) wsX5_used (gR 0) (gR 5) 0 0 0 := ⟨rfl, rfl, rfl, by decide +kernel, by decide⟩
theorem cb_X3_readWord__X5_get : gCb yX5_get cX5_get 2 (some .int) wsX5_get (gR 1) (gR 5) 0 0 1 := ⟨rfl, rfl, rfl, by decide +kernel, by decide⟩
set_option maxRecDepth 20000 in
theorem in_X3_readPosition_X3 : ∀ w ∈ wsX30, w ∈ wsX3_readPosition := by decide +kernel
set_option maxRecDepth 20000 in
theorem fd_X3_readPosition_14 : gFd wsX3_readPosition RX3 14 2 RX3 TX3 5 0 := ⟨in_X3_readPosition_X3, rfl, by decide, by decide +kernel⟩
set_option maxRecDepth 20000 in
theorem fd_X3_readPosition_26 : gFd wsX3_readPosition RX3 26 2 RX3 TX3 5 3 := ⟨in_X3_readPosition_X3, rfl, by decide, by decide +kernel⟩
theorem cb_X3_readPosition__X5_get : gCb yX5_get cX5_get 2 (some .int) wsX5_get (gR 1) (gR 3) 0 0 1 := ⟨rfl, rfl, rfl, by decide +kernel, by decide⟩
theorem cb_X3_readPosition__X3_passes : gCb yX3_passes cX3_passes 2 (some .boolean) wsX3_passes (gR 2) (gR 3) 0 0 1 := ⟨rfl, rfl, rfl, by decide +kernel, by decide⟩
theorem cb_X3_readCharacter__X3_passes : gCb yX3_passes cX3_passes 2 (some .boolean) wsX3_passes (gR 2) (gR 3) 0 0 1 := ⟨rfl, rfl, rfl, by decide +kernel, by decide⟩
set_option maxRecDepth 20000 in
theorem in_X3_readCharacter_X3 : ∀ w ∈ wsX30, w ∈ wsX3_readCharacter := by decide +kernel
set_option maxRecDepth 20000 in
theorem fd_X3_readCharacter_26 : gFd wsX3_readCharacter RX3 26 2 RX3 TX3 5 3 := ⟨in_X3_readCharacter_X3, rfl, by decide, by decide +kernel⟩
set_option maxRecDepth 20000 in
theorem fd_X3_readCharacter_14 : gFd wsX3_readCharacter RX3 14 2 RX3 TX3 5 0 := ⟨in_X3_readCharacter_X3, rfl, by decide, by decide +kernel⟩
theorem cb_X3_readCharacter__X5_used : gCb yX5_used cX5_used 1 (some .int) wsX5_used (gR 0) (gR 3) 0 0 0 := ⟨rfl, rfl, rfl, by decide +kernel, by decide⟩
theorem cb_X3_readCharacter__X5_get : gCb yX5_get cX5_get 2 (some .int) wsX5_get (gR 1) (gR 3) 0 0 1 := ⟨rfl, rfl, rfl, by decide +kernel, by decide⟩
theorem cb_X3_keep__X5_placeOf : gCb yX5_placeOf cX5_placeOf 3 (some .int) wsX5_placeOf (gR 2) (gR 3) 0 0 1 := ⟨rfl, rfl, rfl, by decide +kernel, by decide⟩
set_option maxRecDepth 20000 in
theorem in_X3_keep_X3 : ∀ w ∈ wsX30, w ∈ wsX3_keep := by decide +kernel
set_option maxRecDepth 20000 in
theorem fd_X3_keep_30 : gFd wsX3_keep RX3 30 2 RX3 TX3 5 4 := ⟨in_X3_keep_X3, rfl, by decide, by decide +kernel⟩
set_option maxRecDepth 20000 in
theorem fd_X3_keep_20 : gFd wsX3_keep RX3 20 2 RX3 TX3 5 1 := ⟨in_X3_keep_X3, rfl, by decide, by decide +kernel⟩
theorem cb_X3_keep__X5_used : gCb yX5_used cX5_used 1 (some .int) wsX5_used (gR 0) (gR 3) 0 0 0 := ⟨rfl, rfl, rfl, by decide +kernel, by decide⟩
theorem cb_X3_keep__X5_append : gCb yX5_append cX5_append 2 none wsX5_append (gR 0) (gR 3) 0 0 1 := ⟨rfl, rfl, rfl, by decide +kernel, by decide⟩
set_option maxRecDepth 20000 in
theorem in_X3_readMark_X3 : ∀ w ∈ wsX30, w ∈ wsX3_readMark := by decide +kernel
set_option maxRecDepth 20000 in
theorem fd_X3_readMark_30 : gFd wsX3_readMark RX3 30 2 RX3 TX3 5 4 := ⟨in_X3_readMark_X3, rfl, by decide, by decide +kernel⟩
theorem cb_X3_readMark__X3_passes : gCb yX3_passes cX3_passes 2 (some .boolean) wsX3_passes (gR 2) (gR 6) 0 0 1 := ⟨rfl, rfl, rfl, by decide +kernel, by decide⟩
theorem cb_X3_readMark__X1_isPossible : gCb yX1_isPossible cX1_isPossible 4 (some .boolean) wsX1_isPossible (gR 0) (gR 6) 0 0 4 := ⟨rfl, rfl, rfl, by decide +kernel, by decide⟩
theorem cb_X3_readMark__X1_codeOf : gCb yX1_codeOf cX1_codeOf 4 (some .int) wsX1_codeOf (gR 0) (gR 6) 0 0 4 := ⟨rfl, rfl, rfl, by decide +kernel, by decide⟩
theorem cb_X3_readMark__X3_keep : gCb yX3_keep cX3_keep 3 none wsX3_keep (gR 3) (gR 6) 0 0 2 := ⟨rfl, rfl, rfl, by decide +kernel, by decide⟩
theorem cb_X3_readMark__X1_takesCharacter : gCb yX1_takesCharacter cX1_takesCharacter 1 (some .boolean) wsX1_takesCharacter (gR 0) (gR 6) 0 0 1 := ⟨rfl, rfl, rfl, by decide +kernel, by decide⟩
theorem cb_X3_readMark__X3_readCharacter : gCb yX3_readCharacter cX3_readCharacter 1 (some .int) wsX3_readCharacter (gR 3) (gR 6) 0 0 0 := ⟨rfl, rfl, rfl, by decide +kernel, by decide⟩
theorem cb_X3_readMark__X3_readWord : gCb yX3_readWord cX3_readWord 4 (some .int) wsX3_readWord (gR 5) (gR 6) 0 0 0 := ⟨rfl, rfl, rfl, by decide +kernel, by decide⟩
theorem cb_X3_readMark__X3_readPosition : gCb yX3_readPosition cX3_readPosition 3 (some .int) wsX3_readPosition (gR 3) (gR 6) 0 0 0 := ⟨rfl, rfl, rfl, by decide +kernel, by decide⟩
set_option maxRecDepth 20000 in
theorem in_X3_readFor_X3 : ∀ w ∈ wsX30, w ∈ wsX3_readFor := by decide +kernel
set_option maxRecDepth 20000 in
theorem fd_X3_readFor_26 : gFd wsX3_readFor RX3 26 2 RX3 TX3 5 3 := ⟨in_X3_readFor_X3, rfl, by decide, by decide +kernel⟩
set_option maxRecDepth 20000 in
theorem fd_X3_readFor_14 : gFd wsX3_readFor RX3 14 2 RX3 TX3 5 0 := ⟨in_X3_readFor_X3, rfl, by decide, by decide +kernel⟩
theorem cb_X3_readFor__X5_used : gCb yX5_used cX5_used 1 (some .int) wsX5_used (gR 0) (gR 7) 0 0 0 := ⟨rfl, rfl, rfl, by decide +kernel, by decide⟩
set_option maxRecDepth 20000 in
theorem fd_X3_readFor_30 : gFd wsX3_readFor RX3 30 2 RX3 TX3 5 4 := ⟨in_X3_readFor_X3, rfl, by decide, by decide +kernel⟩
set_option maxRecDepth 20000 in
theorem fd_X3_readFor_37 : gFd wsX3_readFor RX3 37 2 RX3 TX3 5 2 := ⟨in_X3_readFor_X3, rfl, by decide, by decide +kernel⟩
theorem cb_X3_readFor__X3_readMark : gCb yX3_readMark cX3_readMark 7 none wsX3_readMark (gR 6) (gR 7) 0 0 2 := ⟨rfl, rfl, rfl, by decide +kernel, by decide⟩
set_option maxRecDepth 20000 in
theorem fd_X3_readFor_20 : gFd wsX3_readFor RX3 20 2 RX3 TX3 5 1 := ⟨in_X3_readFor_X3, rfl, by decide, by decide +kernel⟩
theorem cb_X3_readFor__X5_cutTo : gCb yX5_cutTo cX5_cutTo 2 none wsX5_cutTo (gR 0) (gR 7) 0 0 1 := ⟨rfl, rfl, rfl, by decide +kernel, by decide⟩
set_option maxHeartbeats 600000 in
set_option maxRecDepth 100000 in
/-- X3_passes -/
theorem k3_passes (l : Launch) (D : gD) (A : Nat → Prop) (hs : Nat) {G : gH} {a cu : Nat} {sg cd : List Int32} {st re : Int32} (h : gMt D G a sg cd st (nI cu) re) (hcu : cu ≤ sg.length) (z : Int32) : gM l yX3_passes wsX3_passes (gR 2) D A hs 0 0 [.ref a, .int z] G (gPi fun x G' => x = (if sg.getD cu 0 = z then 1 else 0) ∧ gMt D G' a sg cd st (nI (if sg.getD cu 0 = z then cu + 1 else cu)) re ∧ gOut a 1 G G') := by
  refine gM_intro (by decide) rfl rfl (Nat.le_of_ble_eq_true rfl) ?_
  intro p e s m args below meth c C
  have bs := gRow_le h.2.1
  have bd := gRow_le h.2.2
  refine gx_aload_n C dX3_passes_0 rfl ?_
  refine gx_get C fd_X3_passes_14 (hG := h.1) (hv := by rfl) dX3_passes_1 ?_
  refine gx_aload_n C dX3_passes_4 rfl ?_
  refine gx_get C fd_X3_passes_26 (hG := h.1) (hv := by rfl) dX3_passes_5 ?_
  refine gx_callV (ci := 4) (T := TX5) (N := 2) C (k5_get l D A hs (nI cu) h.2.1) cb_X3_passes__X5_get gX3_passes_X5_get rfl (hG := (gRow_ob h.2.1)) rfl rfl (Nat.le_of_ble_eq_true rfl) ⟨Nat.le_refl _, Nat.le_refl _⟩ dX3_passes_8 (gx_ki fun r_8 G_8 h_8 => ?_)
  obtain ⟨rfl, rfl⟩ := h_8
  rw [lget_nI (by omega)]
  refine gx_iload_n C dX3_passes_11 rfl ?_
  refine gx_icmp_eq (tgt := 17) C dX3_passes_12 (by decide) (fun c_12 => ?_) (fun c_12 => ?_)
  · refine gx_aload_n C dX3_passes_17 rfl ?_
    refine gx_dup C dX3_passes_18 rfl ?_
    refine gx_get C fd_X3_passes_26 (hG := h.1) (hv := by rfl) dX3_passes_19 ?_
    refine gx_iconst (v := 1) C dX3_passes_22 (by decide) ?_
    refine gx_iadd C dX3_passes_23 ?_
    refine gx_top (nI_1 _) ?_
    refine gx_put C fd_X3_passes_26 tyX3_ok nmX3 rfl rfl rfl (hG := h.1) (hl := by exact Nat.le_of_ble_eq_true rfl) dX3_passes_24 ?_
    refine gx_iconst (v := 1) C dX3_passes_27 (by decide) ?_
    refine gx_zret (mc := 0) C rfl ?_ dX3_passes_28
    have s9 := gMt_cu (nI (cu + 1)) h
    exact ⟨_, rfl, (if_pos c_12).symm, by rw [if_pos c_12]; exact s9, gOut_up gOut_rf (by omega)⟩
  · refine gx_iconst (v := 0) C dX3_passes_15 (by decide) ?_
    refine gx_zret (mc := 0) C rfl ?_ dX3_passes_16
    exact ⟨_, rfl, (if_neg c_12).symm, by rw [if_neg c_12]; exact h, gOut_rf⟩
set_option maxHeartbeats 600000 in
set_option maxRecDepth 100000 in
/-- X3_wordOf -/
theorem k3_wordOf (l : Launch) (D : gD) (A : Nat → Prop) (hs : Nat) {G : gH} (i : Nat) (hi : i < 6) : gM l yX3_wordOf wsX3_wordOf (gR 0) D A hs 0 0 [.int (nI i)] G (gPr fun w G' => w = .ref (D.2.1 i) ∧ G' = G) := by
  refine gM_intro (by decide) rfl rfl (Nat.le_of_ble_eq_true rfl) ?_
  intro p e s m args below meth c C
  have e0 : ∀ k : Nat, k < 6 → nI i = nI k → i = k := fun k hk q => (nI_eq (by omega) (by omega)).mp q
  refine gx_iload_n C dX3_wordOf_0 rfl ?_
  refine gx_split 0 (fun c_1_0 => ?_) (fun c_1_0 => ?_)
  · refine gx_tableIn (off := 35) (tgt := 36) C dX3_wordOf_1 (by rw [c_1_0]; decide) (by rw [c_1_0]; decide) (by rw [c_1_0]; rfl) (by decide) ?_
    obtain rfl : i = 0 := e0 0 (by decide) c_1_0
    refine gx_ldcS C (i := 0) (by decide) rfl rfl dX3_wordOf_36 ?_
    refine gx_aret (mc := 0) C (Or.inl ⟨_, rfl⟩) (Or.inr ⟨_, rfl⟩) ?_ dX3_wordOf_38
    exact ⟨_, rfl, Or.inr ⟨_, rfl⟩, rfl, rfl⟩
  -- else
  refine gx_split 1 (fun c_1_1 => ?_) (fun c_1_1 => ?_)
  · refine gx_tableIn (off := 38) (tgt := 39) C dX3_wordOf_1 (by rw [c_1_1]; decide) (by rw [c_1_1]; decide) (by rw [c_1_1]; rfl) (by decide) ?_
    obtain rfl : i = 1 := e0 1 (by decide) c_1_1
    refine gx_ldcS C (i := 1) (by decide) rfl rfl dX3_wordOf_39 ?_
    refine gx_aret (mc := 0) C (Or.inl ⟨_, rfl⟩) (Or.inr ⟨_, rfl⟩) ?_ dX3_wordOf_41
    exact ⟨_, rfl, Or.inr ⟨_, rfl⟩, rfl, rfl⟩
  -- else
  refine gx_split 2 (fun c_1_2 => ?_) (fun c_1_2 => ?_)
  · refine gx_tableIn (off := 41) (tgt := 42) C dX3_wordOf_1 (by rw [c_1_2]; decide) (by rw [c_1_2]; decide) (by rw [c_1_2]; rfl) (by decide) ?_
    obtain rfl : i = 2 := e0 2 (by decide) c_1_2
    refine gx_ldcS C (i := 2) (by decide) rfl rfl dX3_wordOf_42 ?_
    refine gx_aret (mc := 0) C (Or.inl ⟨_, rfl⟩) (Or.inr ⟨_, rfl⟩) ?_ dX3_wordOf_44
    exact ⟨_, rfl, Or.inr ⟨_, rfl⟩, rfl, rfl⟩
  -- else
  refine gx_split 3 (fun c_1_3 => ?_) (fun c_1_3 => ?_)
  · refine gx_tableIn (off := 44) (tgt := 45) C dX3_wordOf_1 (by rw [c_1_3]; decide) (by rw [c_1_3]; decide) (by rw [c_1_3]; rfl) (by decide) ?_
    obtain rfl : i = 3 := e0 3 (by decide) c_1_3
    refine gx_ldcS C (i := 3) (by decide) rfl rfl dX3_wordOf_45 ?_
    refine gx_aret (mc := 0) C (Or.inl ⟨_, rfl⟩) (Or.inr ⟨_, rfl⟩) ?_ dX3_wordOf_47
    exact ⟨_, rfl, Or.inr ⟨_, rfl⟩, rfl, rfl⟩
  -- else
  refine gx_split 4 (fun c_1_4 => ?_) (fun c_1_4 => ?_)
  · refine gx_tableIn (off := 47) (tgt := 48) C dX3_wordOf_1 (by rw [c_1_4]; decide) (by rw [c_1_4]; decide) (by rw [c_1_4]; rfl) (by decide) ?_
    obtain rfl : i = 4 := e0 4 (by decide) c_1_4
    refine gx_ldcS C (i := 4) (by decide) rfl rfl dX3_wordOf_48 ?_
    refine gx_aret (mc := 0) C (Or.inl ⟨_, rfl⟩) (Or.inr ⟨_, rfl⟩) ?_ dX3_wordOf_50
    exact ⟨_, rfl, Or.inr ⟨_, rfl⟩, rfl, rfl⟩
  -- else
  refine gx_tableOut (tgt := 51) C dX3_wordOf_1 (by have q_0 := gz_ne (n := 0) (by decide) c_1_0; have q_1 := gz_ne (n := 1) (by decide) c_1_1; have q_2 := gz_ne (n := 2) (by decide) c_1_2; have q_3 := gz_ne (n := 3) (by decide) c_1_3; have q_4 := gz_ne (n := 4) (by decide) c_1_4; omega) (by decide) ?_
  obtain rfl : i = 5 := by
    have g0 : i ≠ 0 := fun q => c_1_0 (by rw [q]; rfl)
    have g1 : i ≠ 1 := fun q => c_1_1 (by rw [q]; rfl)
    have g2 : i ≠ 2 := fun q => c_1_2 (by rw [q]; rfl)
    have g3 : i ≠ 3 := fun q => c_1_3 (by rw [q]; rfl)
    have g4 : i ≠ 4 := fun q => c_1_4 (by rw [q]; rfl)
    omega
  refine gx_ldcS C (i := 5) (by decide) rfl rfl dX3_wordOf_51 ?_
  refine gx_aret (mc := 0) C (Or.inl ⟨_, rfl⟩) (Or.inr ⟨_, rfl⟩) ?_ dX3_wordOf_53
  exact ⟨_, rfl, Or.inr ⟨_, rfl⟩, rfl, rfl⟩
set_option maxHeartbeats 600000 in
set_option maxRecDepth 100000 in
/-- X3_spells -/
theorem k3_spells (l : Launch) (D : gD) (A : Nat → Prop) (hs : Nat) {G : gH} {a cu : Nat} {sg cd : List Int32} {st re : Int32} (h : gMt D G a sg cd st (nI cu) re) (hcu : cu ≤ sg.length) {en i : Nat} (he : cu ≤ en) (he2 : en ≤ sg.length) (hi : i < 6) : gM l yX3_spells wsX3_spells (gR 4) D A hs 0 0 [.ref a, .int (nI en), .ref (D.2.1 i)] G (gPi fun x G' => x = (if tSp sg cu en i = true then 1 else 0) ∧ G' = G) := by
  refine gM_intro (by decide) rfl rfl (Nat.le_of_ble_eq_true rfl) ?_
  intro p e s m args below meth c C
  have bs := gRow_le h.2.1
  have bd := gRow_le h.2.2
  have bl := gSl_lt i hi
  have hloopx : en = cu + gSl.getD i 0 → ∀ (n j : Nat) , (gSl.getD i 0) < j + n → j ≤ (gSl.getD i 0) → (∀ b, b < j → sg.getD (cu + b) 0 = gCh i b) → gX p l e (gR 4) s m args below meth c D A 4 hs 0 0 (MQ below (gQ D A hs 0 (gPi fun x G' => x = (if tSp sg cu en i = true then 1 else 0) ∧ G' = G)) args s 0 0 A) G [some (.ref a), some (.int (nI en)), some (.ref (D.2.1 i)), some (.int (nI j))] 17 [] := by
    intro hen
    intro n
    induction n with
    | zero => intro j hm hj0 hI; exact absurd hm (by omega)
    | succ n ih =>
      intro j hm hj0 hI
      refine gx_iload_n C dX3_spells_17 rfl ?_
      refine gx_aload_n C dX3_spells_18 rfl ?_
      refine gx_callVS C (kj_length l D A hs hi) cb_X3_spells__J0_length_8abf5 gX3_spells_J0_length_8abf5 hi rfl rfl rfl (Nat.le_of_ble_eq_true rfl) ⟨Nat.le_refl _, Nat.le_refl _⟩ dX3_spells_19 (gx_ki fun r_19 G_19 h_19 => ?_)
      obtain ⟨rfl, rfl⟩ := h_19
      refine gx_icmp_ge (tgt := 54) C dX3_spells_22 (by decide) (fun c_22 => ?_) (fun c_22 => ?_)
      · have hj : ¬ j < gSl.getD i 0 := fun q => nI_ge q (by omega) c_22
        refine gx_iconst (v := 1) C dX3_spells_54 (by decide) ?_
        refine gx_zret (mc := 0) C rfl ?_ dX3_spells_55
        have q : tSp sg cu en i = true := by
          simp only [tSp, Bool.and_eq_true, List.all_eq_true, decide_eq_true_eq]
          exact ⟨hen, fun k hk => hI k (by have := List.mem_range.mp hk; omega)⟩
        exact ⟨_, rfl, (if_pos q).symm, rfl⟩
      · have hj : j < gSl.getD i 0 := by
          rcases Nat.lt_or_ge (j) (gSl.getD i 0) with q | q
          · exact q
          · exact absurd (nI_le q (by omega)) c_22
        refine gx_aload_n C dX3_spells_25 rfl ?_
        refine gx_get C fd_X3_spells_14 (hG := h.1) (hv := by rfl) dX3_spells_26 ?_
        refine gx_aload_n C dX3_spells_29 rfl ?_
        refine gx_get C fd_X3_spells_26 (hG := h.1) (hv := by rfl) dX3_spells_30 ?_
        refine gx_iload_n C dX3_spells_33 rfl ?_
        refine gx_iadd C dX3_spells_34 ?_
        refine gx_top (nI_add cu j) ?_
        refine gx_callV (ci := 4) (T := TX5) (N := 2) C (k5_get l D A hs (nI (cu + j)) h.2.1) cb_X3_spells__X5_get gX3_spells_X5_get rfl (hG := (gRow_ob h.2.1)) rfl rfl (Nat.le_of_ble_eq_true rfl) ⟨Nat.le_refl _, Nat.le_refl _⟩ dX3_spells_35 (gx_ki fun r_35 G_35 h_35 => ?_)
        obtain ⟨rfl, rfl⟩ := h_35
        rw [lget_nI (by omega)]
        refine gx_aload_n C dX3_spells_38 rfl ?_
        refine gx_iload_n C dX3_spells_39 rfl ?_
        refine gx_callVS C (kj_charAt l D A hs hi j hj) cb_X3_spells__J0_charAt_5068e gX3_spells_J0_charAt_5068e hi rfl rfl rfl (Nat.le_of_ble_eq_true rfl) ⟨Nat.le_refl _, Nat.le_refl _⟩ dX3_spells_40 (gx_ki fun r_40 G_40 h_40 => ?_)
        obtain ⟨rfl, rfl⟩ := h_40
        refine gx_icmp_eq (tgt := 48) C dX3_spells_43 (by decide) (fun c_43 => ?_) (fun c_43 => ?_)
        · first | refine gx_iincN C dX3_spells_48 rfl (by decide) ?_ | refine gx_iinc1 C dX3_spells_48 rfl (by decide) ?_
          refine gx_goto (tgt := 17) C dX3_spells_51 (by decide) ?_
          exact ih (j + 1) (by omega) (by omega) (fun b hb => by
            by_cases y : b = j
            · subst y; exact c_43
            · exact hI b (by omega))
        · refine gx_iconst (v := 0) C dX3_spells_46 (by decide) ?_
          refine gx_zret (mc := 0) C rfl ?_ dX3_spells_47
          have q : ¬ tSp sg cu en i = true := fun q => by
            simp only [tSp, Bool.and_eq_true, List.all_eq_true, decide_eq_true_eq] at q
            exact c_43 (q.2 j (List.mem_range.mpr hj))
          exact ⟨_, rfl, (if_neg q).symm, rfl⟩
  refine gx_iload_n C dX3_spells_0 rfl ?_
  refine gx_aload_n C dX3_spells_1 rfl ?_
  refine gx_get C fd_X3_spells_26 (hG := h.1) (hv := by rfl) dX3_spells_2 ?_
  refine gx_isub C dX3_spells_5 ?_
  refine gx_aload_n C dX3_spells_6 rfl ?_
  refine gx_callVS C (kj_length l D A hs hi) cb_X3_spells__J0_length_8abf5 gX3_spells_J0_length_8abf5 hi rfl rfl rfl (Nat.le_of_ble_eq_true rfl) ⟨Nat.le_refl _, Nat.le_refl _⟩ dX3_spells_7 (gx_ki fun r_7 G_7 h_7 => ?_)
  obtain ⟨rfl, rfl⟩ := h_7
  refine gx_icmp_eq (tgt := 15) C dX3_spells_10 (by decide) (fun c_10 => ?_) (fun c_10 => ?_)
  · rw [show (nI en - nI cu : Int32) = nI (en - cu) from pk_sub he] at c_10
    have hen : en = cu + gSl.getD i 0 := by
      have := (nI_eq (by omega) (by omega)).mp c_10
      omega
    refine gx_iconst (v := 0) C dX3_spells_15 (by decide) ?_
    refine gx_istore_n C dX3_spells_16 (by decide) ?_
    exact hloopx hen (gSl.getD i 0 + 1) 0 (by omega) (by omega) (fun b hb => absurd hb (by omega))
  · rw [show (nI en - nI cu : Int32) = nI (en - cu) from pk_sub he] at c_10
    have hen : ¬ en = cu + gSl.getD i 0 := fun q => c_10 (by rw [q, Nat.add_sub_cancel_left])
    have q : ¬ tSp sg cu en i = true := fun q => by
      simp only [tSp, Bool.and_eq_true, decide_eq_true_eq] at q
      exact hen q.1
    refine gx_iconst (v := 0) C dX3_spells_13 (by decide) ?_
    refine gx_zret (mc := 0) C rfl ?_ dX3_spells_14
    exact ⟨_, rfl, (if_neg q).symm, rfl⟩
set_option maxHeartbeats 600000 in
set_option maxRecDepth 100000 in
/-- X3_readWord -/
theorem k3_readWord (l : Launch) (D : gD) (A : Nat → Prop) (hs : Nat) {G : gH} {a cu : Nat} {sg cd : List Int32} {st re : Int32} (h : gMt D G a sg cd st (nI cu) re) (hcu : cu ≤ sg.length) : gM l yX3_readWord wsX3_readWord (gR 5) D A hs 0 0 [.ref a] G (gPi fun x G' => x = tKind sg cu ∧ gMt D G' a sg cd st (nI (tEnd sg cu)) re ∧ gOut a 1 G G') := by
  refine gM_intro (by decide) rfl rfl (Nat.le_of_ble_eq_true rfl) ?_
  intro p e s m args below meth c C
  have bs := gRow_le h.2.1
  have bd := gRow_le h.2.2
  have hee := tEnd_le (sg := sg) sg.length cu (by omega) hcu
  have hloop2 : ∀ (n j : Nat) , 6 < j + n → j ≤ 6 → gX p l e (gR 5) s m args below meth c D A 4 hs 0 0 (MQ below (gQ D A hs 0 (gPi fun x G' => x = tKind sg cu ∧ gMt D G' a sg cd st (nI (tEnd sg cu)) re ∧ gOut a 1 G G')) args s 0 0 A) G [some (.ref a), some (.int (nI (tEnd sg cu))), some (.int (tWd sg cu (tEnd sg cu) j)), some (.int (nI j))] 61 [] := by
    intro n
    induction n with
    | zero => intro j hm hj0; exact absurd hm (by omega)
    | succ n ih =>
      intro j hm hj0
      refine gx_iload_n C dX3_readWord_61 rfl ?_
      refine gx_iconst (v := 5) C dX3_readWord_62 (by decide) ?_
      refine gx_icmp_gt (tgt := 86) C dX3_readWord_63 (by decide) (fun c_63 => ?_) (fun c_63 => ?_)
      · have hj : ¬ j ≤ 5 := fun q => nI_nlt q (by omega) c_63
        have ej : j = 6 := by omega
        subst ej
        refine gx_aload_n C dX3_readWord_86 rfl ?_
        refine gx_iload_n C dX3_readWord_87 rfl ?_
        refine gx_put C fd_X3_readWord_26 tyX3_ok nmX3 rfl rfl rfl (hG := h.1) (hl := by exact Nat.le_of_ble_eq_true rfl) dX3_readWord_88 ?_
        refine gx_iload_n C dX3_readWord_91 rfl ?_
        refine gx_zret (mc := 0) C rfl ?_ dX3_readWord_92
        have s9 := gMt_up (st' := st) (cu' := nI (tEnd sg cu)) (re' := re) h
        exact ⟨_, rfl, rfl, s9, gOut_up gOut_rf (by omega)⟩
      · have hj : j ≤ 5 := by
          rcases Nat.lt_or_ge 5 j with q | q
          · exact absurd (nI_lt q (by omega)) c_63
          · exact q
        refine gx_aload_n C dX3_readWord_66 rfl ?_
        refine gx_iload_n C dX3_readWord_67 rfl ?_
        refine gx_iload_n C dX3_readWord_68 rfl ?_
        refine gx_callS C (k3_wordOf l D A hs j (by omega)) cb_X3_readWord__X3_wordOf gX3_readWord_X3_wordOf rfl rfl (Nat.le_of_ble_eq_true rfl) ⟨Nat.le_refl _, Nat.le_refl _⟩ dX3_readWord_69 (gx_kr fun w_69 G_69 hw_69 h_69 => ?_)
        obtain ⟨rfl, rfl⟩ := h_69
        refine gx_callV (ci := 2) (T := TX3) (N := 5) C (k3_spells l D A hs h hcu (en := tEnd sg cu) (i := j) hee.1 hee.2 (by omega)) cb_X3_readWord__X3_spells gX3_readWord_X3_spells rfl (hG := h.1) rfl rfl (Nat.le_of_ble_eq_true rfl) ⟨Nat.le_refl _, Nat.le_refl _⟩ dX3_readWord_72 (gx_ki fun r_72 G_72 h_72 => ?_)
        obtain ⟨rfl, rfl⟩ := h_72
        refine gx_if_eq (tgt := 80) C dX3_readWord_75 (by decide) (fun c_75 => ?_) (fun c_75 => ?_)
        · have q : ¬ tSp sg cu (tEnd sg cu) j = true := fun q => by
            rw [if_pos q] at c_75; exact absurd c_75 (by decide)
          have hx : tWd sg cu (tEnd sg cu) (j + 1) = tWd sg cu (tEnd sg cu) j := by rw [tWd, if_neg q]
          first | refine gx_iincN C dX3_readWord_80 rfl (by decide) ?_ | refine gx_iinc1 C dX3_readWord_80 rfl (by decide) ?_
          refine gx_goto (tgt := 61) C dX3_readWord_83 (by decide) ?_
          refine gx_V ?_ (ih (j + 1) (by omega) (by omega))
          rw [hx]
          rfl
        · have q : tSp sg cu (tEnd sg cu) j = true := by
            by_cases q : tSp sg cu (tEnd sg cu) j = true
            · exact q
            · rw [if_neg q] at c_75; exact absurd rfl c_75
          have hx : tWd sg cu (tEnd sg cu) (j + 1) = nI j := by rw [tWd, if_pos q]
          refine gx_iload_n C dX3_readWord_78 rfl ?_
          refine gx_istore_n C dX3_readWord_79 (by decide) ?_
          first | refine gx_iincN C dX3_readWord_80 rfl (by decide) ?_ | refine gx_iinc1 C dX3_readWord_80 rfl (by decide) ?_
          refine gx_goto (tgt := 61) C dX3_readWord_83 (by decide) ?_
          refine gx_V ?_ (ih (j + 1) (by omega) (by omega))
          rw [hx]
          rfl
  have hloop : ∀ (n j : Nat) (V3 : Option Value), (sg.length - cu) < j + n → j ≤ (sg.length - cu) → tEnd sg cu = tEnd sg (cu + j) → gX p l e (gR 5) s m args below meth c D A 4 hs 0 0 (MQ below (gQ D A hs 0 (gPi fun x G' => x = tKind sg cu ∧ gMt D G' a sg cd st (nI (tEnd sg cu)) re ∧ gOut a 1 G G')) args s 0 0 A) G [some (.ref a), some (.int (nI (cu + j))), some (.int (nI (cu + j))), V3] 10 [] := by
    intro n
    induction n with
    | zero => intro j V3 hm hj0 hI; exact absurd hm (by omega)
    | succ n ih =>
      intro j V3 hm hj0 hI
      refine gx_iload_n C dX3_readWord_10 rfl ?_
      refine gx_aload_n C dX3_readWord_11 rfl ?_
      refine gx_get C fd_X3_readWord_14 (hG := h.1) (hv := by rfl) dX3_readWord_12 ?_
      refine gx_callV (ci := 4) (T := TX5) (N := 2) C (k5_used l D A hs h.2.1) cb_X3_readWord__X5_used gX3_readWord_X5_used rfl (hG := (gRow_ob h.2.1)) rfl rfl (Nat.le_of_ble_eq_true rfl) ⟨Nat.le_refl _, Nat.le_refl _⟩ dX3_readWord_15 (gx_ki fun r_15 G_15 h_15 => ?_)
      obtain ⟨rfl, rfl⟩ := h_15
      refine gx_icmp_ge (tgt := 57) C dX3_readWord_18 (by decide) (fun c_18 => ?_) (fun c_18 => ?_)
      · have hj : ¬ cu + j < sg.length := fun q => nI_ge q (by omega) c_18
        have hnl : ¬ tLet (sg.getD (cu + j) 0) = true := fun q => hj (gD_lt (tLet_0 q))
        have e9 : tEnd sg cu = cu + j := by rw [hI, tEnd_f hnl]
        rw [← e9]
        refine gx_iconst (v := -1) C dX3_readWord_57 (by decide) ?_
        refine gx_istore_n C dX3_readWord_58 (by decide) ?_
        refine gx_iconst (v := 0) C dX3_readWord_59 (by decide) ?_
        refine gx_istore_n C dX3_readWord_60 (by decide) ?_
        exact hloop2 7 0 (by omega) (by omega)
      · have hj : cu + j < sg.length := by
          rcases Nat.lt_or_ge (cu + j) sg.length with q | q
          · exact q
          · exact absurd (nI_le q (by omega)) c_18
        refine gx_aload_n C dX3_readWord_21 rfl ?_
        refine gx_get C fd_X3_readWord_14 (hG := h.1) (hv := by rfl) dX3_readWord_22 ?_
        refine gx_iload_n C dX3_readWord_25 rfl ?_
        refine gx_callV (ci := 4) (T := TX5) (N := 2) C (k5_get l D A hs (nI (cu + j)) h.2.1) cb_X3_readWord__X5_get gX3_readWord_X5_get rfl (hG := (gRow_ob h.2.1)) rfl rfl (Nat.le_of_ble_eq_true rfl) ⟨Nat.le_refl _, Nat.le_refl _⟩ dX3_readWord_26 (gx_ki fun r_26 G_26 h_26 => ?_)
        obtain ⟨rfl, rfl⟩ := h_26
        refine gx_bipush (v := 97) C dX3_readWord_29 (by decide) ?_
        refine gx_icmp_lt (tgt := 57) C dX3_readWord_31 (by decide) (fun c_31 => ?_) (fun c_31 => ?_)
        · rw [lget_nI (by omega)] at c_31
          have hnl : ¬ tLet (sg.getD (cu + j) 0) = true := fun q => by
            simp only [tLet, Bool.and_eq_true, decide_eq_true_eq] at q
            exact Int32.lt_irrefl (Int32.lt_of_lt_of_le c_31 q.1)
          have e9 : tEnd sg cu = cu + j := by rw [hI, tEnd_f hnl]
          rw [← e9]
          refine gx_iconst (v := -1) C dX3_readWord_57 (by decide) ?_
          refine gx_istore_n C dX3_readWord_58 (by decide) ?_
          refine gx_iconst (v := 0) C dX3_readWord_59 (by decide) ?_
          refine gx_istore_n C dX3_readWord_60 (by decide) ?_
          exact hloop2 7 0 (by omega) (by omega)
        · rw [lget_nI (by omega)] at c_31
          refine gx_aload_n C dX3_readWord_34 rfl ?_
          refine gx_get C fd_X3_readWord_14 (hG := h.1) (hv := by rfl) dX3_readWord_35 ?_
          refine gx_iload_n C dX3_readWord_38 rfl ?_
          refine gx_callV (ci := 4) (T := TX5) (N := 2) C (k5_get l D A hs (nI (cu + j)) h.2.1) cb_X3_readWord__X5_get gX3_readWord_X5_get rfl (hG := (gRow_ob h.2.1)) rfl rfl (Nat.le_of_ble_eq_true rfl) ⟨Nat.le_refl _, Nat.le_refl _⟩ dX3_readWord_39 (gx_ki fun r_39 G_39 h_39 => ?_)
          obtain ⟨rfl, rfl⟩ := h_39
          refine gx_bipush (v := 122) C dX3_readWord_42 (by decide) ?_
          refine gx_icmp_gt (tgt := 57) C dX3_readWord_44 (by decide) (fun c_44 => ?_) (fun c_44 => ?_)
          · rw [lget_nI (by omega)] at c_44
            have hnl : ¬ tLet (sg.getD (cu + j) 0) = true := fun q => by
              simp only [tLet, Bool.and_eq_true, decide_eq_true_eq] at q
              exact Int32.lt_irrefl (Int32.lt_of_lt_of_le c_44 q.2)
            have e9 : tEnd sg cu = cu + j := by rw [hI, tEnd_f hnl]
            rw [← e9]
            refine gx_iconst (v := -1) C dX3_readWord_57 (by decide) ?_
            refine gx_istore_n C dX3_readWord_58 (by decide) ?_
            refine gx_iconst (v := 0) C dX3_readWord_59 (by decide) ?_
            refine gx_istore_n C dX3_readWord_60 (by decide) ?_
            exact hloop2 7 0 (by omega) (by omega)
          · rw [lget_nI (by omega)] at c_44
            have hl : tLet (sg.getD (cu + j) 0) = true := by
              simp only [tLet, Bool.and_eq_true, decide_eq_true_eq]
              exact ⟨Int32.not_lt.mp c_31, Int32.not_lt.mp c_44⟩
            refine gx_iload_n C dX3_readWord_47 rfl ?_
            refine gx_iconst (v := 1) C dX3_readWord_48 (by decide) ?_
            refine gx_iadd C dX3_readWord_49 ?_
            refine gx_top (nI_1 _) ?_
            refine gx_istore_n C dX3_readWord_50 (by decide) ?_
            first | refine gx_iincN C dX3_readWord_51 rfl (by decide) ?_ | refine gx_iinc1 C dX3_readWord_51 rfl (by decide) ?_
            refine gx_goto (tgt := 10) C dX3_readWord_54 (by decide) ?_
            exact ih (j + 1) _ (by omega) (by omega) (by rw [hI, tEnd_t hl]; rfl)
  refine gx_aload_n C dX3_readWord_0 rfl ?_
  refine gx_get C fd_X3_readWord_26 (hG := h.1) (hv := by rfl) dX3_readWord_1 ?_
  refine gx_istore_n C dX3_readWord_4 (by decide) ?_
  refine gx_aload_n C dX3_readWord_5 rfl ?_
  refine gx_get C fd_X3_readWord_26 (hG := h.1) (hv := by rfl) dX3_readWord_6 ?_
  refine gx_istore_n C dX3_readWord_9 (by decide) ?_
  exact hloop (sg.length - cu + 1) 0 _ (by omega) (by omega) rfl
set_option maxHeartbeats 600000 in
set_option maxRecDepth 100000 in
/-- X3_readPosition -/
theorem k3_readPosition (l : Launch) (D : gD) (A : Nat → Prop) (hs : Nat) {G : gH} {a cu : Nat} {sg cd : List Int32} {st re : Int32} (h : gMt D G a sg cd st (nI cu) re) (hcu : cu ≤ sg.length) : gM l yX3_readPosition wsX3_readPosition (gR 3) D A hs 0 0 [.ref a] G (gPi fun x G' => x = (tPos sg cu).1 ∧ gMt D G' a sg cd st (nI ((tPos sg cu).2)) re ∧ gOut a 1 G G') := by
  refine gM_intro (by decide) rfl rfl (Nat.le_of_ble_eq_true rfl) ?_
  intro p e s m args below meth c C
  have bs := gRow_le h.2.1
  have bd := gRow_le h.2.2
  have hloopx : sg.getD cu 0 = 32 → ∀ (n j : Nat) (G1 : gH) (w : Int32), 3 < j + n → j ≤ 3 → gMt D G1 a sg cd st (nI (cu + 1 + j)) re ∧ tDigs sg 3 0 (cu + 1) = tDigs sg (3 - j) w (cu + 1 + j) ∧ gOut a 1 G G1 ∧ cu + 1 + j ≤ sg.length → gX p l e (gR 3) s m args below meth c D A 3 hs 0 0 (MQ below (gQ D A hs 0 (gPi fun x G' => x = (tPos sg cu).1 ∧ gMt D G' a sg cd st (nI ((tPos sg cu).2)) re ∧ gOut a 1 G G')) args s 0 0 A) G1 [some (.ref a), some (.int (nI j)), some (.int w)] 15 [] := by
    intro hb
    intro n
    induction n with
    | zero => intro j G1 w hm hj0 hI; exact absurd hm (by omega)
    | succ n ih =>
      intro j G1 w hm hj0 hI
      refine gx_iload_n C dX3_readPosition_15 rfl ?_
      refine gx_iconst (v := 3) C dX3_readPosition_16 (by decide) ?_
      refine gx_icmp_ge (tgt := 88) C dX3_readPosition_17 (by decide) (fun c_17 => ?_) (fun c_17 => ?_)
      · have hj : ¬ j < 3 := fun q => nI_ge q (by omega) c_17
        have e9 : tDigs sg (3 - j) w (cu + 1 + j) = (w, cu + 1 + j) := by rw [show 3 - j = 0 by omega]; rfl
        refine gx_iload_n C dX3_readPosition_88 rfl ?_
        refine gx_if_ne (tgt := 96) C dX3_readPosition_89 (by decide) (fun c_89 => ?_) (fun c_89 => ?_)
        · have ez : ¬ j = 0 := fun q => c_89 (by rw [q]; rfl)
          have hv : tPos sg cu = (w, cu + 1 + j) := by
            rw [tPos, if_pos hb, hI.2.1, e9]
            show (if cu + 1 + j = cu + 1 then (-1 : Int32) else w, cu + 1 + j) = _
            rw [if_neg (by omega)]
          refine gx_iload_n C dX3_readPosition_96 rfl ?_
          refine gx_zret (mc := 0) C rfl ?_ dX3_readPosition_97
          exact ⟨_, rfl, by rw [hv], by rw [hv]; exact hI.1, hI.2.2.1⟩
        · have ez : j = 0 := (nI_eq (b := 0) (by omega) (by omega)).mp c_89
          have hv : tPos sg cu = (-1, cu + 1 + j) := by
            rw [tPos, if_pos hb, hI.2.1, e9]
            show (if cu + 1 + j = cu + 1 then (-1 : Int32) else w, cu + 1 + j) = _
            rw [if_pos (by omega)]
          refine gx_iconst (v := (-1)) C dX3_readPosition_92 (by decide) ?_
          refine gx_goto (tgt := 97) C dX3_readPosition_93 (by decide) ?_
          refine gx_zret (mc := 0) C rfl ?_ dX3_readPosition_97
          exact ⟨_, rfl, by rw [hv], by rw [hv]; exact hI.1, hI.2.2.1⟩
      · have hj : j < 3 := by
          rcases Nat.lt_or_ge j 3 with q | q
          · exact q
          · exact absurd (nI_le q (by omega)) c_17
        refine gx_aload_n C dX3_readPosition_20 rfl ?_
        refine gx_get C fd_X3_readPosition_14 (hG := hI.1.1) (hv := by rfl) dX3_readPosition_21 ?_
        refine gx_aload_n C dX3_readPosition_24 rfl ?_
        refine gx_get C fd_X3_readPosition_26 (hG := hI.1.1) (hv := by rfl) dX3_readPosition_25 ?_
        refine gx_callV (ci := 4) (T := TX5) (N := 2) C (k5_get l D A hs (nI (cu + 1 + j)) hI.1.2.1) cb_X3_readPosition__X5_get gX3_readPosition_X5_get rfl (hG := (gRow_ob hI.1.2.1)) rfl rfl (Nat.le_of_ble_eq_true rfl) ⟨Nat.le_refl _, Nat.le_refl _⟩ dX3_readPosition_28 (gx_ki fun r_28 G_28 h_28 => ?_)
        obtain ⟨rfl, rfl⟩ := h_28
        rw [lget_nI (by omega)]
        refine gx_bipush (v := 48) C dX3_readPosition_31 (by decide) ?_
        refine gx_icmp_lt (tgt := 88) C dX3_readPosition_33 (by decide) (fun c_33 => ?_) (fun c_33 => ?_)
        · have hnd : ¬ tDig (sg.getD (cu + 1 + j) 0) = true := fun q => by
            simp only [tDig, Bool.and_eq_true, decide_eq_true_eq] at q
            exact Int32.lt_irrefl (Int32.lt_of_lt_of_le c_33 q.1)
          have e9 : tDigs sg (3 - j) w (cu + 1 + j) = (w, cu + 1 + j) := by rw [show 3 - j = (2 - j) + 1 by omega, tDigs, if_neg hnd]
          refine gx_iload_n C dX3_readPosition_88 rfl ?_
          refine gx_if_ne (tgt := 96) C dX3_readPosition_89 (by decide) (fun c_89 => ?_) (fun c_89 => ?_)
          · have ez : ¬ j = 0 := fun q => c_89 (by rw [q]; rfl)
            have hv : tPos sg cu = (w, cu + 1 + j) := by
              rw [tPos, if_pos hb, hI.2.1, e9]
              show (if cu + 1 + j = cu + 1 then (-1 : Int32) else w, cu + 1 + j) = _
              rw [if_neg (by omega)]
            refine gx_iload_n C dX3_readPosition_96 rfl ?_
            refine gx_zret (mc := 0) C rfl ?_ dX3_readPosition_97
            exact ⟨_, rfl, by rw [hv], by rw [hv]; exact hI.1, hI.2.2.1⟩
          · have ez : j = 0 := (nI_eq (b := 0) (by omega) (by omega)).mp c_89
            have hv : tPos sg cu = (-1, cu + 1 + j) := by
              rw [tPos, if_pos hb, hI.2.1, e9]
              show (if cu + 1 + j = cu + 1 then (-1 : Int32) else w, cu + 1 + j) = _
              rw [if_pos (by omega)]
            refine gx_iconst (v := (-1)) C dX3_readPosition_92 (by decide) ?_
            refine gx_goto (tgt := 97) C dX3_readPosition_93 (by decide) ?_
            refine gx_zret (mc := 0) C rfl ?_ dX3_readPosition_97
            exact ⟨_, rfl, by rw [hv], by rw [hv]; exact hI.1, hI.2.2.1⟩
        · refine gx_aload_n C dX3_readPosition_36 rfl ?_
          refine gx_get C fd_X3_readPosition_14 (hG := hI.1.1) (hv := by rfl) dX3_readPosition_37 ?_
          refine gx_aload_n C dX3_readPosition_40 rfl ?_
          refine gx_get C fd_X3_readPosition_26 (hG := hI.1.1) (hv := by rfl) dX3_readPosition_41 ?_
          refine gx_callV (ci := 4) (T := TX5) (N := 2) C (k5_get l D A hs (nI (cu + 1 + j)) hI.1.2.1) cb_X3_readPosition__X5_get gX3_readPosition_X5_get rfl (hG := (gRow_ob hI.1.2.1)) rfl rfl (Nat.le_of_ble_eq_true rfl) ⟨Nat.le_refl _, Nat.le_refl _⟩ dX3_readPosition_44 (gx_ki fun r_44 G_44 h_44 => ?_)
          obtain ⟨rfl, rfl⟩ := h_44
          rw [lget_nI (by omega)]
          refine gx_bipush (v := 57) C dX3_readPosition_47 (by decide) ?_
          refine gx_icmp_gt (tgt := 88) C dX3_readPosition_49 (by decide) (fun c_49 => ?_) (fun c_49 => ?_)
          · have hnd : ¬ tDig (sg.getD (cu + 1 + j) 0) = true := fun q => by
              simp only [tDig, Bool.and_eq_true, decide_eq_true_eq] at q
              exact Int32.lt_irrefl (Int32.lt_of_lt_of_le c_49 q.2)
            have e9 : tDigs sg (3 - j) w (cu + 1 + j) = (w, cu + 1 + j) := by rw [show 3 - j = (2 - j) + 1 by omega, tDigs, if_neg hnd]
            refine gx_iload_n C dX3_readPosition_88 rfl ?_
            refine gx_if_ne (tgt := 96) C dX3_readPosition_89 (by decide) (fun c_89 => ?_) (fun c_89 => ?_)
            · have ez : ¬ j = 0 := fun q => c_89 (by rw [q]; rfl)
              have hv : tPos sg cu = (w, cu + 1 + j) := by
                rw [tPos, if_pos hb, hI.2.1, e9]
                show (if cu + 1 + j = cu + 1 then (-1 : Int32) else w, cu + 1 + j) = _
                rw [if_neg (by omega)]
              refine gx_iload_n C dX3_readPosition_96 rfl ?_
              refine gx_zret (mc := 0) C rfl ?_ dX3_readPosition_97
              exact ⟨_, rfl, by rw [hv], by rw [hv]; exact hI.1, hI.2.2.1⟩
            · have ez : j = 0 := (nI_eq (b := 0) (by omega) (by omega)).mp c_89
              have hv : tPos sg cu = (-1, cu + 1 + j) := by
                rw [tPos, if_pos hb, hI.2.1, e9]
                show (if cu + 1 + j = cu + 1 then (-1 : Int32) else w, cu + 1 + j) = _
                rw [if_pos (by omega)]
              refine gx_iconst (v := (-1)) C dX3_readPosition_92 (by decide) ?_
              refine gx_goto (tgt := 97) C dX3_readPosition_93 (by decide) ?_
              refine gx_zret (mc := 0) C rfl ?_ dX3_readPosition_97
              exact ⟨_, rfl, by rw [hv], by rw [hv]; exact hI.1, hI.2.2.1⟩
          · have hd : tDig (sg.getD (cu + 1 + j) 0) = true := by
              simp only [tDig, Bool.and_eq_true, decide_eq_true_eq]
              exact ⟨Int32.not_lt.mp c_33, Int32.not_lt.mp c_49⟩
            have e9 : tDigs sg (3 - j) w (cu + 1 + j) = tDigs sg (3 - (j + 1)) (w * 10 + sg.getD (cu + 1 + j) 0 - 48) (cu + 1 + j + 1) := by rw [show 3 - j = (3 - (j + 1)) + 1 by omega, tDigs, if_pos hd]
            refine gx_iload_n C dX3_readPosition_52 rfl ?_
            refine gx_bipush (v := 10) C dX3_readPosition_53 (by decide) ?_
            refine gx_imul C dX3_readPosition_55 ?_
            refine gx_aload_n C dX3_readPosition_56 rfl ?_
            refine gx_get C fd_X3_readPosition_14 (hG := hI.1.1) (hv := by rfl) dX3_readPosition_57 ?_
            refine gx_aload_n C dX3_readPosition_60 rfl ?_
            refine gx_get C fd_X3_readPosition_26 (hG := hI.1.1) (hv := by rfl) dX3_readPosition_61 ?_
            refine gx_callV (ci := 4) (T := TX5) (N := 2) C (k5_get l D A hs (nI (cu + 1 + j)) hI.1.2.1) cb_X3_readPosition__X5_get gX3_readPosition_X5_get rfl (hG := (gRow_ob hI.1.2.1)) rfl rfl (Nat.le_of_ble_eq_true rfl) ⟨Nat.le_refl _, Nat.le_refl _⟩ dX3_readPosition_64 (gx_ki fun r_64 G_64 h_64 => ?_)
            obtain ⟨rfl, rfl⟩ := h_64
            rw [lget_nI (by omega)]
            refine gx_iadd C dX3_readPosition_67 ?_
            refine gx_bipush (v := 48) C dX3_readPosition_68 (by decide) ?_
            refine gx_isub C dX3_readPosition_70 ?_
            refine gx_istore_n C dX3_readPosition_71 (by decide) ?_
            refine gx_aload_n C dX3_readPosition_72 rfl ?_
            refine gx_dup C dX3_readPosition_73 rfl ?_
            refine gx_get C fd_X3_readPosition_26 (hG := hI.1.1) (hv := by rfl) dX3_readPosition_74 ?_
            refine gx_iconst (v := 1) C dX3_readPosition_77 (by decide) ?_
            refine gx_iadd C dX3_readPosition_78 ?_
            refine gx_top (nI_1 _) ?_
            refine gx_put C fd_X3_readPosition_26 tyX3_ok nmX3 rfl rfl rfl (hG := hI.1.1) (hl := by exact Nat.le_of_ble_eq_true rfl) dX3_readPosition_79 ?_
            have s9 := gMt_cu (nI (cu + 1 + j + 1)) hI.1
            first | refine gx_iincN C dX3_readPosition_82 rfl (by decide) ?_ | refine gx_iinc1 C dX3_readPosition_82 rfl (by decide) ?_
            refine gx_goto (tgt := 15) C dX3_readPosition_85 (by decide) ?_
            exact ih (j + 1) _ _ (by omega) (by omega) ⟨s9, by rw [hI.2.1, e9]; rfl, gOut_up hI.2.2.1 (by omega), by have := gD_lt (tDig_0 hd); omega⟩
  refine gx_aload_n C dX3_readPosition_0 rfl ?_
  refine gx_bipush (v := 32) C dX3_readPosition_1 (by decide) ?_
  refine gx_callV (ci := 2) (T := TX3) (N := 5) C (k3_passes l D A hs h hcu 32) cb_X3_readPosition__X3_passes gX3_readPosition_X3_passes rfl (hG := h.1) rfl rfl (Nat.le_of_ble_eq_true rfl) ⟨Nat.le_refl _, Nat.le_refl _⟩ dX3_readPosition_3 (gx_ki fun r_3 G_3 h_3 => ?_)
  obtain ⟨hr3, hm3, ho3⟩ := h_3
  subst hr3
  refine gx_if_ne (tgt := 11) C dX3_readPosition_6 (by decide) (fun c_6 => ?_) (fun c_6 => ?_)
  · have hb : sg.getD cu 0 = 32 := by
      by_cases q : sg.getD cu 0 = 32
      · exact q
      · rw [if_neg q] at c_6; exact absurd rfl c_6
    rw [if_pos hb] at hm3
    refine gx_iconst (v := 0) C dX3_readPosition_11 (by decide) ?_
    refine gx_istore_n C dX3_readPosition_12 (by decide) ?_
    refine gx_iconst (v := 0) C dX3_readPosition_13 (by decide) ?_
    refine gx_istore_n C dX3_readPosition_14 (by decide) ?_
    exact hloopx hb 4 0 _ _ (by omega) (by omega) ⟨hm3, rfl, ho3, by have := gD_lt (sg := sg) (j := cu) (by rw [hb]; decide); omega⟩
  · have hb : ¬ sg.getD cu 0 = 32 := fun q => by
      rw [if_pos q] at c_6; exact absurd c_6 (by decide)
    rw [if_neg hb] at hm3
    refine gx_iconst (v := (-1)) C dX3_readPosition_9 (by decide) ?_
    refine gx_zret (mc := 0) C rfl ?_ dX3_readPosition_10
    exact ⟨_, rfl, by rw [tPos, if_neg hb], by rw [tPos, if_neg hb]; exact hm3, ho3⟩
set_option maxHeartbeats 600000 in
set_option maxRecDepth 100000 in
/-- X3_readCharacter -/
theorem k3_readCharacter (l : Launch) (D : gD) (A : Nat → Prop) (hs : Nat) {G : gH} {a cu : Nat} {sg cd : List Int32} {st re : Int32} (h : gMt D G a sg cd st (nI cu) re) (hcu : cu ≤ sg.length) : gM l yX3_readCharacter wsX3_readCharacter (gR 3) D A hs 0 0 [.ref a] G (gPi fun x G' => x = (tChr sg cu).1 ∧ gMt D G' a sg cd st (nI ((tChr sg cu).2)) re ∧ gOut a 1 G G') := by
  refine gM_intro (by decide) rfl rfl (Nat.le_of_ble_eq_true rfl) ?_
  intro p e s m args below meth c C
  have bs := gRow_le h.2.1
  have bd := gRow_le h.2.2
  refine gx_aload_n C dX3_readCharacter_0 rfl ?_
  refine gx_bipush (v := 32) C dX3_readCharacter_1 (by decide) ?_
  refine gx_callV (ci := 2) (T := TX3) (N := 5) C (k3_passes l D A hs h hcu 32) cb_X3_readCharacter__X3_passes gX3_readCharacter_X3_passes rfl (hG := h.1) rfl rfl (Nat.le_of_ble_eq_true rfl) ⟨Nat.le_refl _, Nat.le_refl _⟩ dX3_readCharacter_3 (gx_ki fun r_3 G_3 h_3 => ?_)
  obtain ⟨hr3, hm3, ho3⟩ := h_3
  subst hr3
  refine gx_if_eq (tgt := 23) C dX3_readCharacter_6 (by decide) (fun c_6 => ?_) (fun c_6 => ?_)
  · have hb : ¬ sg.getD cu 0 = 32 := fun q => by
      rw [if_pos q] at c_6; exact absurd c_6 (by decide)
    rw [if_neg hb] at hm3
    have e9 : tChr sg cu = (-1, cu) := by rw [tChr, if_neg hb]
    refine gx_iconst (v := (-1)) C dX3_readCharacter_23 (by decide) ?_
    refine gx_zret (mc := 0) C rfl ?_ dX3_readCharacter_24
    exact ⟨_, rfl, by rw [e9], by rw [e9]; exact hm3, ho3⟩
  · have hb : sg.getD cu 0 = 32 := by
      by_cases q : sg.getD cu 0 = 32
      · exact q
      · rw [if_neg q] at c_6; exact absurd rfl c_6
    rw [if_pos hb] at hm3
    have hlt := gD_lt (sg := sg) (j := cu) (by rw [hb]; decide)
    refine gx_aload_n C dX3_readCharacter_9 rfl ?_
    refine gx_get C fd_X3_readCharacter_26 (hG := hm3.1) (hv := by rfl) dX3_readCharacter_10 ?_
    refine gx_aload_n C dX3_readCharacter_13 rfl ?_
    refine gx_get C fd_X3_readCharacter_14 (hG := hm3.1) (hv := by rfl) dX3_readCharacter_14 ?_
    refine gx_callV (ci := 4) (T := TX5) (N := 2) C (k5_used l D A hs hm3.2.1) cb_X3_readCharacter__X5_used gX3_readCharacter_X5_used rfl (hG := (gRow_ob hm3.2.1)) rfl rfl (Nat.le_of_ble_eq_true rfl) ⟨Nat.le_refl _, Nat.le_refl _⟩ dX3_readCharacter_17 (gx_ki fun r_17 G_17 h_17 => ?_)
    obtain ⟨rfl, rfl⟩ := h_17
    refine gx_icmp_lt (tgt := 25) C dX3_readCharacter_20 (by decide) (fun c_20 => ?_) (fun c_20 => ?_)
    · have hj : cu + 1 < sg.length := by
        rcases Nat.lt_or_ge (cu + 1) sg.length with q | q
        · exact q
        · exact absurd c_20 (nI_nlt q (by omega))
      have e9 : tChr sg cu = (sg.getD (cu + 1) 0, cu + 2) := by rw [tChr, if_pos hb, if_pos hj]
      refine gx_aload_n C dX3_readCharacter_25 rfl ?_
      refine gx_dup C dX3_readCharacter_26 rfl ?_
      refine gx_get C fd_X3_readCharacter_26 (hG := hm3.1) (hv := by rfl) dX3_readCharacter_27 ?_
      refine gx_iconst (v := 1) C dX3_readCharacter_30 (by decide) ?_
      refine gx_iadd C dX3_readCharacter_31 ?_
      refine gx_top (nI_1 _) ?_
      refine gx_put C fd_X3_readCharacter_26 tyX3_ok nmX3 rfl rfl rfl (hG := hm3.1) (hl := by exact Nat.le_of_ble_eq_true rfl) dX3_readCharacter_32 ?_
      have s9 := gMt_cu (nI (cu + 1 + 1)) hm3
      refine gx_aload_n C dX3_readCharacter_35 rfl ?_
      refine gx_get C fd_X3_readCharacter_14 (hG := s9.1) (hv := by rfl) dX3_readCharacter_36 ?_
      refine gx_aload_n C dX3_readCharacter_39 rfl ?_
      refine gx_get C fd_X3_readCharacter_26 (hG := s9.1) (hv := by rfl) dX3_readCharacter_40 ?_
      refine gx_iconst (v := 1) C dX3_readCharacter_43 (by decide) ?_
      refine gx_isub C dX3_readCharacter_44 ?_
      refine gx_top (show (nI (cu + 1 + 1) - 1 : Int32) = nI (cu + 1) from gz_pred (n := cu + 1 + 1) (by omega)) ?_
      refine gx_callV (ci := 4) (T := TX5) (N := 2) C (k5_get l D A hs (nI (cu + 1)) s9.2.1) cb_X3_readCharacter__X5_get gX3_readCharacter_X5_get rfl (hG := (gRow_ob s9.2.1)) rfl rfl (Nat.le_of_ble_eq_true rfl) ⟨Nat.le_refl _, Nat.le_refl _⟩ dX3_readCharacter_45 (gx_ki fun r_45 G_45 h_45 => ?_)
      obtain ⟨rfl, rfl⟩ := h_45
      rw [lget_nI (by omega)]
      refine gx_zret (mc := 0) C rfl ?_ dX3_readCharacter_48
      exact ⟨_, rfl, by rw [e9], by rw [e9]; exact s9, gOut_up ho3 (by omega)⟩
    · have hj : ¬ cu + 1 < sg.length := fun q => c_20 (nI_lt q (by omega))
      have e9 : tChr sg cu = (-1, cu + 1) := by rw [tChr, if_pos hb, if_neg hj]
      refine gx_iconst (v := (-1)) C dX3_readCharacter_23 (by decide) ?_
      refine gx_zret (mc := 0) C rfl ?_ dX3_readCharacter_24
      exact ⟨_, rfl, by rw [e9], by rw [e9]; exact hm3, ho3⟩
set_option maxHeartbeats 600000 in
set_option maxRecDepth 100000 in
/-- X3_keep -/
theorem k3_keep (l : Launch) (D : gD) (A : Nat → Prop) (hs : Nat) {G : gH} {a cu b bcap : Nat} {sg cd ms : List Int32} {st : Int32} (h : gMt D G a sg cd st (nI cu) 0) (z : Int32) (hm : gRow D G b bcap ms) : gM l yX3_keep wsX3_keep (gR 3) D A hs 0 0 [.ref a, .int z, .ref b] G (gPv fun G' => gMt D G' a sg (if z ∈ ms ∨ z ∈ cd ∨ 8 ≤ ms.length + cd.length then cd else cd ++ [z]) st (nI cu) (if z ∈ ms ∨ z ∈ cd then 4 else if 8 ≤ ms.length + cd.length then 5 else 0) ∧ gOut a 5 G G') := by
  refine gM_intro (by decide) rfl rfl (Nat.le_of_ble_eq_true rfl) ?_
  intro p e s m args below meth c C
  have bm := gRow_le hm
  have bs := gRow_le h.2.1
  have bd := gRow_le h.2.2
  refine gx_aload_n C dX3_keep_0 rfl ?_
  refine gx_iload_n C dX3_keep_1 rfl ?_
  refine gx_callV (ci := 4) (T := TX5) (N := 2) C (k5_placeOf l D A hs z hm) cb_X3_keep__X5_placeOf gX3_keep_X5_placeOf rfl (hG := (gRow_ob hm)) rfl rfl (Nat.le_of_ble_eq_true rfl) ⟨Nat.le_refl _, Nat.le_refl _⟩ dX3_keep_2 (gx_ki fun r_2 G_2 h_2 => ?_)
  obtain ⟨rfl, rfl⟩ := h_2
  refine gx_if_ge (tgt := 19) C dX3_keep_5 (by decide) (fun c_5 => ?_) (fun c_5 => ?_)
  · have i1 : z ∈ ms := by
      by_cases q : z ∈ ms
      · exact q
      · exact absurd (Int32.lt_of_lt_of_le ((lidx_in (by omega)).mpr q) c_5) Int32.lt_irrefl
    have w1 : z ∈ ms ∨ z ∈ cd := Or.inl i1
    refine gx_aload_n C dX3_keep_19 rfl ?_
    refine gx_iconst (v := 4) C dX3_keep_20 (by decide) ?_
    refine gx_put C fd_X3_keep_30 tyX3_ok nmX3 rfl rfl rfl (hG := h.1) (hl := by exact Nat.le_of_ble_eq_true rfl) dX3_keep_21 ?_
    have s9 := gMt_re 4 h
    have e1 : (if z ∈ ms ∨ z ∈ cd ∨ 8 ≤ ms.length + cd.length then cd else cd ++ [z]) = cd := if_pos (w1.elim Or.inl (fun q => Or.inr (Or.inl q)))
    have e2 : (if z ∈ ms ∨ z ∈ cd then 4 else if 8 ≤ ms.length + cd.length then 5 else 0) = (4 : Int32) := if_pos w1
    refine gx_goto (tgt := 60) C dX3_keep_24 (by decide) ?_
    refine gx_vret (mc := 0) C ?_ dX3_keep_60
    first
      | (refine ⟨rfl, ?_, ?_⟩
         · rw [e1, e2]; exact s9
         · exact gOut_up gOut_rf (by omega))
      | (have e1 : (if z ∈ ms ∨ z ∈ cd ∨ 8 ≤ ms.length + cd.length then cd else cd ++ [z]) = cd ++ [z] := if_neg (fun q => q.elim n1 (fun q => q.elim n2 n3))
         have e2 : (if z ∈ ms ∨ z ∈ cd then 4 else if 8 ≤ ms.length + cd.length then 5 else 0) = (0 : Int32) := by rw [if_neg (fun q => q.elim n1 n2), if_neg n3]
         have x9 := h_57.1
         rw [lapp, if_pos (by omega)] at x9
         have s8 := gMt_cd h x9 h_57.2
         refine ⟨rfl, ?_, gOut_wd h_57.2 (by omega)⟩
         rw [e1, e2]
         exact s8)
  · have n1 : ¬ z ∈ ms := (lidx_in (by omega)).mp (Int32.not_le.mp c_5)
    refine gx_aload_n C dX3_keep_8 rfl ?_
    refine gx_get C fd_X3_keep_20 (hG := h.1) (hv := by rfl) dX3_keep_9 ?_
    refine gx_iload_n C dX3_keep_12 rfl ?_
    refine gx_callV (ci := 4) (T := TX5) (N := 2) C (k5_placeOf l D A hs z h.2.2) cb_X3_keep__X5_placeOf gX3_keep_X5_placeOf rfl (hG := (gRow_ob h.2.2)) rfl rfl (Nat.le_of_ble_eq_true rfl) ⟨Nat.le_refl _, Nat.le_refl _⟩ dX3_keep_13 (gx_ki fun r_13 G_13 h_13 => ?_)
    obtain ⟨rfl, rfl⟩ := h_13
    refine gx_if_lt (tgt := 27) C dX3_keep_16 (by decide) (fun c_16 => ?_) (fun c_16 => ?_)
    · have n2 : ¬ z ∈ cd := (lidx_in (by omega)).mp c_16
      refine gx_aload_n C dX3_keep_27 rfl ?_
      refine gx_callV (ci := 4) (T := TX5) (N := 2) C (k5_used l D A hs hm) cb_X3_keep__X5_used gX3_keep_X5_used rfl (hG := (gRow_ob hm)) rfl rfl (Nat.le_of_ble_eq_true rfl) ⟨Nat.le_refl _, Nat.le_refl _⟩ dX3_keep_28 (gx_ki fun r_28 G_28 h_28 => ?_)
      obtain ⟨rfl, rfl⟩ := h_28
      refine gx_aload_n C dX3_keep_31 rfl ?_
      refine gx_get C fd_X3_keep_20 (hG := h.1) (hv := by rfl) dX3_keep_32 ?_
      refine gx_callV (ci := 4) (T := TX5) (N := 2) C (k5_used l D A hs h.2.2) cb_X3_keep__X5_used gX3_keep_X5_used rfl (hG := (gRow_ob h.2.2)) rfl rfl (Nat.le_of_ble_eq_true rfl) ⟨Nat.le_refl _, Nat.le_refl _⟩ dX3_keep_35 (gx_ki fun r_35 G_35 h_35 => ?_)
      obtain ⟨rfl, rfl⟩ := h_35
      refine gx_iadd C dX3_keep_38 ?_
      refine gx_bipush (v := 8) C dX3_keep_39 (by decide) ?_
      refine gx_icmp_lt (tgt := 52) C dX3_keep_41 (by decide) (fun c_41 => ?_) (fun c_41 => ?_)
      · rw [nI_add] at c_41
        have n3 : ¬ 8 ≤ ms.length + cd.length := fun q => nI_nlt (a := ms.length + cd.length) (b := 8) q (by omega) c_41
        refine gx_aload_n C dX3_keep_52 rfl ?_
        refine gx_get C fd_X3_keep_20 (hG := h.1) (hv := by rfl) dX3_keep_53 ?_
        refine gx_iload_n C dX3_keep_56 rfl ?_
        refine gx_callV (ci := 4) (T := TX5) (N := 2) C (k5_append l D A hs z h.2.2) cb_X3_keep__X5_append gX3_keep_X5_append rfl (hG := (gRow_ob h.2.2)) rfl rfl (Nat.le_of_ble_eq_true rfl) ⟨Nat.le_refl _, Nat.le_refl _⟩ dX3_keep_57 (gx_kv fun G_57 h_57 => ?_)
        refine gx_vret (mc := 0) C ?_ dX3_keep_60
        first
          | (refine ⟨rfl, ?_, ?_⟩
             · rw [e1, e2]; exact s9
             · exact gOut_up gOut_rf (by omega))
          | (have e1 : (if z ∈ ms ∨ z ∈ cd ∨ 8 ≤ ms.length + cd.length then cd else cd ++ [z]) = cd ++ [z] := if_neg (fun q => q.elim n1 (fun q => q.elim n2 n3))
             have e2 : (if z ∈ ms ∨ z ∈ cd then 4 else if 8 ≤ ms.length + cd.length then 5 else 0) = (0 : Int32) := by rw [if_neg (fun q => q.elim n1 n2), if_neg n3]
             have x9 := h_57.1
             rw [lapp, if_pos (by omega)] at x9
             have s8 := gMt_cd h x9 h_57.2
             refine ⟨rfl, ?_, gOut_wd h_57.2 (by omega)⟩
             rw [e1, e2]
             exact s8)
      · rw [nI_add] at c_41
        have i3 : 8 ≤ ms.length + cd.length := by
          rcases Nat.lt_or_ge (ms.length + cd.length) 8 with q | q
          · exact absurd (nI_lt q (by omega)) c_41
          · exact q
        refine gx_aload_n C dX3_keep_44 rfl ?_
        refine gx_iconst (v := 5) C dX3_keep_45 (by decide) ?_
        refine gx_put C fd_X3_keep_30 tyX3_ok nmX3 rfl rfl rfl (hG := h.1) (hl := by exact Nat.le_of_ble_eq_true rfl) dX3_keep_46 ?_
        have s9 := gMt_re 5 h
        have e1 : (if z ∈ ms ∨ z ∈ cd ∨ 8 ≤ ms.length + cd.length then cd else cd ++ [z]) = cd := if_pos (Or.inr (Or.inr i3))
        have e2 : (if z ∈ ms ∨ z ∈ cd then 4 else if 8 ≤ ms.length + cd.length then 5 else 0) = (5 : Int32) := by rw [if_neg (fun q => q.elim n1 n2), if_pos i3]
        refine gx_goto (tgt := 60) C dX3_keep_49 (by decide) ?_
        refine gx_vret (mc := 0) C ?_ dX3_keep_60
        first
          | (refine ⟨rfl, ?_, ?_⟩
             · rw [e1, e2]; exact s9
             · exact gOut_up gOut_rf (by omega))
          | (have e1 : (if z ∈ ms ∨ z ∈ cd ∨ 8 ≤ ms.length + cd.length then cd else cd ++ [z]) = cd ++ [z] := if_neg (fun q => q.elim n1 (fun q => q.elim n2 n3))
             have e2 : (if z ∈ ms ∨ z ∈ cd then 4 else if 8 ≤ ms.length + cd.length then 5 else 0) = (0 : Int32) := by rw [if_neg (fun q => q.elim n1 n2), if_neg n3]
             have x9 := h_57.1
             rw [lapp, if_pos (by omega)] at x9
             have s8 := gMt_cd h x9 h_57.2
             refine ⟨rfl, ?_, gOut_wd h_57.2 (by omega)⟩
             rw [e1, e2]
             exact s8)
    · have i2 : z ∈ cd := by
        by_cases q : z ∈ cd
        · exact q
        · exact absurd ((lidx_in (by omega)).mpr q) c_16
      have w1 : z ∈ ms ∨ z ∈ cd := Or.inr i2
      refine gx_aload_n C dX3_keep_19 rfl ?_
      refine gx_iconst (v := 4) C dX3_keep_20 (by decide) ?_
      refine gx_put C fd_X3_keep_30 tyX3_ok nmX3 rfl rfl rfl (hG := h.1) (hl := by exact Nat.le_of_ble_eq_true rfl) dX3_keep_21 ?_
      have s9 := gMt_re 4 h
      have e1 : (if z ∈ ms ∨ z ∈ cd ∨ 8 ≤ ms.length + cd.length then cd else cd ++ [z]) = cd := if_pos (w1.elim Or.inl (fun q => Or.inr (Or.inl q)))
      have e2 : (if z ∈ ms ∨ z ∈ cd then 4 else if 8 ≤ ms.length + cd.length then 5 else 0) = (4 : Int32) := if_pos w1
      refine gx_goto (tgt := 60) C dX3_keep_24 (by decide) ?_
      refine gx_vret (mc := 0) C ?_ dX3_keep_60
      first
        | (refine ⟨rfl, ?_, ?_⟩
           · rw [e1, e2]; exact s9
           · exact gOut_up gOut_rf (by omega))
        | (have e1 : (if z ∈ ms ∨ z ∈ cd ∨ 8 ≤ ms.length + cd.length then cd else cd ++ [z]) = cd ++ [z] := if_neg (fun q => q.elim n1 (fun q => q.elim n2 n3))
           have e2 : (if z ∈ ms ∨ z ∈ cd then 4 else if 8 ≤ ms.length + cd.length then 5 else 0) = (0 : Int32) := by rw [if_neg (fun q => q.elim n1 n2), if_neg n3]
           have x9 := h_57.1
           rw [lapp, if_pos (by omega)] at x9
           have s8 := gMt_cd h x9 h_57.2
           refine ⟨rfl, ?_, gOut_wd h_57.2 (by omega)⟩
           rw [e1, e2]
           exact s8)
set_option maxHeartbeats 600000 in
set_option maxRecDepth 100000 in
/-- X3_readMark -/
theorem k3_readMark (l : Launch) (D : gD) (A : Nat → Prop) (hs : Nat) {G : gH} {a cu b bcap : Nat} {sg cd ms : List Int32} {st : Int32} (h : gMt D G a sg cd st (nI cu) 0) (hcu : cu ≤ sg.length) (hm : gRow D G b bcap ms) (hd : b + 2 ≤ a ∨ a + 5 ≤ b) (tl : Int32) : gM l yX3_readMark wsX3_readMark (gR 6) D A hs 0 0 [.ref a, .ref b, .int tl] G (gPv fun G' => (∃ cu2 : Nat, gMt D G' a sg (if tWhy sg ms cd tl cu = 0 then cd ++ [tCode sg cu] else cd) st (nI cu2) (tWhy sg ms cd tl cu) ∧ cu2 ≤ sg.length ∧ (tWhy sg ms cd tl cu = 0 → cu2 = (tP3 sg cu).2 + 1)) ∧ gOut a 5 G G') := by
  refine gM_intro (by decide) rfl rfl (Nat.le_of_ble_eq_true rfl) ?_
  intro p e s m args below meth c C
  have bs := gRow_le h.2.1
  have bd := gRow_le h.2.2
  have hle := tP_le hcu
  have hJ : ∀ (G1 : gH) (V6 : Option Value), ¬ tKind sg cu < 0 → gMt D G1 a sg cd st (nI (tP3 sg cu).2) 0 ∧ gOut a 1 G G1 → gX p l e (gR 6) s m args below meth c D A 7 hs 0 0 (MQ below (gQ D A hs 0 (gPv fun G' => (∃ cu2 : Nat, gMt D G' a sg (if tWhy sg ms cd tl cu = 0 then cd ++ [tCode sg cu] else cd) st (nI cu2) (tWhy sg ms cd tl cu) ∧ cu2 ≤ sg.length ∧ (tWhy sg ms cd tl cu = 0 → cu2 = (tP3 sg cu).2 + 1)) ∧ gOut a 5 G G')) args s 0 0 A) G1 [some (.ref a), some (.ref b), some (.int tl), some (.int (tKind sg cu)), some (.int (tP1 sg cu).1), some (.int (tP2 sg cu).1), V6] 50 [.int (tP3 sg cu).1] := by
    intro G1 V6 hk hI
    have ho9 := hI.2
    have hmr := gRow_fr hm hI.2 (by omega)
    refine gx_istore C dX3_readMark_50 (by decide) ?_
    refine gx_iload C dX3_readMark_52 rfl ?_
    refine gx_if_lt (tgt := 76) C dX3_readMark_54 (by decide) (fun c_54 => ?_) (fun c_54 => ?_)
    · have ew : tWhy sg ms cd tl cu = 2 := by rw [tWhy, if_neg hk, if_pos (Or.inl c_54)]
      have hq := hI.1
      have hcx : (tP3 sg cu).2 ≤ sg.length := by omega
      refine gx_aload_n C dX3_readMark_76 rfl ?_
      refine gx_iconst (v := 2) C dX3_readMark_77 (by decide) ?_
      refine gx_put C fd_X3_readMark_30 tyX3_ok nmX3 rfl rfl rfl (hG := hq.1) (hl := by exact Nat.le_of_ble_eq_true rfl) dX3_readMark_78 ?_
      have s9 := gMt_re 2 hq
      refine gx_vret (mc := 0) C ?_ dX3_readMark_81
      exact ⟨rfl, ⟨_, by rw [ew, if_neg (by decide)]; exact s9, hcx, fun q => absurd q (by rw [ew]; decide)⟩, gOut_up (gOut_wd ho9 (by omega)) (by omega)⟩
    · refine gx_iload C dX3_readMark_57 rfl ?_
      refine gx_if_lt (tgt := 76) C dX3_readMark_59 (by decide) (fun c_59 => ?_) (fun c_59 => ?_)
      · have ew : tWhy sg ms cd tl cu = 2 := by rw [tWhy, if_neg hk, if_pos (Or.inr (Or.inl c_59))]
        have hq := hI.1
        have hcx : (tP3 sg cu).2 ≤ sg.length := by omega
        refine gx_aload_n C dX3_readMark_76 rfl ?_
        refine gx_iconst (v := 2) C dX3_readMark_77 (by decide) ?_
        refine gx_put C fd_X3_readMark_30 tyX3_ok nmX3 rfl rfl rfl (hG := hq.1) (hl := by exact Nat.le_of_ble_eq_true rfl) dX3_readMark_78 ?_
        have s9 := gMt_re 2 hq
        refine gx_vret (mc := 0) C ?_ dX3_readMark_81
        exact ⟨rfl, ⟨_, by rw [ew, if_neg (by decide)]; exact s9, hcx, fun q => absurd q (by rw [ew]; decide)⟩, gOut_up (gOut_wd ho9 (by omega)) (by omega)⟩
      · refine gx_iload C dX3_readMark_62 rfl ?_
        refine gx_if_lt (tgt := 76) C dX3_readMark_64 (by decide) (fun c_64 => ?_) (fun c_64 => ?_)
        · have ew : tWhy sg ms cd tl cu = 2 := by rw [tWhy, if_neg hk, if_pos (Or.inr (Or.inr (Or.inl c_64)))]
          have hq := hI.1
          have hcx : (tP3 sg cu).2 ≤ sg.length := by omega
          refine gx_aload_n C dX3_readMark_76 rfl ?_
          refine gx_iconst (v := 2) C dX3_readMark_77 (by decide) ?_
          refine gx_put C fd_X3_readMark_30 tyX3_ok nmX3 rfl rfl rfl (hG := hq.1) (hl := by exact Nat.le_of_ble_eq_true rfl) dX3_readMark_78 ?_
          have s9 := gMt_re 2 hq
          refine gx_vret (mc := 0) C ?_ dX3_readMark_81
          exact ⟨rfl, ⟨_, by rw [ew, if_neg (by decide)]; exact s9, hcx, fun q => absurd q (by rw [ew]; decide)⟩, gOut_up (gOut_wd ho9 (by omega)) (by omega)⟩
        · refine gx_aload_n C dX3_readMark_67 rfl ?_
          refine gx_bipush (v := 59) C dX3_readMark_68 (by decide) ?_
          refine gx_callV (ci := 2) (T := TX3) (N := 5) C (k3_passes l D A hs hI.1 (by omega) 59) cb_X3_readMark__X3_passes gX3_readMark_X3_passes rfl (hG := hI.1.1) rfl rfl (Nat.le_of_ble_eq_true rfl) ⟨Nat.le_refl _, Nat.le_refl _⟩ dX3_readMark_70 (gx_ki fun r_70 G_70 h_70 => ?_)
          obtain ⟨hr7, hm7, ho7⟩ := h_70
          subst hr7
          have ho9 := gOut_tr ho9 ho7
          refine gx_if_ne (tgt := 82) C dX3_readMark_73 (by decide) (fun c_73 => ?_) (fun c_73 => ?_)
          · have hsc : sg.getD (tP3 sg cu).2 0 = 59 := by
              by_cases q : sg.getD (tP3 sg cu).2 0 = 59
              · exact q
              · rw [if_neg q] at c_73; exact absurd rfl c_73
            rw [if_pos hsc] at hm7
            have hq := hm7
            have hlt := gD_lt (sg := sg) (j := (tP3 sg cu).2) (by rw [hsc]; decide)
            have hcx : (tP3 sg cu).2 + 1 ≤ sg.length := by omega
            have hmr2 := gRow_fr hmr ho7 (by omega)
            have hbad : ¬ ((tP1 sg cu).1 < 0 ∨ (tP2 sg cu).1 < 0 ∨ (tP3 sg cu).1 < 0 ∨ ¬ sg.getD (tP3 sg cu).2 0 = 59) := fun q => q.elim c_54 (fun q => q.elim c_59 (fun q => q.elim c_64 (fun q => q hsc)))
            refine gx_iload_n C dX3_readMark_82 rfl ?_
            refine gx_iload C dX3_readMark_83 rfl ?_
            refine gx_iload C dX3_readMark_85 rfl ?_
            refine gx_iload_n C dX3_readMark_87 rfl ?_
            refine gx_callS C (k1_isPossible l D A hs (tKind sg cu) (tP1 sg cu).1 (tP2 sg cu).1 tl) cb_X3_readMark__X1_isPossible gX3_readMark_X1_isPossible rfl rfl (Nat.le_of_ble_eq_true rfl) ⟨Nat.le_refl _, Nat.le_refl _⟩ dX3_readMark_88 (gx_ki fun r_88 G_88 h_88 => ?_)
            obtain ⟨rfl, rfl⟩ := h_88
            refine gx_if_ne (tgt := 100) C dX3_readMark_91 (by decide) (fun c_91 => ?_) (fun c_91 => ?_)
            · refine gx_aload_n C dX3_readMark_100 rfl ?_
              refine gx_iload_n C dX3_readMark_101 rfl ?_
              refine gx_iload C dX3_readMark_102 rfl ?_
              refine gx_iload C dX3_readMark_104 rfl ?_
              refine gx_iload C dX3_readMark_106 rfl ?_
              refine gx_callS C (k1_codeOf l D A hs (tKind sg cu) (tP1 sg cu).1 (tP2 sg cu).1 (tP3 sg cu).1) cb_X3_readMark__X1_codeOf gX3_readMark_X1_codeOf rfl rfl (Nat.le_of_ble_eq_true rfl) ⟨Nat.le_refl _, Nat.le_refl _⟩ dX3_readMark_108 (gx_ki fun r_108 G_108 h_108 => ?_)
              obtain ⟨rfl, rfl⟩ := h_108
              refine gx_aload_n C dX3_readMark_111 rfl ?_
              refine gx_callV (ci := 2) (T := TX3) (N := 5) C (k3_keep l D A hs hq (tCode sg cu) hmr2) cb_X3_readMark__X3_keep gX3_readMark_X3_keep rfl (hG := hq.1) rfl rfl (Nat.le_of_ble_eq_true rfl) ⟨Nat.le_refl _, Nat.le_refl _⟩ dX3_readMark_112 (gx_kv fun G_112 h_112 => ?_)
              refine gx_vret (mc := 0) C ?_ dX3_readMark_115
              have ew : tWhy sg ms cd tl cu = (if tCode sg cu ∈ ms ∨ tCode sg cu ∈ cd then 4 else if 8 ≤ ms.length + cd.length then 5 else 0) := by rw [tWhy, if_neg hk, if_neg hbad, if_neg c_91]
              have ec : (if tWhy sg ms cd tl cu = 0 then cd ++ [tCode sg cu] else cd) = (if tCode sg cu ∈ ms ∨ tCode sg cu ∈ cd ∨ 8 ≤ ms.length + cd.length then cd else cd ++ [tCode sg cu]) := by
                rw [ew]
                by_cases y1 : tCode sg cu ∈ ms ∨ tCode sg cu ∈ cd
                · rw [if_pos y1, if_neg (by decide), if_pos (y1.elim Or.inl (fun q => Or.inr (Or.inl q)))]
                · rw [if_neg y1]
                  by_cases y2 : 8 ≤ ms.length + cd.length
                  · rw [if_pos y2, if_neg (by decide), if_pos (Or.inr (Or.inr y2))]
                  · rw [if_neg y2, if_pos rfl, if_neg (fun q => q.elim (fun q => y1 (Or.inl q)) (fun q => q.elim (fun q => y1 (Or.inr q)) y2))]
              exact ⟨rfl, ⟨_, by rw [ec, ew]; exact h_112.1, hcx, fun _ => rfl⟩, gOut_tr (gOut_wd ho9 (by omega)) h_112.2⟩
            · have ew : tWhy sg ms cd tl cu = 3 := by rw [tWhy, if_neg hk, if_neg hbad, if_pos c_91]
              refine gx_aload_n C dX3_readMark_94 rfl ?_
              refine gx_iconst (v := 3) C dX3_readMark_95 (by decide) ?_
              refine gx_put C fd_X3_readMark_30 tyX3_ok nmX3 rfl rfl rfl (hG := hq.1) (hl := by exact Nat.le_of_ble_eq_true rfl) dX3_readMark_96 ?_
              have s9 := gMt_re 3 hq
              refine gx_vret (mc := 0) C ?_ dX3_readMark_99
              exact ⟨rfl, ⟨_, by rw [ew, if_neg (by decide)]; exact s9, hcx, fun q => absurd q (by rw [ew]; decide)⟩, gOut_up (gOut_wd ho9 (by omega)) (by omega)⟩
          · have hsc : ¬ sg.getD (tP3 sg cu).2 0 = 59 := fun q => by
              rw [if_pos q] at c_73; exact absurd c_73 (by decide)
            rw [if_neg hsc] at hm7
            have hq := hm7
            have hcx : (tP3 sg cu).2 ≤ sg.length := by omega
            have ew : tWhy sg ms cd tl cu = 2 := by rw [tWhy, if_neg hk, if_pos (Or.inr (Or.inr (Or.inr hsc)))]
            refine gx_aload_n C dX3_readMark_76 rfl ?_
            refine gx_iconst (v := 2) C dX3_readMark_77 (by decide) ?_
            refine gx_put C fd_X3_readMark_30 tyX3_ok nmX3 rfl rfl rfl (hG := hq.1) (hl := by exact Nat.le_of_ble_eq_true rfl) dX3_readMark_78 ?_
            have s9 := gMt_re 2 hq
            refine gx_vret (mc := 0) C ?_ dX3_readMark_81
            exact ⟨rfl, ⟨_, by rw [ew, if_neg (by decide)]; exact s9, hcx, fun q => absurd q (by rw [ew]; decide)⟩, gOut_up (gOut_wd ho9 (by omega)) (by omega)⟩
  have hJ3 : ∀ (G1 : gH) (V5 V6 : Option Value), ¬ tKind sg cu < 0 → gMt D G1 a sg cd st (nI (tP2 sg cu).2) 0 ∧ gOut a 1 G G1 → gX p l e (gR 6) s m args below meth c D A 7 hs 0 0 (MQ below (gQ D A hs 0 (gPv fun G' => (∃ cu2 : Nat, gMt D G' a sg (if tWhy sg ms cd tl cu = 0 then cd ++ [tCode sg cu] else cd) st (nI cu2) (tWhy sg ms cd tl cu) ∧ cu2 ≤ sg.length ∧ (tWhy sg ms cd tl cu = 0 → cu2 = (tP3 sg cu).2 + 1)) ∧ gOut a 5 G G')) args s 0 0 A) G1 [some (.ref a), some (.ref b), some (.int tl), some (.int (tKind sg cu)), some (.int (tP1 sg cu).1), V5, V6] 33 [.int (tP2 sg cu).1] := by
    intro G1 V5 V6 hk hI
    refine gx_istore C dX3_readMark_33 (by decide) ?_
    refine gx_iload_n C dX3_readMark_35 rfl ?_
    refine gx_callS C (k1_takesCharacter l D A hs (tKind sg cu)) cb_X3_readMark__X1_takesCharacter gX3_readMark_X1_takesCharacter rfl rfl (Nat.le_of_ble_eq_true rfl) ⟨Nat.le_refl _, Nat.le_refl _⟩ dX3_readMark_36 (gx_ki fun r_36 G_36 h_36 => ?_)
    obtain ⟨rfl, rfl⟩ := h_36
    refine gx_if_eq (tgt := 49) C dX3_readMark_39 (by decide) (fun c_39 => ?_) (fun c_39 => ?_)
    · have e9 : tP3 sg cu = (0, (tP2 sg cu).2) := by rw [tP3, if_pos c_39]
      refine gx_iconst (v := 0) C dX3_readMark_49 (by decide) ?_
      first
        | exact hJ _ _ hk ⟨hm4, gOut_tr hI.2 ho4⟩
        | (have hz1 : (tP3 sg cu).1 = 0 := by rw [e9]
           have hz2 : (tP3 sg cu).2 = (tP2 sg cu).2 := by rw [e9]
           have x9 := hJ _ V6 hk ⟨by rw [hz2]; exact hI.1, hI.2⟩
           rw [hz1] at x9
           exact x9)
    · refine gx_aload_n C dX3_readMark_42 rfl ?_
      refine gx_callV (ci := 2) (T := TX3) (N := 5) C (k3_readCharacter l D A hs hI.1 (by omega)) cb_X3_readMark__X3_readCharacter gX3_readMark_X3_readCharacter rfl (hG := hI.1.1) rfl rfl (Nat.le_of_ble_eq_true rfl) ⟨Nat.le_refl _, Nat.le_refl _⟩ dX3_readMark_43 (gx_ki fun r_43 G_43 h_43 => ?_)
      have e9 : tP3 sg cu = tChr sg (tP2 sg cu).2 := by rw [tP3, if_neg c_39]
      obtain ⟨hr4, hm4, ho4⟩ := h_43
      subst hr4
      rw [← e9] at hm4 ⊢
      refine gx_goto (tgt := 50) C dX3_readMark_46 (by decide) ?_
      first
        | exact hJ _ _ hk ⟨hm4, gOut_tr hI.2 ho4⟩
        | (have hz1 : (tP3 sg cu).1 = 0 := by rw [e9]
           have hz2 : (tP3 sg cu).2 = (tP2 sg cu).2 := by rw [e9]
           have x9 := hJ _ V6 hk ⟨by rw [hz2]; exact hI.1, hI.2⟩
           rw [hz1] at x9
           exact x9)
  refine gx_aload_n C dX3_readMark_0 rfl ?_
  refine gx_callV (ci := 2) (T := TX3) (N := 5) C (k3_readWord l D A hs h hcu) cb_X3_readMark__X3_readWord gX3_readMark_X3_readWord rfl (hG := h.1) rfl rfl (Nat.le_of_ble_eq_true rfl) ⟨Nat.le_refl _, Nat.le_refl _⟩ dX3_readMark_1 (gx_ki fun r_1 G_1 h_1 => ?_)
  obtain ⟨hr1, hm1, ho1⟩ := h_1
  subst hr1
  refine gx_istore_n C dX3_readMark_4 (by decide) ?_
  refine gx_iload_n C dX3_readMark_5 rfl ?_
  refine gx_if_ge (tgt := 15) C dX3_readMark_6 (by decide) (fun c_6 => ?_) (fun c_6 => ?_)
  · have hk : ¬ tKind sg cu < 0 := Int32.not_lt.mpr c_6
    refine gx_aload_n C dX3_readMark_15 rfl ?_
    refine gx_callV (ci := 2) (T := TX3) (N := 5) C (k3_readPosition l D A hs hm1 (by omega)) cb_X3_readMark__X3_readPosition gX3_readMark_X3_readPosition rfl (hG := hm1.1) rfl rfl (Nat.le_of_ble_eq_true rfl) ⟨Nat.le_refl _, Nat.le_refl _⟩ dX3_readMark_16 (gx_ki fun r_16 G_16 h_16 => ?_)
    obtain ⟨hr2, hm2, ho2⟩ := h_16
    subst hr2
    have hm2 : gMt D G_16 a sg cd st (nI (tP1 sg cu).2) 0 := hm2
    change gX p l e (gR 6) s m args below meth c D A 7 (hs + 0 + 0) (0 + 0 + 0) (0 + 0 + 0) _ G_16 _ 19 [.int (tP1 sg cu).1]
    refine gx_istore C dX3_readMark_19 (by decide) ?_
    refine gx_iload_n C dX3_readMark_21 rfl ?_
    refine gx_if_ne (tgt := 32) C dX3_readMark_22 (by decide) (fun c_22 => ?_) (fun c_22 => ?_)
    · have e9 : tP2 sg cu = (0, (tP1 sg cu).2) := by rw [tP2, if_neg c_22]
      refine gx_iconst (v := 0) C dX3_readMark_32 (by decide) ?_
      first
        | exact hJ3 _ _ _ hk ⟨hm3, gOut_tr ho1 (gOut_tr ho2 ho3)⟩
        | (have hz1 : (tP2 sg cu).1 = 0 := by rw [e9]
           have hz2 : (tP2 sg cu).2 = (tP1 sg cu).2 := by rw [e9]
           have x9 := hJ3 _ none none hk ⟨by rw [hz2]; exact hm2, gOut_tr ho1 ho2⟩
           rw [hz1] at x9
           exact x9)
    · refine gx_aload_n C dX3_readMark_25 rfl ?_
      refine gx_callV (ci := 2) (T := TX3) (N := 5) C (k3_readPosition l D A hs hm2 (by omega)) cb_X3_readMark__X3_readPosition gX3_readMark_X3_readPosition rfl (hG := hm2.1) rfl rfl (Nat.le_of_ble_eq_true rfl) ⟨Nat.le_refl _, Nat.le_refl _⟩ dX3_readMark_26 (gx_ki fun r_26 G_26 h_26 => ?_)
      have e9 : tP2 sg cu = tPos sg (tP1 sg cu).2 := by rw [tP2, if_pos c_22]
      obtain ⟨hr3, hm3, ho3⟩ := h_26
      subst hr3
      rw [← e9] at hm3 ⊢
      refine gx_goto (tgt := 33) C dX3_readMark_29 (by decide) ?_
      first
        | exact hJ3 _ _ _ hk ⟨hm3, gOut_tr ho1 (gOut_tr ho2 ho3)⟩
        | (have hz1 : (tP2 sg cu).1 = 0 := by rw [e9]
           have hz2 : (tP2 sg cu).2 = (tP1 sg cu).2 := by rw [e9]
           have x9 := hJ3 _ none none hk ⟨by rw [hz2]; exact hm2, gOut_tr ho1 ho2⟩
           rw [hz1] at x9
           exact x9)
  · have hkn := Int32.not_le.mp c_6
    have ew : tWhy sg ms cd tl cu = 1 := by rw [tWhy, if_pos hkn]
    refine gx_aload_n C dX3_readMark_9 rfl ?_
    refine gx_iconst (v := 1) C dX3_readMark_10 (by decide) ?_
    refine gx_put C fd_X3_readMark_30 tyX3_ok nmX3 rfl rfl rfl (hG := hm1.1) (hl := by exact Nat.le_of_ble_eq_true rfl) dX3_readMark_11 ?_
    have s9 := gMt_re 1 hm1
    refine gx_vret (mc := 0) C ?_ dX3_readMark_14
    exact ⟨rfl, ⟨_, by rw [ew, if_neg (by decide)]; exact s9, by omega, fun q => absurd q (by rw [ew]; decide)⟩, gOut_up (gOut_wd ho1 (by omega)) (by omega)⟩
set_option maxHeartbeats 600000 in
set_option maxRecDepth 100000 in
/-- X3_readFor -/
theorem k3_readFor (l : Launch) (D : gD) (A : Nat → Prop) (hs : Nat) {G : gH} {a b bcap : Nat} {sg cd ms : List Int32} {st cu re : Int32} (h : gMt D G a sg cd st cu re) (hms : gRow D G b bcap ms) (hd : b + 2 ≤ a ∨ a + 5 ≤ b) (tl : Int32) : gM l yX3_readFor wsX3_readFor (gR 7) D A hs 0 0 [.ref a, .ref b, .int tl] G (gPv fun G' => (∃ (st2 : Int32) (cu2 : Nat), gMt D G' a sg (tAll sg ms tl 80 0 []).2.1 st2 (nI cu2) (tAll sg ms tl 80 0 []).2.2 ∧ (¬ (tAll sg ms tl 80 0 []).2.2 = 0 → st2 = nI (tAll sg ms tl 80 0 []).1)) ∧ gOut a 5 G G') := by
  refine gM_intro (by decide) rfl rfl (Nat.le_of_ble_eq_true rfl) ?_
  intro p e s m args below meth c C
  have bs := gRow_le h.2.1
  have bd := gRow_le h.2.2
  have hK : ∀ (G1 : gH) (j : Nat), ¬ (tAll sg ms tl 80 0 []).2.2 = 0 → (∃ cu2 : Nat, gMt D G1 a sg (tAll sg ms tl 80 0 []).2.1 (nI (tAll sg ms tl 80 0 []).1) (nI cu2) (tAll sg ms tl 80 0 []).2.2 ∧ cu2 ≤ sg.length) → gOut a 5 G G1 → j ≤ 80 → gX p l e (gR 7) s m args below meth c D A 4 hs 0 0 (MQ below (gQ D A hs 0 (gPv fun G' => (∃ (st2 : Int32) (cu2 : Nat), gMt D G' a sg (tAll sg ms tl 80 0 []).2.1 st2 (nI cu2) (tAll sg ms tl 80 0 []).2.2 ∧ (¬ (tAll sg ms tl 80 0 []).2.2 = 0 → st2 = nI (tAll sg ms tl 80 0 []).1)) ∧ gOut a 5 G G')) args s 0 0 A) G1 [some (.ref a), some (.ref b), some (.int tl), some (.int (nI j))] 20 [] := by
    intro G1 j hne hq ho hj
    obtain ⟨cu2, hq1, hq2⟩ := hq
    refine gx_iload_n C dX3_readFor_20 rfl ?_
    refine gx_bipush (v := 80) C dX3_readFor_21 (by decide) ?_
    refine gx_icmp_ge (tgt := 67) C dX3_readFor_23 (by decide) (fun c_23 => ?_) (fun c_23 => ?_)
    · refine gx_vret (mc := 0) C ?_ dX3_readFor_67
      exact ⟨rfl, ⟨_, _, hq1, fun _ => rfl⟩, ho⟩
    · refine gx_aload_n C dX3_readFor_26 rfl ?_
      refine gx_get C fd_X3_readFor_26 (hG := hq1.1) (hv := by rfl) dX3_readFor_27 ?_
      refine gx_aload_n C dX3_readFor_30 rfl ?_
      refine gx_get C fd_X3_readFor_14 (hG := hq1.1) (hv := by rfl) dX3_readFor_31 ?_
      refine gx_callV (ci := 4) (T := TX5) (N := 2) C (k5_used l D A hs hq1.2.1) cb_X3_readFor__X5_used gX3_readFor_X5_used rfl (hG := (gRow_ob hq1.2.1)) rfl rfl (Nat.le_of_ble_eq_true rfl) ⟨Nat.le_refl _, Nat.le_refl _⟩ dX3_readFor_34 (gx_ki fun r_34 G_34 h_34 => ?_)
      obtain ⟨rfl, rfl⟩ := h_34
      refine gx_icmp_ge (tgt := 67) C dX3_readFor_37 (by decide) (fun c_37 => ?_) (fun c_37 => ?_)
      · refine gx_vret (mc := 0) C ?_ dX3_readFor_67
        exact ⟨rfl, ⟨_, _, hq1, fun _ => rfl⟩, ho⟩
      · refine gx_aload_n C dX3_readFor_40 rfl ?_
        refine gx_get C fd_X3_readFor_30 (hG := hq1.1) (hv := by rfl) dX3_readFor_41 ?_
        refine gx_if_ne (tgt := 67) C dX3_readFor_44 (by decide) (fun c_44 => ?_) (fun c_44 => ?_)
        · refine gx_vret (mc := 0) C ?_ dX3_readFor_67
          exact ⟨rfl, ⟨_, _, hq1, fun _ => rfl⟩, ho⟩
        · exact absurd c_44 hne
  have hloop : ∀ (n j : Nat) (G1 : gH) (cu : Nat) (cds : List Int32) (st1 : Int32), 80 < j + n → j ≤ 80 → gMt D G1 a sg cds st1 (nI cu) 0 ∧ gOut a 5 G G1 ∧ tAll sg ms tl 80 0 [] = tAll sg ms tl (80 - j) cu cds ∧ cu ≤ sg.length → gX p l e (gR 7) s m args below meth c D A 4 hs 0 0 (MQ below (gQ D A hs 0 (gPv fun G' => (∃ (st2 : Int32) (cu2 : Nat), gMt D G' a sg (tAll sg ms tl 80 0 []).2.1 st2 (nI cu2) (tAll sg ms tl 80 0 []).2.2 ∧ (¬ (tAll sg ms tl 80 0 []).2.2 = 0 → st2 = nI (tAll sg ms tl 80 0 []).1)) ∧ gOut a 5 G G')) args s 0 0 A) G1 [some (.ref a), some (.ref b), some (.int tl), some (.int (nI j))] 20 [] := by
    intro n
    induction n with
    | zero => intro j G1 cu cds st1 hm hj0 hI; exact absurd hm (by omega)
    | succ n ih =>
      intro j G1 cu cds st1 hm hj0 hI
      refine gx_iload_n C dX3_readFor_20 rfl ?_
      have hmr := gRow_fr hms hI.2.1 hd
      refine gx_bipush (v := 80) C dX3_readFor_21 (by decide) ?_
      refine gx_icmp_ge (tgt := 67) C dX3_readFor_23 (by decide) (fun c_23 => ?_) (fun c_23 => ?_)
      · have hj : ¬ j < 80 := fun q => nI_ge (a := j) (b := 80) q (by omega) c_23
        have e9 : tAll sg ms tl 80 0 [] = (cu, cds, 0) := by rw [hI.2.2.1, show 80 - j = 0 by omega]; rfl
        refine gx_vret (mc := 0) C ?_ dX3_readFor_67
        exact ⟨rfl, ⟨_, _, by rw [e9]; exact hI.1, fun q => absurd (by rw [e9]) q⟩, hI.2.1⟩
      · have hj : j < 80 := by
          rcases Nat.lt_or_ge j 80 with q | q
          · exact q
          · exact absurd (nI_le (a := 80) q (by omega)) c_23
        refine gx_aload_n C dX3_readFor_26 rfl ?_
        refine gx_get C fd_X3_readFor_26 (hG := hI.1.1) (hv := by rfl) dX3_readFor_27 ?_
        refine gx_aload_n C dX3_readFor_30 rfl ?_
        refine gx_get C fd_X3_readFor_14 (hG := hI.1.1) (hv := by rfl) dX3_readFor_31 ?_
        refine gx_callV (ci := 4) (T := TX5) (N := 2) C (k5_used l D A hs hI.1.2.1) cb_X3_readFor__X5_used gX3_readFor_X5_used rfl (hG := (gRow_ob hI.1.2.1)) rfl rfl (Nat.le_of_ble_eq_true rfl) ⟨Nat.le_refl _, Nat.le_refl _⟩ dX3_readFor_34 (gx_ki fun r_34 G_34 h_34 => ?_)
        obtain ⟨rfl, rfl⟩ := h_34
        refine gx_icmp_ge (tgt := 67) C dX3_readFor_37 (by decide) (fun c_37 => ?_) (fun c_37 => ?_)
        · have hc : ¬ cu < sg.length := fun q => nI_ge q (by omega) c_37
          have e9 : tAll sg ms tl 80 0 [] = (cu, cds, 0) := by rw [hI.2.2.1, show 80 - j = (79 - j) + 1 by omega, tAll, if_neg hc]
          refine gx_vret (mc := 0) C ?_ dX3_readFor_67
          exact ⟨rfl, ⟨_, _, by rw [e9]; exact hI.1, fun q => absurd (by rw [e9]) q⟩, hI.2.1⟩
        · have hc : cu < sg.length := by
            rcases Nat.lt_or_ge cu sg.length with q | q
            · exact q
            · exact absurd (nI_le q (by omega)) c_37
          refine gx_aload_n C dX3_readFor_40 rfl ?_
          refine gx_get C fd_X3_readFor_30 (hG := hI.1.1) (hv := by rfl) dX3_readFor_41 ?_
          refine gx_if_ne (tgt := 67) C dX3_readFor_44 (by decide) (fun c_44 => ?_) (fun c_44 => ?_)
          · exact absurd rfl c_44
          · refine gx_aload_n C dX3_readFor_47 rfl ?_
            refine gx_aload_n C dX3_readFor_48 rfl ?_
            refine gx_get C fd_X3_readFor_26 (hG := hI.1.1) (hv := by rfl) dX3_readFor_49 ?_
            refine gx_put C fd_X3_readFor_37 tyX3_ok nmX3 rfl rfl rfl (hG := hI.1.1) (hl := by exact Nat.le_of_ble_eq_true rfl) dX3_readFor_52 ?_
            obtain ⟨s9, o9⟩ := gMt_up2 (st' := nI cu) (cu' := nI cu) (re' := 0) hI.1
            have hmr2 := gRow_fr hmr o9 hd
            refine gx_aload_n C dX3_readFor_55 rfl ?_
            refine gx_aload_n C dX3_readFor_56 rfl ?_
            refine gx_iload_n C dX3_readFor_57 rfl ?_
            refine gx_callV (ci := 2) (T := TX3) (N := 5) C (k3_readMark l D A hs s9 (by omega) hmr2 hd tl) cb_X3_readFor__X3_readMark gX3_readFor_X3_readMark rfl (hG := s9.1) rfl rfl (Nat.le_of_ble_eq_true rfl) ⟨Nat.le_refl _, Nat.le_refl _⟩ dX3_readFor_58 (gx_kv fun G_58 h_58 => ?_)
            first | refine gx_iincN C dX3_readFor_61 rfl (by decide) ?_ | refine gx_iinc1 C dX3_readFor_61 rfl (by decide) ?_
            refine gx_goto (tgt := 20) C dX3_readFor_64 (by decide) ?_
            obtain ⟨⟨cu2, m1, m2, m3⟩, o8⟩ := h_58
            by_cases ez : tWhy sg ms cds tl cu = 0
            · rw [ez, if_pos rfl] at m1
              have e9 : tAll sg ms tl 80 0 [] = tAll sg ms tl (80 - (j + 1)) cu2 (cds ++ [tCode sg cu]) := by
                rw [hI.2.2.1, show 80 - j = (80 - (j + 1)) + 1 by omega, tAll, if_pos hc, if_pos ez, m3 ez]
              exact ih (j + 1) _ _ _ _ (by omega) (by omega) ⟨m1, gOut_tr hI.2.1 (gOut_tr o9 o8), e9, m2⟩
            · rw [if_neg ez] at m1
              have e9 : tAll sg ms tl 80 0 [] = (cu, cds, tWhy sg ms cds tl cu) := by
                rw [hI.2.2.1, show 80 - j = (79 - j) + 1 by omega, tAll, if_pos hc, if_neg ez]
              refine hK _ _ (by rw [e9]; exact ez) ⟨_, by rw [e9]; exact m1, m2⟩ (gOut_tr hI.2.1 (gOut_tr o9 o8)) (by omega)
  refine gx_aload_n C dX3_readFor_0 rfl ?_
  refine gx_get C fd_X3_readFor_20 (hG := h.1) (hv := by rfl) dX3_readFor_1 ?_
  refine gx_iconst (v := 0) C dX3_readFor_4 (by decide) ?_
  refine gx_callV (ci := 4) (T := TX5) (N := 2) C (k5_cutTo l D A hs 0 h.2.2) cb_X3_readFor__X5_cutTo gX3_readFor_X5_cutTo rfl (hG := (gRow_ob h.2.2)) rfl rfl (Nat.le_of_ble_eq_true rfl) ⟨Nat.le_refl _, Nat.le_refl _⟩ dX3_readFor_5 (gx_kv fun G_5 h_5 => ?_)
  rw [lcut_0] at h_5
  have s1 := gMt_cd h h_5.1 h_5.2
  refine gx_aload_n C dX3_readFor_8 rfl ?_
  refine gx_iconst (v := 0) C dX3_readFor_9 (by decide) ?_
  refine gx_put C fd_X3_readFor_26 tyX3_ok nmX3 rfl rfl rfl (hG := s1.1) (hl := by exact Nat.le_of_ble_eq_true rfl) dX3_readFor_10 ?_
  have s2 := gMt_up (st' := st) (cu' := nI 0) (re' := re) s1
  refine gx_aload_n C dX3_readFor_13 rfl ?_
  refine gx_iconst (v := 0) C dX3_readFor_14 (by decide) ?_
  refine gx_put C fd_X3_readFor_30 tyX3_ok nmX3 rfl rfl rfl (hG := gU_s) (hl := by exact Nat.le_of_ble_eq_true rfl) dX3_readFor_15 ?_
  have s3 := gMt_up (st' := st) (cu' := nI 0) (re' := 0) s2
  refine gx_iconst (v := 0) C dX3_readFor_18 (by decide) ?_
  refine gx_istore_n C dX3_readFor_19 (by decide) ?_
  exact hloop 81 0 _ 0 _ _ (by omega) (by omega) ⟨s3, gOut_up (gOut_up (gOut_wd h_5.2 (by omega)) (by omega)) (by omega), rfl, by omega⟩
