/-! THE PRESS -/
def pF (c : Int32) : Nat := (pFirst c).toNatClampNeg
def pS (c : Int32) : Nat := (pSecond c).toNatClampNeg
theorem p_and (x : Int32) : ∃ j : Nat, j < 256 ∧ x &&& 255 = nI j := pk_andE x (m := 255) 8 (by decide)
theorem pFirst_nI (c : Int32) : pFirst c = nI (pF c) := by
  obtain ⟨j, hj, e⟩ := p_and (c >>> ((16 : Int32) &&& 31))
  have e2 : pFirst c = nI j := e
  rw [pF, e2, nI_clamp (by omega)]
theorem pF_lt (c : Int32) : pF c < 256 := by
  obtain ⟨j, hj, e⟩ := p_and (c >>> ((16 : Int32) &&& 31))
  have e2 : pFirst c = nI j := e
  rw [pF, e2, nI_clamp (by omega)]
  exact hj
theorem pSecond_nI (c : Int32) : pSecond c = nI (pS c) := by
  obtain ⟨j, hj, e⟩ := p_and (c >>> ((8 : Int32) &&& 31))
  have e2 : pSecond c = nI j := e
  rw [pS, e2, nI_clamp (by omega)]
theorem pS_lt (c : Int32) : pS c < 256 := by
  obtain ⟨j, hj, e⟩ := p_and (c >>> ((8 : Int32) &&& 31))
  have e2 : pSecond c = nI j := e
  rw [pS, e2, nI_clamp (by omega)]
  exact hj
def pOther (c : Int32) : Int32 := if pOut c 97 122 = 0 then c - 97 + 65 else if pOut c 65 90 = 0 then c - 65 + 97 else c
def pZero (xs : List Int32) (a : Nat) : Nat → List Int32
  | 0 => xs
  | n + 1 => lset (pZero xs a n) (nI (a + n)) 0
def pRemN (xs : List Int32) (a : Nat) : Nat → List Int32
  | 0 => xs
  | n + 1 => lrem (pRemN xs a n) (nI a)
/-- what a mark sets: ahead of the places, instead of the places -/
def pArr (tx : List Int32) (w : List Int32 × List Int32) (c : Int32) : List Int32 × List Int32 :=
  if pKind c = 0 then (w.1, pZero w.2 (pF c) (pS c - pF c)) else if pKind c = 1 then (lset w.1 (nI (pF c)) (pSign c), w.2) else if pKind c = 2 then (w.1, lset w.2 (nI (pF c)) (pSign c))
  else if pKind c = 3 then (w.1, lset (lset w.2 (nI (pF c)) (lget tx (nI (pF c + 1)))) (nI (pF c + 1)) (lget tx (nI (pF c)))) else if pKind c = 4 then (w.1, lset w.2 (nI (pF c)) (pOther (lget tx (nI (pF c))))) else w
def pArrs (tx cs as : List Int32) : Nat → List Int32 × List Int32
  | 0 => (List.replicate (tx.length + 1) 0, tx)
  | n + 1 => if as.getD n 0 = 1 then pArr tx (pArrs tx cs as n) (cs.getD n 0) else pArrs tx cs as n
def pPut (xs : List Int32) (c : Int32) : List Int32 := if c = 0 then xs else lapp 164 xs c
def pPrt (w : List Int32 × List Int32) : Nat → List Int32
  | 0 => []
  | n + 1 => pPut (pPut (pPrt w n) (lget w.1 (nI n))) (lget w.2 (nI n))
def pOnce (tx cs as : List Int32) : List Int32 := lcut (pPrt (pArrs tx cs as cs.length) (tx.length + 1)) 100
def pCar (xs : List Int32) (c : Int32) : List Int32 :=
  if pKind c = 0 then pRemN xs (pF c) (pS c - pF c) else if pKind c = 1 then lins 164 xs (nI (pF c)) (pSign c) else if pKind c = 2 then lset xs (nI (pF c)) (pSign c)
  else if pKind c = 3 then lset (lset xs (nI (pF c)) (lget xs (nI (pF c + 1)))) (nI (pF c + 1)) (lget xs (nI (pF c))) else if pKind c = 4 then lset xs (nI (pF c)) (pOther (lget xs (nI (pF c)))) else xs
def pBefore (a b : Int32) : Bool := if pFirst a = pFirst b then decide (¬ pKind a = 1) && decide (pKind b = 1) else decide (pFirst b < pFirst a)
def pTo (tu : List Int32) (c : Int32) : Nat := tu.findIdx (pBefore c)
def pTurns (cs as : List Int32) : Nat → List Int32
  | 0 => []
  | n + 1 => if as.getD n 0 = 1 then (pTurns cs as n).insertIdx (pTo (pTurns cs as n) (cs.getD n 0)) (cs.getD n 0) else pTurns cs as n
def pCars (xs tu : List Int32) : Nat → List Int32
  | 0 => xs
  | n + 1 => pCar (pCars xs tu n) (tu.getD n 0)
def pTurn (tx cs as : List Int32) : List Int32 := lcut (pCars tx (pTurns cs as cs.length) (pTurns cs as cs.length).length) 100
theorem lset_n {xs : List Int32} {i v : Int32} : (lset xs i v).length = xs.length := lset_len
theorem pZero_n {xs : List Int32} {a n : Nat} : (pZero xs a n).length = xs.length := by
  induction n with
  | zero => rfl
  | succ n ih => rw [pZero, lset_len, ih]
theorem pArr_n {tx : List Int32} {w : List Int32 × List Int32} {c : Int32} : (pArr tx w c).1.length = w.1.length ∧ (pArr tx w c).2.length = w.2.length := by
  unfold pArr
  split
  · exact ⟨rfl, pZero_n⟩
  · split
    · exact ⟨lset_len, rfl⟩
    · split
      · exact ⟨rfl, lset_len⟩
      · split
        · exact ⟨rfl, by rw [lset_len, lset_len]⟩
        · split
          · exact ⟨rfl, lset_len⟩
          · exact ⟨rfl, rfl⟩
theorem pArrs_n {tx cs as : List Int32} {n : Nat} : (pArrs tx cs as n).1.length = tx.length + 1 ∧ (pArrs tx cs as n).2.length = tx.length := by
  induction n with
  | zero => exact ⟨by rw [pArrs, List.length_replicate], rfl⟩
  | succ n ih =>
    rw [pArrs]
    split
    · exact ⟨pArr_n.1.trans ih.1, pArr_n.2.trans ih.2⟩
    · exact ih
theorem pTo_le {tu : List Int32} {c : Int32} : pTo tu c ≤ tu.length := List.findIdx_le_length
theorem pTurns_n {cs as : List Int32} {n : Nat} : (pTurns cs as n).length ≤ n := by
  induction n with
  | zero => exact Nat.le_refl 0
  | succ n ih =>
    rw [pTurns]
    split
    · rw [List.length_insertIdx, if_pos pTo_le]; omega
    · omega
def gPs (D : gD) (G : gH) (a : Nat) (v : ML) : Prop := G a = some (.inr (3, [.ref (a + 1), .ref (a + 3), .ref (a + 5), .ref (a + 7)])) ∧ gRow D G (a + 1) 101 v.1 ∧ gRow D G (a + 3) 100 v.2.1 ∧ gRow D G (a + 5) 64 v.2.2.1 ∧ gRow D G (a + 7) 164 v.2.2.2
theorem gPs_0 {D : gD} {G G' : gH} {a : Nat} {v : ML} {xs : List Int32} (h : gPs D G a v) (hr : gRow D G' (a + 1) 101 xs) (ho : gOut (a + 1) 2 G G') : gPs D G' a (xs, v.2) :=
  ⟨by rw [ho a (by omega)]; exact h.1, hr, gRow_fr h.2.2.1 ho (by omega), gRow_fr h.2.2.2.1 ho (by omega), gRow_fr h.2.2.2.2 ho (by omega)⟩
theorem gPs_1 {D : gD} {G G' : gH} {a : Nat} {v : ML} {xs : List Int32} (h : gPs D G a v) (hr : gRow D G' (a + 3) 100 xs) (ho : gOut (a + 3) 2 G G') : gPs D G' a (v.1, xs, v.2.2) :=
  ⟨by rw [ho a (by omega)]; exact h.1, gRow_fr h.2.1 ho (by omega), hr, gRow_fr h.2.2.2.1 ho (by omega), gRow_fr h.2.2.2.2 ho (by omega)⟩
theorem gPs_2 {D : gD} {G G' : gH} {a : Nat} {v : ML} {xs : List Int32} (h : gPs D G a v) (hr : gRow D G' (a + 5) 64 xs) (ho : gOut (a + 5) 2 G G') : gPs D G' a (v.1, v.2.1, xs, v.2.2.2) :=
  ⟨by rw [ho a (by omega)]; exact h.1, gRow_fr h.2.1 ho (by omega), gRow_fr h.2.2.1 ho (by omega), hr, gRow_fr h.2.2.2.2 ho (by omega)⟩
theorem gPs_3 {D : gD} {G G' : gH} {a : Nat} {v : ML} {xs : List Int32} (h : gPs D G a v) (hr : gRow D G' (a + 7) 164 xs) (ho : gOut (a + 7) 2 G G') : gPs D G' a (v.1, v.2.1, v.2.2.1, xs) :=
  ⟨by rw [ho a (by omega)]; exact h.1, gRow_fr h.2.1 ho (by omega), gRow_fr h.2.2.1 ho (by omega), gRow_fr h.2.2.2.1 ho (by omega), hr⟩
theorem gPs_fr {D : gD} {G G' : gH} {a b n : Nat} {v : ML} (h : gPs D G a v) (ho : gOut b n G G') (hd : a + 9 ≤ b ∨ b + n ≤ a) : gPs D G' a v :=
  ⟨by rw [ho a (by omega)]; exact h.1, gRow_fr h.2.1 ho (by omega), gRow_fr h.2.2.1 ho (by omega), gRow_fr h.2.2.2.1 ho (by omega), gRow_fr h.2.2.2.2 ho (by omega)⟩
theorem k1_firstN (l : Launch) (D : gD) (A : Nat → Prop) (hs : Nat) {G : gH} (z : Int32) : gM l yX1_firstOf wsX1_firstOf (gR 0) D A hs 0 0 [.int z] G (gPi fun x G' => x = nI (pF z) ∧ G' = G) := by
  have := k1_firstOf l D A hs (G := G) z
  rw [pFirst_nI] at this
  exact this
theorem k1_secondN (l : Launch) (D : gD) (A : Nat → Prop) (hs : Nat) {G : gH} (z : Int32) : gM l yX1_secondOf wsX1_secondOf (gR 0) D A hs 0 0 [.int z] G (gPi fun x G' => x = nI (pS z) ∧ G' = G) := by
  have := k1_secondOf l D A hs (G := G) z
  rw [pSecond_nI] at this
  exact this
theorem gD_in {xs : List Int32} {i : Nat} (h : i < xs.length) : xs.getD i 0 = xs[i] := by
  rw [List.getD_eq_getElem?_getD, List.getElem?_eq_getElem h]
  rfl
theorem pTo_eq {tu : List Int32} {c : Int32} {j : Nat} (hj : j < tu.length) (q : pBefore c (tu.getD j 0) = true) (hI : ∀ b, b < j → ¬ pBefore c (tu.getD b 0) = true) : pTo tu c = j := by
  unfold pTo
  rw [List.findIdx_eq hj]
  refine ⟨by rw [← gD_in hj]; exact q, fun b hb => ?_⟩
  rw [← gD_in (by omega)]
  simpa using hI b hb
theorem pTo_no {tu : List Int32} {c : Int32} (hI : ∀ b, b < tu.length → ¬ pBefore c (tu.getD b 0) = true) : pTo tu c = tu.length := by
  unfold pTo
  refine List.findIdx_eq_length.mpr (fun x hx => ?_)
  obtain ⟨i, hi, e⟩ := List.getElem_of_mem hx
  have := hI i hi
  rw [gD_in hi, e] at this
  simpa using this
theorem cb_X4_otherCase__X8_isOutside : gCb yX8_isOutside cX8_isOutside 3 (some .boolean) wsX8_isOutside (gR 0) (gR 1) 0 0 3 := ⟨rfl, rfl, rfl, by decide +kernel, by decide⟩
set_option maxRecDepth 20000 in
theorem mm_X4_otherCase_iniX8 : Cond.initialized RX8 ∈ wsX4_otherCase := by decide +kernel
set_option maxRecDepth 20000 in
theorem mm_X4_otherCase_stX8_isOutside : Cond.static yX8_isOutside ∈ wsX4_otherCase := by decide +kernel
set_option maxRecDepth 20000 in
theorem in_X4_printIfAny_X4 : ∀ w ∈ wsX40, w ∈ wsX4_printIfAny := by decide +kernel
set_option maxRecDepth 20000 in
theorem fd_X4_printIfAny_26 : gFd wsX4_printIfAny RX4 26 3 RX4 TX4 4 3 := ⟨in_X4_printIfAny_X4, rfl, by decide, by decide +kernel⟩
theorem cb_X4_printIfAny__X5_append : gCb yX5_append cX5_append 2 none wsX5_append (gR 0) (gR 1) 0 0 1 := ⟨rfl, rfl, rfl, by decide +kernel, by decide⟩
theorem cb_X4_arrange__X1_secondOf : gCb yX1_secondOf cX1_secondOf 1 (some .int) wsX1_secondOf (gR 0) (gR 2) 0 0 1 := ⟨rfl, rfl, rfl, by decide +kernel, by decide⟩
set_option maxRecDepth 20000 in
theorem in_X4_arrange_X4 : ∀ w ∈ wsX40, w ∈ wsX4_arrange := by decide +kernel
set_option maxRecDepth 20000 in
theorem fd_X4_arrange_20 : gFd wsX4_arrange RX4 20 3 RX4 TX4 4 1 := ⟨in_X4_arrange_X4, rfl, by decide, by decide +kernel⟩
theorem cb_X4_arrange__X5_set : gCb yX5_set cX5_set 3 none wsX5_set (gR 1) (gR 2) 0 0 2 := ⟨rfl, rfl, rfl, by decide +kernel, by decide⟩
theorem cb_X4_arrange__X1_firstOf : gCb yX1_firstOf cX1_firstOf 1 (some .int) wsX1_firstOf (gR 0) (gR 2) 0 0 1 := ⟨rfl, rfl, rfl, by decide +kernel, by decide⟩
theorem cb_X4_arrange__X1_kindOf : gCb yX1_kindOf cX1_kindOf 1 (some .int) wsX1_kindOf (gR 0) (gR 2) 0 0 1 := ⟨rfl, rfl, rfl, by decide +kernel, by decide⟩
set_option maxRecDepth 20000 in
theorem fd_X4_arrange_14 : gFd wsX4_arrange RX4 14 3 RX4 TX4 4 0 := ⟨in_X4_arrange_X4, rfl, by decide, by decide +kernel⟩
theorem cb_X4_arrange__X1_characterOf : gCb yX1_characterOf cX1_characterOf 1 (some .int) wsX1_characterOf (gR 0) (gR 2) 0 0 1 := ⟨rfl, rfl, rfl, by decide +kernel, by decide⟩
theorem cb_X4_arrange__X5_get : gCb yX5_get cX5_get 2 (some .int) wsX5_get (gR 1) (gR 2) 0 0 1 := ⟨rfl, rfl, rfl, by decide +kernel, by decide⟩
theorem cb_X4_arrange__X4_otherCase : gCb yX4_otherCase cX4_otherCase 1 (some .int) wsX4_otherCase (gR 1) (gR 2) 0 0 1 := ⟨rfl, rfl, rfl, by decide +kernel, by decide⟩
theorem cb_X4_carryOut__X1_secondOf : gCb yX1_secondOf cX1_secondOf 1 (some .int) wsX1_secondOf (gR 0) (gR 3) 0 0 1 := ⟨rfl, rfl, rfl, by decide +kernel, by decide⟩
set_option maxRecDepth 20000 in
theorem in_X4_carryOut_X4 : ∀ w ∈ wsX40, w ∈ wsX4_carryOut := by decide +kernel
set_option maxRecDepth 20000 in
theorem fd_X4_carryOut_26 : gFd wsX4_carryOut RX4 26 3 RX4 TX4 4 3 := ⟨in_X4_carryOut_X4, rfl, by decide, by decide +kernel⟩
theorem cb_X4_carryOut__X5_remove : gCb yX5_remove cX5_remove 3 none wsX5_remove (gR 2) (gR 3) 0 0 1 := ⟨rfl, rfl, rfl, by decide +kernel, by decide⟩
theorem cb_X4_carryOut__X1_firstOf : gCb yX1_firstOf cX1_firstOf 1 (some .int) wsX1_firstOf (gR 0) (gR 3) 0 0 1 := ⟨rfl, rfl, rfl, by decide +kernel, by decide⟩
theorem cb_X4_carryOut__X1_kindOf : gCb yX1_kindOf cX1_kindOf 1 (some .int) wsX1_kindOf (gR 0) (gR 3) 0 0 1 := ⟨rfl, rfl, rfl, by decide +kernel, by decide⟩
theorem cb_X4_carryOut__X1_characterOf : gCb yX1_characterOf cX1_characterOf 1 (some .int) wsX1_characterOf (gR 0) (gR 3) 0 0 1 := ⟨rfl, rfl, rfl, by decide +kernel, by decide⟩
theorem cb_X4_carryOut__X5_insert : gCb yX5_insert cX5_insert 4 none wsX5_insert (gR 2) (gR 3) 0 0 2 := ⟨rfl, rfl, rfl, by decide +kernel, by decide⟩
theorem cb_X4_carryOut__X5_set : gCb yX5_set cX5_set 3 none wsX5_set (gR 1) (gR 3) 0 0 2 := ⟨rfl, rfl, rfl, by decide +kernel, by decide⟩
theorem cb_X4_carryOut__X5_get : gCb yX5_get cX5_get 2 (some .int) wsX5_get (gR 1) (gR 3) 0 0 1 := ⟨rfl, rfl, rfl, by decide +kernel, by decide⟩
theorem cb_X4_carryOut__X4_otherCase : gCb yX4_otherCase cX4_otherCase 1 (some .int) wsX4_otherCase (gR 1) (gR 3) 0 0 1 := ⟨rfl, rfl, rfl, by decide +kernel, by decide⟩
theorem cb_X4_goesBefore__X1_firstOf : gCb yX1_firstOf cX1_firstOf 1 (some .int) wsX1_firstOf (gR 0) (gR 1) 0 0 1 := ⟨rfl, rfl, rfl, by decide +kernel, by decide⟩
theorem cb_X4_goesBefore__X1_kindOf : gCb yX1_kindOf cX1_kindOf 1 (some .int) wsX1_kindOf (gR 0) (gR 1) 0 0 1 := ⟨rfl, rfl, rfl, by decide +kernel, by decide⟩
set_option maxRecDepth 20000 in
theorem in_X4_turnOf_X4 : ∀ w ∈ wsX40, w ∈ wsX4_turnOf := by decide +kernel
set_option maxRecDepth 20000 in
theorem fd_X4_turnOf_23 : gFd wsX4_turnOf RX4 23 3 RX4 TX4 4 2 := ⟨in_X4_turnOf_X4, rfl, by decide, by decide +kernel⟩
theorem cb_X4_turnOf__X5_used : gCb yX5_used cX5_used 1 (some .int) wsX5_used (gR 0) (gR 2) 0 0 0 := ⟨rfl, rfl, rfl, by decide +kernel, by decide⟩
theorem cb_X4_turnOf__X5_get : gCb yX5_get cX5_get 2 (some .int) wsX5_get (gR 1) (gR 2) 0 0 1 := ⟨rfl, rfl, rfl, by decide +kernel, by decide⟩
theorem cb_X4_turnOf__X4_goesBefore : gCb yX4_goesBefore cX4_goesBefore 2 (some .boolean) wsX4_goesBefore (gR 1) (gR 2) 0 0 2 := ⟨rfl, rfl, rfl, by decide +kernel, by decide⟩
set_option maxRecDepth 20000 in
theorem in_X4_printAtOnce_X4 : ∀ w ∈ wsX40, w ∈ wsX4_printAtOnce := by decide +kernel
set_option maxRecDepth 20000 in
theorem fd_X4_printAtOnce_14 : gFd wsX4_printAtOnce RX4 14 3 RX4 TX4 4 0 := ⟨in_X4_printAtOnce_X4, rfl, by decide, by decide +kernel⟩
theorem cb_X4_printAtOnce__X5_used : gCb yX5_used cX5_used 1 (some .int) wsX5_used (gR 0) (gR 3) 0 0 0 := ⟨rfl, rfl, rfl, by decide +kernel, by decide⟩
set_option maxRecDepth 20000 in
theorem fd_X4_printAtOnce_26 : gFd wsX4_printAtOnce RX4 26 3 RX4 TX4 4 3 := ⟨in_X4_printAtOnce_X4, rfl, by decide, by decide +kernel⟩
theorem cb_X4_printAtOnce__X5_cutTo : gCb yX5_cutTo cX5_cutTo 2 none wsX5_cutTo (gR 0) (gR 3) 0 0 1 := ⟨rfl, rfl, rfl, by decide +kernel, by decide⟩
theorem cb_X4_printAtOnce__X5_get : gCb yX5_get cX5_get 2 (some .int) wsX5_get (gR 1) (gR 3) 0 0 1 := ⟨rfl, rfl, rfl, by decide +kernel, by decide⟩
theorem cb_X4_printAtOnce__X4_printIfAny : gCb yX4_printIfAny cX4_printIfAny 2 none wsX4_printIfAny (gR 1) (gR 3) 0 0 1 := ⟨rfl, rfl, rfl, by decide +kernel, by decide⟩
set_option maxRecDepth 20000 in
theorem fd_X4_printAtOnce_20 : gFd wsX4_printAtOnce RX4 20 3 RX4 TX4 4 1 := ⟨in_X4_printAtOnce_X4, rfl, by decide, by decide +kernel⟩
set_option maxRecDepth 20000 in
theorem in_X4_printAtOnce_X2 : ∀ w ∈ wsX20, w ∈ wsX4_printAtOnce := by decide +kernel
set_option maxRecDepth 20000 in
theorem fd_X4_printAtOnce_41 : gFn wsX4_printAtOnce RX4 41 1 RX2 TX2 4 0 := ⟨in_X4_printAtOnce_X2, rfl, by decide, by decide +kernel⟩
set_option maxRecDepth 20000 in
theorem fd_X4_printAtOnce_46 : gFn wsX4_printAtOnce RX4 46 1 RX2 TX2 4 1 := ⟨in_X4_printAtOnce_X2, rfl, by decide, by decide +kernel⟩
theorem cb_X4_printAtOnce__X4_arrange : gCb yX4_arrange cX4_arrange 5 none wsX4_arrange (gR 2) (gR 3) 0 0 2 := ⟨rfl, rfl, rfl, by decide +kernel, by decide⟩
theorem cb_X4_printAtOnce__X5_fill : gCb yX5_fill cX5_fill 4 none wsX5_fill (gR 1) (gR 3) 0 0 2 := ⟨rfl, rfl, rfl, by decide +kernel, by decide⟩
theorem cb_X4_printAtOnce__X5_copyFrom : gCb yX5_copyFrom cX5_copyFrom 3 none wsX5_copyFrom (gR 0) (gR 3) 0 0 1 := ⟨rfl, rfl, rfl, by decide +kernel, by decide⟩
set_option maxRecDepth 20000 in
theorem in_X4_printInTurn_X4 : ∀ w ∈ wsX40, w ∈ wsX4_printInTurn := by decide +kernel
set_option maxRecDepth 20000 in
theorem fd_X4_printInTurn_23 : gFd wsX4_printInTurn RX4 23 3 RX4 TX4 4 2 := ⟨in_X4_printInTurn_X4, rfl, by decide, by decide +kernel⟩
theorem cb_X4_printInTurn__X5_used : gCb yX5_used cX5_used 1 (some .int) wsX5_used (gR 0) (gR 4) 0 0 0 := ⟨rfl, rfl, rfl, by decide +kernel, by decide⟩
set_option maxRecDepth 20000 in
theorem fd_X4_printInTurn_26 : gFd wsX4_printInTurn RX4 26 3 RX4 TX4 4 3 := ⟨in_X4_printInTurn_X4, rfl, by decide, by decide +kernel⟩
theorem cb_X4_printInTurn__X5_cutTo : gCb yX5_cutTo cX5_cutTo 2 none wsX5_cutTo (gR 0) (gR 4) 0 0 1 := ⟨rfl, rfl, rfl, by decide +kernel, by decide⟩
theorem cb_X4_printInTurn__X5_get : gCb yX5_get cX5_get 2 (some .int) wsX5_get (gR 1) (gR 4) 0 0 1 := ⟨rfl, rfl, rfl, by decide +kernel, by decide⟩
theorem cb_X4_printInTurn__X4_carryOut : gCb yX4_carryOut cX4_carryOut 4 none wsX4_carryOut (gR 3) (gR 4) 0 0 1 := ⟨rfl, rfl, rfl, by decide +kernel, by decide⟩
set_option maxRecDepth 20000 in
theorem in_X4_printInTurn_X2 : ∀ w ∈ wsX20, w ∈ wsX4_printInTurn := by decide +kernel
set_option maxRecDepth 20000 in
theorem fd_X4_printInTurn_41 : gFn wsX4_printInTurn RX4 41 1 RX2 TX2 4 0 := ⟨in_X4_printInTurn_X2, rfl, by decide, by decide +kernel⟩
theorem cb_X4_printInTurn__X5_copyFrom : gCb yX5_copyFrom cX5_copyFrom 3 none wsX5_copyFrom (gR 0) (gR 4) 0 0 1 := ⟨rfl, rfl, rfl, by decide +kernel, by decide⟩
set_option maxRecDepth 20000 in
theorem fd_X4_printInTurn_46 : gFn wsX4_printInTurn RX4 46 1 RX2 TX2 4 1 := ⟨in_X4_printInTurn_X2, rfl, by decide, by decide +kernel⟩
theorem cb_X4_printInTurn__X4_turnOf : gCb yX4_turnOf cX4_turnOf 3 (some .int) wsX4_turnOf (gR 2) (gR 4) 0 0 1 := ⟨rfl, rfl, rfl, by decide +kernel, by decide⟩
theorem cb_X4_printInTurn__X5_insert : gCb yX5_insert cX5_insert 4 none wsX5_insert (gR 2) (gR 4) 0 0 2 := ⟨rfl, rfl, rfl, by decide +kernel, by decide⟩
set_option maxHeartbeats 4000000 in
set_option maxRecDepth 100000 in
/-- X5_remove -/
theorem k5_removeNo (l : Launch) (D : gD) (A : Nat → Prop) (hs : Nat) {G : gH} {r cap : Nat} {xs : List Int32} (i : Nat) (hr : gRow D G r cap xs) (hi : ¬ i < xs.length) (hb : i < 1000) : gM l yX5_remove wsX5_remove (gR 2) D A hs 0 0 [.ref r, .int (nI i)] G (gPv fun G' => gRow D G' r cap (lrem xs (nI i)) ∧ gOut r 2 G G') := by
  refine gM_intro (by decide) rfl rfl (Nat.le_of_ble_eq_true rfl) ?_
  intro p e s m args below meth c C
  obtain ⟨f, h1, h2, h3, h4, h5⟩ := id hr
  refine gx_aload_n C dX5_remove_0 rfl ?_
  refine gx_iload_n C dX5_remove_1 rfl ?_
  refine gx_callV (ci := 4) (T := TX5) (N := 2) C (k5_hasNot l D A hs (nI i) hr) cb_X5_remove__X5_hasNot gX5_remove_X5_hasNot rfl (hG := h1) rfl rfl (Nat.le_of_ble_eq_true rfl) ⟨Nat.le_refl _, Nat.le_refl _⟩ dX5_remove_2 (gx_ki fun r_2 G_2 h_2 => ?_)
  obtain ⟨rfl, rfl⟩ := h_2
  refine gx_if_eq (tgt := 9) C dX5_remove_5 (by decide) (fun c_5 => ?_) (fun c_5 => ?_)
  · exact absurd c_5 (by rw [gIn_nI (by omega), if_neg (by simpa using hi)]; decide)
  · refine gx_vret (mc := 0) C ?_ dX5_remove_8
    exact ⟨rfl, by rw [lrem, gIn_nI (by omega), if_neg (by simpa using hi)]; exact hr, gOut_rf⟩
set_option maxHeartbeats 4000000 in
set_option maxRecDepth 100000 in
/-- X5_insert -/
theorem k5_insertNo (l : Launch) (D : gD) (A : Nat → Prop) (hs : Nat) {G : gH} {r cap : Nat} {xs : List Int32} (i : Nat) (v : Int32) (hr : gRow D G r cap xs) (hi : ¬ (i ≤ xs.length ∧ xs.length < cap)) (hb : i < 1000) : gM l yX5_insert wsX5_insert (gR 2) D A hs 0 0 [.ref r, .int (nI i), .int v] G (gPv fun G' => gRow D G' r cap (lins cap xs (nI i) v) ∧ gOut r 2 G G') := by
  refine gM_intro (by decide) rfl rfl (Nat.le_of_ble_eq_true rfl) ?_
  intro p e s m args below meth c C
  obtain ⟨f, h1, h2, h3, h4, h5⟩ := id hr
  have e : lins cap xs (nI i) v = xs := by
    rw [lins, gIn_nI (by omega), if_neg]
    simp only [Bool.and_eq_true, decide_eq_true_eq]
    omega
  refine gx_iload_n C dX5_insert_0 rfl ?_
  refine gx_if_lt (tgt := 24) C dX5_insert_1 (by decide) (fun c_1 => ?_) (fun c_1 => ?_)
  · exact absurd c_1 (nI_pos (by omega))
  · refine gx_iload_n C dX5_insert_4 rfl ?_
    refine gx_aload_n C dX5_insert_5 rfl ?_
    refine gx_get C fd_X5_insert_13 (hG := h1) (hv := by rfl) dX5_insert_6 ?_
    refine gx_icmp_gt (tgt := 24) C dX5_insert_9 (by decide) (fun c_9 => ?_) (fun c_9 => ?_)
    · refine gx_vret (mc := 0) C ?_ dX5_insert_24
      exact ⟨rfl, by rw [e]; exact hr, gOut_rf⟩
    · refine gx_aload_n C dX5_insert_12 rfl ?_
      refine gx_get C fd_X5_insert_13 (hG := h1) (hv := by rfl) dX5_insert_13 ?_
      refine gx_aload_n C dX5_insert_16 rfl ?_
      refine gx_get C fd_X5_insert_7 (hG := h1) (hv := by rfl) dX5_insert_17 ?_
      refine gx_alen (t0 := 0) C (hG := h2) (ht := by rfl) (hv := by rfl) dX5_insert_20 ?_
      refine gx_icmp_lt (tgt := 25) C dX5_insert_21 (by decide) (fun c_21 => ?_) (fun c_21 => ?_)
      · exact absurd c_21 (fun q => hi ⟨by
  rcases Nat.lt_or_ge xs.length i with y | y
  · exact absurd (nI_lt y (by omega)) c_9
  · exact y, by
  rcases Nat.lt_or_ge xs.length cap with y | y
  · exact y
  · exact absurd q (nI_nlt y (by omega))⟩)
      · refine gx_vret (mc := 0) C ?_ dX5_insert_24
        exact ⟨rfl, by rw [e]; exact hr, gOut_rf⟩
theorem k5_removeG (l : Launch) (D : gD) (A : Nat → Prop) (hs : Nat) {G : gH} {r cap : Nat} {xs : List Int32} (i : Nat) (hr : gRow D G r cap xs) (hb : i < 1000) : gM l yX5_remove wsX5_remove (gR 2) D A hs 0 0 [.ref r, .int (nI i)] G (gPv fun G' => gRow D G' r cap (lrem xs (nI i)) ∧ gOut r 2 G G') := by
  by_cases hi : i < xs.length
  · exact k5_remove l D A hs i hr hi
  · exact k5_removeNo l D A hs i hr hi hb
theorem k5_insertG (l : Launch) (D : gD) (A : Nat → Prop) (hs : Nat) {G : gH} {r cap : Nat} {xs : List Int32} (i : Nat) (v : Int32) (hr : gRow D G r cap xs) (hb : i < 1000) : gM l yX5_insert wsX5_insert (gR 2) D A hs 0 0 [.ref r, .int (nI i), .int v] G (gPv fun G' => gRow D G' r cap (lins cap xs (nI i) v) ∧ gOut r 2 G G') := by
  by_cases hi : i ≤ xs.length ∧ xs.length < cap
  · have h := k5_insert l D A hs i v hr hi.1 hi.2
    have hle := gRow_le hr
    have e : lins cap xs (nI i) v = xs.insertIdx i v := by
      rw [lins, gIn_nI (by omega), if_pos, nI_clamp (by omega)]
      simp only [Bool.and_eq_true, decide_eq_true_eq]
      omega
    rw [e]
    exact h
  · exact k5_insertNo l D A hs i v hr hi hb
set_option maxHeartbeats 4000000 in
set_option maxRecDepth 100000 in
/-- X4_otherCase -/
theorem k4_otherCase (l : Launch) (D : gD) (A : Nat → Prop) (hs : Nat) {G : gH} (z : Int32) : gM l yX4_otherCase wsX4_otherCase (gR 1) D A hs 0 0 [.int z] G (gPi fun x G' => x = pOther z ∧ G' = G) := by
  refine gM_intro (by decide) rfl rfl (Nat.le_of_ble_eq_true rfl) ?_
  intro p e s m args below meth c C
  refine gx_iload_n C dX4_otherCase_0 rfl ?_
  refine gx_bipush (v := 97) C dX4_otherCase_1 (by decide) ?_
  refine gx_bipush (v := 122) C dX4_otherCase_3 (by decide) ?_
  refine gx_callSN C (k8_isOutside l D A hs z 97 122) cb_X4_otherCase__X8_isOutside gX4_otherCase_X8_isOutside_n102 (by decide +kernel) mm_X4_otherCase_iniX8 mm_X4_otherCase_stX8_isOutside rfl rfl (Nat.le_of_ble_eq_true rfl) ⟨Nat.le_refl _, Nat.le_refl _⟩ dX4_otherCase_5 (gx_ki fun r_5 G_5 h_5 => ?_)
  obtain ⟨rfl, rfl⟩ := h_5
  refine gx_if_ne (tgt := 19) C dX4_otherCase_8 (by decide) (fun c_8 => ?_) (fun c_8 => ?_)
  · refine gx_iload_n C dX4_otherCase_19 rfl ?_
    refine gx_bipush (v := 65) C dX4_otherCase_20 (by decide) ?_
    refine gx_bipush (v := 90) C dX4_otherCase_22 (by decide) ?_
    refine gx_callSN C (k8_isOutside l D A hs z 65 90) cb_X4_otherCase__X8_isOutside gX4_otherCase_X8_isOutside_n102 (by decide +kernel) mm_X4_otherCase_iniX8 mm_X4_otherCase_stX8_isOutside rfl rfl (Nat.le_of_ble_eq_true rfl) ⟨Nat.le_refl _, Nat.le_refl _⟩ dX4_otherCase_24 (gx_ki fun r_24 G_24 h_24 => ?_)
    obtain ⟨rfl, rfl⟩ := h_24
    refine gx_if_eq (tgt := 34) C dX4_otherCase_27 (by decide) (fun c_27 => ?_) (fun c_27 => ?_)
    · refine gx_iload_n C dX4_otherCase_34 rfl ?_
      refine gx_bipush (v := 65) C dX4_otherCase_35 (by decide) ?_
      refine gx_isub C dX4_otherCase_37 ?_
      refine gx_bipush (v := 97) C dX4_otherCase_38 (by decide) ?_
      refine gx_iadd C dX4_otherCase_40 ?_
      refine gx_zret (mc := 0) C rfl ?_ dX4_otherCase_41
      exact ⟨_, rfl, by simp only [pOther, c_8, c_27, if_true, if_false], rfl⟩
    · refine gx_iload_n C dX4_otherCase_30 rfl ?_
      refine gx_goto (tgt := 41) C dX4_otherCase_31 (by decide) ?_
      refine gx_zret (mc := 0) C rfl ?_ dX4_otherCase_41
      exact ⟨_, rfl, by simp only [pOther, c_8, c_27, if_true, if_false], rfl⟩
  · refine gx_iload_n C dX4_otherCase_11 rfl ?_
    refine gx_bipush (v := 97) C dX4_otherCase_12 (by decide) ?_
    refine gx_isub C dX4_otherCase_14 ?_
    refine gx_bipush (v := 65) C dX4_otherCase_15 (by decide) ?_
    refine gx_iadd C dX4_otherCase_17 ?_
    refine gx_zret (mc := 0) C rfl ?_ dX4_otherCase_18
    exact ⟨_, rfl, by simp only [pOther, c_8, if_true, if_false], rfl⟩
set_option maxHeartbeats 4000000 in
set_option maxRecDepth 100000 in
/-- X4_printIfAny -/
theorem k4_printIfAny (l : Launch) (D : gD) (A : Nat → Prop) (hs : Nat) {G : gH} {a : Nat} {v : ML} (hp : gPs D G a v) (z : Int32) : gM l yX4_printIfAny wsX4_printIfAny (gR 1) D A hs 0 0 [.ref a, .int z] G (gPv fun G' => gPs D G' a (v.1, v.2.1, v.2.2.1, pPut v.2.2.2 z) ∧ gOut a 9 G G') := by
  refine gM_intro (by decide) rfl rfl (Nat.le_of_ble_eq_true rfl) ?_
  intro p e s m args below meth c C
  refine gx_iload_n C dX4_printIfAny_0 rfl ?_
  refine gx_if_eq (tgt := 12) C dX4_printIfAny_1 (by decide) (fun c_1 => ?_) (fun c_1 => ?_)
  · have e : pPut v.2.2.2 z = v.2.2.2 := if_pos c_1
    refine gx_vret (mc := 0) C ?_ dX4_printIfAny_12
    first
      | exact ⟨rfl, by rw [e]; exact hp, gOut_rf⟩
      | (have s9 := gPs_3 hp h_9.1 h_9.2; exact ⟨rfl, by rw [e]; exact s9, gOut_wd h_9.2 (by omega)⟩)
  · have e : pPut v.2.2.2 z = lapp 164 v.2.2.2 z := if_neg c_1
    refine gx_aload_n C dX4_printIfAny_4 rfl ?_
    refine gx_get C fd_X4_printIfAny_26 (hG := hp.1) (hv := by rfl) dX4_printIfAny_5 ?_
    refine gx_iload_n C dX4_printIfAny_8 rfl ?_
    refine gx_callV (ci := 4) (T := TX5) (N := 2) C (k5_append l D A hs z hp.2.2.2.2) cb_X4_printIfAny__X5_append gX4_printIfAny_X5_append rfl (hG := (gRow_ob hp.2.2.2.2)) rfl rfl (Nat.le_of_ble_eq_true rfl) ⟨Nat.le_refl _, Nat.le_refl _⟩ dX4_printIfAny_9 (gx_kv fun G_9 h_9 => ?_)
    refine gx_vret (mc := 0) C ?_ dX4_printIfAny_12
    first
      | exact ⟨rfl, by rw [e]; exact hp, gOut_rf⟩
      | (have s9 := gPs_3 hp h_9.1 h_9.2; exact ⟨rfl, by rw [e]; exact s9, gOut_wd h_9.2 (by omega)⟩)
set_option maxHeartbeats 4000000 in
set_option maxRecDepth 100000 in
/-- X4_arrange -/
theorem k4_arrange (l : Launch) (D : gD) (A : Nat → Prop) (hs : Nat) {G : gH} {a : Nat} {v : ML} (hp : gPs D G a v) (z : Int32) {tb tcap : Nat} {tx : List Int32} (ht : gRow D G tb tcap tx) (htd : tb + 2 ≤ a ∨ a + 9 ≤ tb) : gM l yX4_arrange wsX4_arrange (gR 2) D A hs 0 0 [.ref a, .int z, .ref tb] G (gPv fun G' => gPs D G' a ((pArr tx (v.1, v.2.1) z).1, (pArr tx (v.1, v.2.1) z).2, v.2.2) ∧ gOut a 9 G G') := by
  refine gM_intro (by decide) rfl rfl (Nat.le_of_ble_eq_true rfl) ?_
  intro p e s m args below meth c C
  have b1 := pF_lt z
  have b2 := pS_lt z
  have hloopx : pKind z = 0 → ∀ (n j : Nat) (G1 : gH), (pS z - pF z) < j + n → j ≤ (pS z - pF z) → gPs D G1 a (v.1, pZero v.2.1 (pF z) j, v.2.2) ∧ gOut a 9 G G1 → gX p l e (gR 2) s m args below meth c D A 5 hs 0 0 (MQ below (gQ D A hs 0 (gPv fun G' => gPs D G' a ((pArr tx (v.1, v.2.1) z).1, (pArr tx (v.1, v.2.1) z).2, v.2.2) ∧ gOut a 9 G G')) args s 0 0 A) G1 [some (.ref a), some (.int z), some (.ref tb), some (.int (nI (pF z))), some (.int (nI (pF z + j)))] 47 [] := by
    intro hk
    intro n
    induction n with
    | zero => intro j G1 hm hj0 hI; exact absurd hm (by omega)
    | succ n ih =>
      intro j G1 hm hj0 hI
      refine gx_iload C dX4_arrange_47 rfl ?_
      refine gx_iload_n C dX4_arrange_49 rfl ?_
      refine gx_callS C (k1_secondN l D A hs z) cb_X4_arrange__X1_secondOf gX4_arrange_X1_secondOf rfl rfl (Nat.le_of_ble_eq_true rfl) ⟨Nat.le_refl _, Nat.le_refl _⟩ dX4_arrange_50 (gx_ki fun r_50 G_50 h_50 => ?_)
      obtain ⟨rfl, rfl⟩ := h_50
      refine gx_icmp_ge (tgt := 72) C dX4_arrange_53 (by decide) (fun c_53 => ?_) (fun c_53 => ?_)
      · have hj : ¬ pF z + j < pS z := fun q => nI_ge q (by omega) c_53
        refine gx_goto (tgt := 157) C dX4_arrange_72 (by decide) ?_
        refine gx_vret (mc := 0) C ?_ dX4_arrange_157
        have e : j = pS z - pF z := by omega
        subst e
        exact ⟨rfl, by rw [pArr, if_pos hk]; exact hI.1, hI.2⟩
      · have hj : pF z + j < pS z := by
          rcases Nat.lt_or_ge (pF z + j) (pS z) with q | q
          · exact q
          · exact absurd (nI_le q (by omega)) c_53
        refine gx_aload_n C dX4_arrange_56 rfl ?_
        refine gx_get C fd_X4_arrange_20 (hG := hI.1.1) (hv := by rfl) dX4_arrange_57 ?_
        refine gx_iload C dX4_arrange_60 rfl ?_
        refine gx_iconst (v := 0) C dX4_arrange_62 (by decide) ?_
        refine gx_callV (ci := 4) (T := TX5) (N := 2) C (k5_set l D A hs (nI (pF z + j)) 0 hI.1.2.2.1) cb_X4_arrange__X5_set gX4_arrange_X5_set rfl (hG := (gRow_ob hI.1.2.2.1)) rfl rfl (Nat.le_of_ble_eq_true rfl) ⟨Nat.le_refl _, Nat.le_refl _⟩ dX4_arrange_63 (gx_kv fun G_63 h_63 => ?_)
        first | refine gx_iincN C dX4_arrange_66 rfl (by decide) ?_ | refine gx_iinc1 C dX4_arrange_66 rfl (by decide) ?_
        refine gx_goto (tgt := 47) C dX4_arrange_69 (by decide) ?_
        have s9 := gPs_1 hI.1 h_63.1 h_63.2
        exact ih (j + 1) _ (by omega) (by omega) ⟨s9, gOut_tr hI.2 (gOut_wd h_63.2 (by omega))⟩
  refine gx_iload_n C dX4_arrange_0 rfl ?_
  refine gx_callS C (k1_firstN l D A hs z) cb_X4_arrange__X1_firstOf gX4_arrange_X1_firstOf rfl rfl (Nat.le_of_ble_eq_true rfl) ⟨Nat.le_refl _, Nat.le_refl _⟩ dX4_arrange_1 (gx_ki fun r_1 G_1 h_1 => ?_)
  obtain ⟨rfl, rfl⟩ := h_1
  refine gx_istore_n C dX4_arrange_4 (by decide) ?_
  refine gx_iload_n C dX4_arrange_5 rfl ?_
  refine gx_callS C (k1_kindOf l D A hs z) cb_X4_arrange__X1_kindOf gX4_arrange_X1_kindOf rfl rfl (Nat.le_of_ble_eq_true rfl) ⟨Nat.le_refl _, Nat.le_refl _⟩ dX4_arrange_6 (gx_ki fun r_6 G_6 h_6 => ?_)
  obtain ⟨rfl, rfl⟩ := h_6
  refine gx_split 0 (fun c_9_0 => ?_) (fun c_9_0 => ?_)
  · refine gx_tableIn (off := 35) (tgt := 44) C dX4_arrange_9 (by rw [c_9_0]; decide) (by rw [c_9_0]; decide) (by rw [c_9_0]; rfl) (by decide) ?_
    refine gx_iload_n C dX4_arrange_44 rfl ?_
    refine gx_istore C dX4_arrange_45 (by decide) ?_
    exact hloopx c_9_0 (pS z - pF z + 1) 0 _ (by omega) (by omega) ⟨hp, gOut_rf⟩
  -- else
  refine gx_split 1 (fun c_9_1 => ?_) (fun c_9_1 => ?_)
  · refine gx_tableIn (off := 66) (tgt := 75) C dX4_arrange_9 (by rw [c_9_1]; decide) (by rw [c_9_1]; decide) (by rw [c_9_1]; rfl) (by decide) ?_
    have ee : pArr tx (v.1, v.2.1) z = (lset v.1 (nI (pF z)) (pSign z), v.2.1) := by rw [pArr, if_neg c_9_0, if_pos c_9_1]
    refine gx_aload_n C dX4_arrange_75 rfl ?_
    refine gx_get C fd_X4_arrange_14 (hG := hp.1) (hv := by rfl) dX4_arrange_76 ?_
    refine gx_iload_n C dX4_arrange_79 rfl ?_
    refine gx_iload_n C dX4_arrange_80 rfl ?_
    refine gx_callS C (k1_characterOf l D A hs z) cb_X4_arrange__X1_characterOf gX4_arrange_X1_characterOf rfl rfl (Nat.le_of_ble_eq_true rfl) ⟨Nat.le_refl _, Nat.le_refl _⟩ dX4_arrange_81 (gx_ki fun r_81 G_81 h_81 => ?_)
    obtain ⟨rfl, rfl⟩ := h_81
    refine gx_callV (ci := 4) (T := TX5) (N := 2) C (k5_set l D A hs (nI (pF z)) (pSign z) hp.2.1) cb_X4_arrange__X5_set gX4_arrange_X5_set rfl (hG := (gRow_ob hp.2.1)) rfl rfl (Nat.le_of_ble_eq_true rfl) ⟨Nat.le_refl _, Nat.le_refl _⟩ dX4_arrange_84 (gx_kv fun G_84 h_84 => ?_)
    refine gx_goto (tgt := 157) C dX4_arrange_87 (by decide) ?_
    refine gx_vret (mc := 0) C ?_ dX4_arrange_157
    first
      | (have s9 := gPs_0 hp h_84.1 h_84.2; exact ⟨rfl, by rw [ee]; exact s9, gOut_wd h_84.2 (by omega)⟩)
      | (have s9 := gPs_1 hp h_99.1 h_99.2; exact ⟨rfl, by rw [ee]; exact s9, gOut_wd h_99.2 (by omega)⟩)
      | (have s9 := gPs_1 s1 h_132.1 h_132.2; exact ⟨rfl, by rw [ee]; exact s9, gOut_tr (gOut_wd h_117.2 (by omega)) (gOut_wd h_132.2 (by omega))⟩)
      | (have s9 := gPs_1 hp h_151.1 h_151.2; exact ⟨rfl, by rw [ee]; exact s9, gOut_wd h_151.2 (by omega)⟩)
      | exact ⟨rfl, by rw [ee]; exact hp, gOut_rf⟩
  -- else
  refine gx_split 2 (fun c_9_2 => ?_) (fun c_9_2 => ?_)
  · refine gx_tableIn (off := 81) (tgt := 90) C dX4_arrange_9 (by rw [c_9_2]; decide) (by rw [c_9_2]; decide) (by rw [c_9_2]; rfl) (by decide) ?_
    have ee : pArr tx (v.1, v.2.1) z = (v.1, lset v.2.1 (nI (pF z)) (pSign z)) := by rw [pArr, if_neg c_9_0, if_neg c_9_1, if_pos c_9_2]
    refine gx_aload_n C dX4_arrange_90 rfl ?_
    refine gx_get C fd_X4_arrange_20 (hG := hp.1) (hv := by rfl) dX4_arrange_91 ?_
    refine gx_iload_n C dX4_arrange_94 rfl ?_
    refine gx_iload_n C dX4_arrange_95 rfl ?_
    refine gx_callS C (k1_characterOf l D A hs z) cb_X4_arrange__X1_characterOf gX4_arrange_X1_characterOf rfl rfl (Nat.le_of_ble_eq_true rfl) ⟨Nat.le_refl _, Nat.le_refl _⟩ dX4_arrange_96 (gx_ki fun r_96 G_96 h_96 => ?_)
    obtain ⟨rfl, rfl⟩ := h_96
    refine gx_callV (ci := 4) (T := TX5) (N := 2) C (k5_set l D A hs (nI (pF z)) (pSign z) hp.2.2.1) cb_X4_arrange__X5_set gX4_arrange_X5_set rfl (hG := (gRow_ob hp.2.2.1)) rfl rfl (Nat.le_of_ble_eq_true rfl) ⟨Nat.le_refl _, Nat.le_refl _⟩ dX4_arrange_99 (gx_kv fun G_99 h_99 => ?_)
    refine gx_goto (tgt := 157) C dX4_arrange_102 (by decide) ?_
    refine gx_vret (mc := 0) C ?_ dX4_arrange_157
    first
      | (have s9 := gPs_0 hp h_84.1 h_84.2; exact ⟨rfl, by rw [ee]; exact s9, gOut_wd h_84.2 (by omega)⟩)
      | (have s9 := gPs_1 hp h_99.1 h_99.2; exact ⟨rfl, by rw [ee]; exact s9, gOut_wd h_99.2 (by omega)⟩)
      | (have s9 := gPs_1 s1 h_132.1 h_132.2; exact ⟨rfl, by rw [ee]; exact s9, gOut_tr (gOut_wd h_117.2 (by omega)) (gOut_wd h_132.2 (by omega))⟩)
      | (have s9 := gPs_1 hp h_151.1 h_151.2; exact ⟨rfl, by rw [ee]; exact s9, gOut_wd h_151.2 (by omega)⟩)
      | exact ⟨rfl, by rw [ee]; exact hp, gOut_rf⟩
  -- else
  refine gx_split 3 (fun c_9_3 => ?_) (fun c_9_3 => ?_)
  · refine gx_tableIn (off := 96) (tgt := 105) C dX4_arrange_9 (by rw [c_9_3]; decide) (by rw [c_9_3]; decide) (by rw [c_9_3]; rfl) (by decide) ?_
    have ee : pArr tx (v.1, v.2.1) z = (v.1, lset (lset v.2.1 (nI (pF z)) (lget tx (nI (pF z + 1)))) (nI (pF z + 1)) (lget tx (nI (pF z)))) := by rw [pArr, if_neg c_9_0, if_neg c_9_1, if_neg c_9_2, if_pos c_9_3]
    refine gx_aload_n C dX4_arrange_105 rfl ?_
    refine gx_get C fd_X4_arrange_20 (hG := hp.1) (hv := by rfl) dX4_arrange_106 ?_
    refine gx_iload_n C dX4_arrange_109 rfl ?_
    refine gx_aload_n C dX4_arrange_110 rfl ?_
    refine gx_iload_n C dX4_arrange_111 rfl ?_
    refine gx_iconst (v := 1) C dX4_arrange_112 (by decide) ?_
    refine gx_iadd C dX4_arrange_113 ?_
    refine gx_top (nI_1 _) ?_
    refine gx_callV (ci := 4) (T := TX5) (N := 2) C (k5_get l D A hs (nI (pF z + 1)) ht) cb_X4_arrange__X5_get gX4_arrange_X5_get rfl (hG := (gRow_ob ht)) rfl rfl (Nat.le_of_ble_eq_true rfl) ⟨Nat.le_refl _, Nat.le_refl _⟩ dX4_arrange_114 (gx_ki fun r_114 G_114 h_114 => ?_)
    obtain ⟨rfl, rfl⟩ := h_114
    refine gx_callV (ci := 4) (T := TX5) (N := 2) C (k5_set l D A hs (nI (pF z)) (lget tx (nI (pF z + 1))) hp.2.2.1) cb_X4_arrange__X5_set gX4_arrange_X5_set rfl (hG := (gRow_ob hp.2.2.1)) rfl rfl (Nat.le_of_ble_eq_true rfl) ⟨Nat.le_refl _, Nat.le_refl _⟩ dX4_arrange_117 (gx_kv fun G_117 h_117 => ?_)
    have s1 := gPs_1 hp h_117.1 h_117.2
    have ht1 := gRow_fr ht h_117.2 (by omega)
    refine gx_aload_n C dX4_arrange_120 rfl ?_
    refine gx_get C fd_X4_arrange_20 (hG := s1.1) (hv := by rfl) dX4_arrange_121 ?_
    refine gx_iload_n C dX4_arrange_124 rfl ?_
    refine gx_iconst (v := 1) C dX4_arrange_125 (by decide) ?_
    refine gx_iadd C dX4_arrange_126 ?_
    refine gx_top (nI_1 _) ?_
    refine gx_aload_n C dX4_arrange_127 rfl ?_
    refine gx_iload_n C dX4_arrange_128 rfl ?_
    refine gx_callV (ci := 4) (T := TX5) (N := 2) C (k5_get l D A hs (nI (pF z)) ht1) cb_X4_arrange__X5_get gX4_arrange_X5_get rfl (hG := (gRow_ob ht1)) rfl rfl (Nat.le_of_ble_eq_true rfl) ⟨Nat.le_refl _, Nat.le_refl _⟩ dX4_arrange_129 (gx_ki fun r_129 G_129 h_129 => ?_)
    obtain ⟨rfl, rfl⟩ := h_129
    refine gx_callV (ci := 4) (T := TX5) (N := 2) C (k5_set l D A hs (nI (pF z + 1)) (lget tx (nI (pF z))) s1.2.2.1) cb_X4_arrange__X5_set gX4_arrange_X5_set rfl (hG := (gRow_ob s1.2.2.1)) rfl rfl (Nat.le_of_ble_eq_true rfl) ⟨Nat.le_refl _, Nat.le_refl _⟩ dX4_arrange_132 (gx_kv fun G_132 h_132 => ?_)
    refine gx_goto (tgt := 157) C dX4_arrange_135 (by decide) ?_
    refine gx_vret (mc := 0) C ?_ dX4_arrange_157
    first
      | (have s9 := gPs_0 hp h_84.1 h_84.2; exact ⟨rfl, by rw [ee]; exact s9, gOut_wd h_84.2 (by omega)⟩)
      | (have s9 := gPs_1 hp h_99.1 h_99.2; exact ⟨rfl, by rw [ee]; exact s9, gOut_wd h_99.2 (by omega)⟩)
      | (have s9 := gPs_1 s1 h_132.1 h_132.2; exact ⟨rfl, by rw [ee]; exact s9, gOut_tr (gOut_wd h_117.2 (by omega)) (gOut_wd h_132.2 (by omega))⟩)
      | (have s9 := gPs_1 hp h_151.1 h_151.2; exact ⟨rfl, by rw [ee]; exact s9, gOut_wd h_151.2 (by omega)⟩)
      | exact ⟨rfl, by rw [ee]; exact hp, gOut_rf⟩
  -- else
  refine gx_split 4 (fun c_9_4 => ?_) (fun c_9_4 => ?_)
  · refine gx_tableIn (off := 129) (tgt := 138) C dX4_arrange_9 (by rw [c_9_4]; decide) (by rw [c_9_4]; decide) (by rw [c_9_4]; rfl) (by decide) ?_
    have ee : pArr tx (v.1, v.2.1) z = (v.1, lset v.2.1 (nI (pF z)) (pOther (lget tx (nI (pF z))))) := by rw [pArr, if_neg c_9_0, if_neg c_9_1, if_neg c_9_2, if_neg c_9_3, if_pos c_9_4]
    refine gx_aload_n C dX4_arrange_138 rfl ?_
    refine gx_get C fd_X4_arrange_20 (hG := hp.1) (hv := by rfl) dX4_arrange_139 ?_
    refine gx_iload_n C dX4_arrange_142 rfl ?_
    refine gx_aload_n C dX4_arrange_143 rfl ?_
    refine gx_iload_n C dX4_arrange_144 rfl ?_
    refine gx_callV (ci := 4) (T := TX5) (N := 2) C (k5_get l D A hs (nI (pF z)) ht) cb_X4_arrange__X5_get gX4_arrange_X5_get rfl (hG := (gRow_ob ht)) rfl rfl (Nat.le_of_ble_eq_true rfl) ⟨Nat.le_refl _, Nat.le_refl _⟩ dX4_arrange_145 (gx_ki fun r_145 G_145 h_145 => ?_)
    obtain ⟨rfl, rfl⟩ := h_145
    refine gx_callS C (k4_otherCase l D A hs (lget tx (nI (pF z)))) cb_X4_arrange__X4_otherCase gX4_arrange_X4_otherCase rfl rfl (Nat.le_of_ble_eq_true rfl) ⟨Nat.le_refl _, Nat.le_refl _⟩ dX4_arrange_148 (gx_ki fun r_148 G_148 h_148 => ?_)
    obtain ⟨rfl, rfl⟩ := h_148
    refine gx_callV (ci := 4) (T := TX5) (N := 2) C (k5_set l D A hs (nI (pF z)) (pOther (lget tx (nI (pF z)))) hp.2.2.1) cb_X4_arrange__X5_set gX4_arrange_X5_set rfl (hG := (gRow_ob hp.2.2.1)) rfl rfl (Nat.le_of_ble_eq_true rfl) ⟨Nat.le_refl _, Nat.le_refl _⟩ dX4_arrange_151 (gx_kv fun G_151 h_151 => ?_)
    refine gx_goto (tgt := 157) C dX4_arrange_154 (by decide) ?_
    refine gx_vret (mc := 0) C ?_ dX4_arrange_157
    first
      | (have s9 := gPs_0 hp h_84.1 h_84.2; exact ⟨rfl, by rw [ee]; exact s9, gOut_wd h_84.2 (by omega)⟩)
      | (have s9 := gPs_1 hp h_99.1 h_99.2; exact ⟨rfl, by rw [ee]; exact s9, gOut_wd h_99.2 (by omega)⟩)
      | (have s9 := gPs_1 s1 h_132.1 h_132.2; exact ⟨rfl, by rw [ee]; exact s9, gOut_tr (gOut_wd h_117.2 (by omega)) (gOut_wd h_132.2 (by omega))⟩)
      | (have s9 := gPs_1 hp h_151.1 h_151.2; exact ⟨rfl, by rw [ee]; exact s9, gOut_wd h_151.2 (by omega)⟩)
      | exact ⟨rfl, by rw [ee]; exact hp, gOut_rf⟩
  -- else
  refine gx_tableOut (tgt := 157) C dX4_arrange_9 (by have q_0 := gz_ne (n := 0) (by decide) c_9_0; have q_1 := gz_ne (n := 1) (by decide) c_9_1; have q_2 := gz_ne (n := 2) (by decide) c_9_2; have q_3 := gz_ne (n := 3) (by decide) c_9_3; have q_4 := gz_ne (n := 4) (by decide) c_9_4; omega) (by decide) ?_
  have ee : pArr tx (v.1, v.2.1) z = (v.1, v.2.1) := by rw [pArr, if_neg c_9_0, if_neg c_9_1, if_neg c_9_2, if_neg c_9_3, if_neg c_9_4]
  refine gx_vret (mc := 0) C ?_ dX4_arrange_157
  first
    | (have s9 := gPs_0 hp h_84.1 h_84.2; exact ⟨rfl, by rw [ee]; exact s9, gOut_wd h_84.2 (by omega)⟩)
    | (have s9 := gPs_1 hp h_99.1 h_99.2; exact ⟨rfl, by rw [ee]; exact s9, gOut_wd h_99.2 (by omega)⟩)
    | (have s9 := gPs_1 s1 h_132.1 h_132.2; exact ⟨rfl, by rw [ee]; exact s9, gOut_tr (gOut_wd h_117.2 (by omega)) (gOut_wd h_132.2 (by omega))⟩)
    | (have s9 := gPs_1 hp h_151.1 h_151.2; exact ⟨rfl, by rw [ee]; exact s9, gOut_wd h_151.2 (by omega)⟩)
    | exact ⟨rfl, by rw [ee]; exact hp, gOut_rf⟩
set_option maxHeartbeats 4000000 in
set_option maxRecDepth 100000 in
/-- X4_carryOut -/
theorem k4_carryOut (l : Launch) (D : gD) (A : Nat → Prop) (hs : Nat) {G : gH} {a : Nat} {v : ML} (hp : gPs D G a v) (z : Int32) : gM l yX4_carryOut wsX4_carryOut (gR 3) D A hs 0 0 [.ref a, .int z] G (gPv fun G' => gPs D G' a (v.1, v.2.1, v.2.2.1, pCar v.2.2.2 z) ∧ gOut a 9 G G') := by
  refine gM_intro (by decide) rfl rfl (Nat.le_of_ble_eq_true rfl) ?_
  intro p e s m args below meth c C
  have b1 := pF_lt z
  have b2 := pS_lt z
  have hloopx : pKind z = 0 → ∀ (n j : Nat) (G1 : gH), (pS z - pF z) < j + n → j ≤ (pS z - pF z) → gPs D G1 a (v.1, v.2.1, v.2.2.1, pRemN v.2.2.2 (pF z) j) ∧ gOut a 9 G G1 → gX p l e (gR 3) s m args below meth c D A 4 hs 0 0 (MQ below (gQ D A hs 0 (gPv fun G' => gPs D G' a (v.1, v.2.1, v.2.2.1, pCar v.2.2.2 z) ∧ gOut a 9 G G')) args s 0 0 A) G1 [some (.ref a), some (.int z), some (.int (nI (pF z))), some (.int (nI (pF z + j)))] 46 [] := by
    intro hk
    intro n
    induction n with
    | zero => intro j G1 hm hj0 hI; exact absurd hm (by omega)
    | succ n ih =>
      intro j G1 hm hj0 hI
      refine gx_iload_n C dX4_carryOut_46 rfl ?_
      refine gx_iload_n C dX4_carryOut_47 rfl ?_
      refine gx_callS C (k1_secondN l D A hs z) cb_X4_carryOut__X1_secondOf gX4_carryOut_X1_secondOf rfl rfl (Nat.le_of_ble_eq_true rfl) ⟨Nat.le_refl _, Nat.le_refl _⟩ dX4_carryOut_48 (gx_ki fun r_48 G_48 h_48 => ?_)
      obtain ⟨rfl, rfl⟩ := h_48
      refine gx_icmp_ge (tgt := 68) C dX4_carryOut_51 (by decide) (fun c_51 => ?_) (fun c_51 => ?_)
      · have hj : ¬ pF z + j < pS z := fun q => nI_ge q (by omega) c_51
        refine gx_goto (tgt := 164) C dX4_carryOut_68 (by decide) ?_
        refine gx_vret (mc := 0) C ?_ dX4_carryOut_164
        have e : j = pS z - pF z := by omega
        subst e
        exact ⟨rfl, by rw [pCar, if_pos hk]; exact hI.1, hI.2⟩
      · have hj : pF z + j < pS z := by
          rcases Nat.lt_or_ge (pF z + j) (pS z) with q | q
          · exact q
          · exact absurd (nI_le q (by omega)) c_51
        refine gx_aload_n C dX4_carryOut_54 rfl ?_
        refine gx_get C fd_X4_carryOut_26 (hG := hI.1.1) (hv := by rfl) dX4_carryOut_55 ?_
        refine gx_iload_n C dX4_carryOut_58 rfl ?_
        refine gx_callV (ci := 4) (T := TX5) (N := 2) C (k5_removeG l D A hs (pF z) hI.1.2.2.2.2 (by omega)) cb_X4_carryOut__X5_remove gX4_carryOut_X5_remove rfl (hG := (gRow_ob hI.1.2.2.2.2)) rfl rfl (Nat.le_of_ble_eq_true rfl) ⟨Nat.le_refl _, Nat.le_refl _⟩ dX4_carryOut_59 (gx_kv fun G_59 h_59 => ?_)
        first | refine gx_iincN C dX4_carryOut_62 rfl (by decide) ?_ | refine gx_iinc1 C dX4_carryOut_62 rfl (by decide) ?_
        refine gx_goto (tgt := 46) C dX4_carryOut_65 (by decide) ?_
        have s9 := gPs_3 hI.1 h_59.1 h_59.2
        exact ih (j + 1) _ (by omega) (by omega) ⟨s9, gOut_tr hI.2 (gOut_wd h_59.2 (by omega))⟩
  refine gx_iload_n C dX4_carryOut_0 rfl ?_
  refine gx_callS C (k1_firstN l D A hs z) cb_X4_carryOut__X1_firstOf gX4_carryOut_X1_firstOf rfl rfl (Nat.le_of_ble_eq_true rfl) ⟨Nat.le_refl _, Nat.le_refl _⟩ dX4_carryOut_1 (gx_ki fun r_1 G_1 h_1 => ?_)
  obtain ⟨rfl, rfl⟩ := h_1
  refine gx_istore_n C dX4_carryOut_4 (by decide) ?_
  refine gx_iload_n C dX4_carryOut_5 rfl ?_
  refine gx_callS C (k1_kindOf l D A hs z) cb_X4_carryOut__X1_kindOf gX4_carryOut_X1_kindOf rfl rfl (Nat.le_of_ble_eq_true rfl) ⟨Nat.le_refl _, Nat.le_refl _⟩ dX4_carryOut_6 (gx_ki fun r_6 G_6 h_6 => ?_)
  obtain ⟨rfl, rfl⟩ := h_6
  refine gx_split 0 (fun c_9_0 => ?_) (fun c_9_0 => ?_)
  · refine gx_tableIn (off := 35) (tgt := 44) C dX4_carryOut_9 (by rw [c_9_0]; decide) (by rw [c_9_0]; decide) (by rw [c_9_0]; rfl) (by decide) ?_
    refine gx_iload_n C dX4_carryOut_44 rfl ?_
    refine gx_istore_n C dX4_carryOut_45 (by decide) ?_
    exact hloopx c_9_0 (pS z - pF z + 1) 0 _ (by omega) (by omega) ⟨hp, gOut_rf⟩
  -- else
  refine gx_split 1 (fun c_9_1 => ?_) (fun c_9_1 => ?_)
  · refine gx_tableIn (off := 62) (tgt := 71) C dX4_carryOut_9 (by rw [c_9_1]; decide) (by rw [c_9_1]; decide) (by rw [c_9_1]; rfl) (by decide) ?_
    have ee : pCar v.2.2.2 z = lins 164 v.2.2.2 (nI (pF z)) (pSign z) := by rw [pCar, if_neg c_9_0, if_pos c_9_1]
    refine gx_aload_n C dX4_carryOut_71 rfl ?_
    refine gx_get C fd_X4_carryOut_26 (hG := hp.1) (hv := by rfl) dX4_carryOut_72 ?_
    refine gx_iload_n C dX4_carryOut_75 rfl ?_
    refine gx_iload_n C dX4_carryOut_76 rfl ?_
    refine gx_callS C (k1_characterOf l D A hs z) cb_X4_carryOut__X1_characterOf gX4_carryOut_X1_characterOf rfl rfl (Nat.le_of_ble_eq_true rfl) ⟨Nat.le_refl _, Nat.le_refl _⟩ dX4_carryOut_77 (gx_ki fun r_77 G_77 h_77 => ?_)
    obtain ⟨rfl, rfl⟩ := h_77
    refine gx_callV (ci := 4) (T := TX5) (N := 2) C (k5_insertG l D A hs (pF z) (pSign z) hp.2.2.2.2 (by omega)) cb_X4_carryOut__X5_insert gX4_carryOut_X5_insert rfl (hG := (gRow_ob hp.2.2.2.2)) rfl rfl (Nat.le_of_ble_eq_true rfl) ⟨Nat.le_refl _, Nat.le_refl _⟩ dX4_carryOut_80 (gx_kv fun G_80 h_80 => ?_)
    refine gx_goto (tgt := 164) C dX4_carryOut_83 (by decide) ?_
    refine gx_vret (mc := 0) C ?_ dX4_carryOut_164
    first
      | (have s9 := gPs_3 hp h_80.1 h_80.2; exact ⟨rfl, by rw [ee]; exact s9, gOut_wd h_80.2 (by omega)⟩)
      | (have s9 := gPs_3 hp h_95.1 h_95.2; exact ⟨rfl, by rw [ee]; exact s9, gOut_wd h_95.2 (by omega)⟩)
      | (have s9 := gPs_3 s1 h_136.1 h_136.2; exact ⟨rfl, by rw [ee]; exact s9, gOut_tr (gOut_wd h_125.2 (by omega)) (gOut_wd h_136.2 (by omega))⟩)
      | (have s9 := gPs_3 hp h_158.1 h_158.2; exact ⟨rfl, by rw [ee]; exact s9, gOut_wd h_158.2 (by omega)⟩)
      | exact ⟨rfl, by rw [ee]; exact hp, gOut_rf⟩
  -- else
  refine gx_split 2 (fun c_9_2 => ?_) (fun c_9_2 => ?_)
  · refine gx_tableIn (off := 77) (tgt := 86) C dX4_carryOut_9 (by rw [c_9_2]; decide) (by rw [c_9_2]; decide) (by rw [c_9_2]; rfl) (by decide) ?_
    have ee : pCar v.2.2.2 z = lset v.2.2.2 (nI (pF z)) (pSign z) := by rw [pCar, if_neg c_9_0, if_neg c_9_1, if_pos c_9_2]
    refine gx_aload_n C dX4_carryOut_86 rfl ?_
    refine gx_get C fd_X4_carryOut_26 (hG := hp.1) (hv := by rfl) dX4_carryOut_87 ?_
    refine gx_iload_n C dX4_carryOut_90 rfl ?_
    refine gx_iload_n C dX4_carryOut_91 rfl ?_
    refine gx_callS C (k1_characterOf l D A hs z) cb_X4_carryOut__X1_characterOf gX4_carryOut_X1_characterOf rfl rfl (Nat.le_of_ble_eq_true rfl) ⟨Nat.le_refl _, Nat.le_refl _⟩ dX4_carryOut_92 (gx_ki fun r_92 G_92 h_92 => ?_)
    obtain ⟨rfl, rfl⟩ := h_92
    refine gx_callV (ci := 4) (T := TX5) (N := 2) C (k5_set l D A hs (nI (pF z)) (pSign z) hp.2.2.2.2) cb_X4_carryOut__X5_set gX4_carryOut_X5_set rfl (hG := (gRow_ob hp.2.2.2.2)) rfl rfl (Nat.le_of_ble_eq_true rfl) ⟨Nat.le_refl _, Nat.le_refl _⟩ dX4_carryOut_95 (gx_kv fun G_95 h_95 => ?_)
    refine gx_goto (tgt := 164) C dX4_carryOut_98 (by decide) ?_
    refine gx_vret (mc := 0) C ?_ dX4_carryOut_164
    first
      | (have s9 := gPs_3 hp h_80.1 h_80.2; exact ⟨rfl, by rw [ee]; exact s9, gOut_wd h_80.2 (by omega)⟩)
      | (have s9 := gPs_3 hp h_95.1 h_95.2; exact ⟨rfl, by rw [ee]; exact s9, gOut_wd h_95.2 (by omega)⟩)
      | (have s9 := gPs_3 s1 h_136.1 h_136.2; exact ⟨rfl, by rw [ee]; exact s9, gOut_tr (gOut_wd h_125.2 (by omega)) (gOut_wd h_136.2 (by omega))⟩)
      | (have s9 := gPs_3 hp h_158.1 h_158.2; exact ⟨rfl, by rw [ee]; exact s9, gOut_wd h_158.2 (by omega)⟩)
      | exact ⟨rfl, by rw [ee]; exact hp, gOut_rf⟩
  -- else
  refine gx_split 3 (fun c_9_3 => ?_) (fun c_9_3 => ?_)
  · refine gx_tableIn (off := 92) (tgt := 101) C dX4_carryOut_9 (by rw [c_9_3]; decide) (by rw [c_9_3]; decide) (by rw [c_9_3]; rfl) (by decide) ?_
    have ee : pCar v.2.2.2 z = lset (lset v.2.2.2 (nI (pF z)) (lget v.2.2.2 (nI (pF z + 1)))) (nI (pF z + 1)) (lget v.2.2.2 (nI (pF z))) := by rw [pCar, if_neg c_9_0, if_neg c_9_1, if_neg c_9_2, if_pos c_9_3]
    refine gx_aload_n C dX4_carryOut_101 rfl ?_
    refine gx_get C fd_X4_carryOut_26 (hG := hp.1) (hv := by rfl) dX4_carryOut_102 ?_
    refine gx_iload_n C dX4_carryOut_105 rfl ?_
    refine gx_callV (ci := 4) (T := TX5) (N := 2) C (k5_get l D A hs (nI (pF z)) hp.2.2.2.2) cb_X4_carryOut__X5_get gX4_carryOut_X5_get rfl (hG := (gRow_ob hp.2.2.2.2)) rfl rfl (Nat.le_of_ble_eq_true rfl) ⟨Nat.le_refl _, Nat.le_refl _⟩ dX4_carryOut_106 (gx_ki fun r_106 G_106 h_106 => ?_)
    obtain ⟨rfl, rfl⟩ := h_106
    refine gx_istore_n C dX4_carryOut_109 (by decide) ?_
    refine gx_aload_n C dX4_carryOut_110 rfl ?_
    refine gx_get C fd_X4_carryOut_26 (hG := hp.1) (hv := by rfl) dX4_carryOut_111 ?_
    refine gx_iload_n C dX4_carryOut_114 rfl ?_
    refine gx_aload_n C dX4_carryOut_115 rfl ?_
    refine gx_get C fd_X4_carryOut_26 (hG := hp.1) (hv := by rfl) dX4_carryOut_116 ?_
    refine gx_iload_n C dX4_carryOut_119 rfl ?_
    refine gx_iconst (v := 1) C dX4_carryOut_120 (by decide) ?_
    refine gx_iadd C dX4_carryOut_121 ?_
    refine gx_top (nI_1 _) ?_
    refine gx_callV (ci := 4) (T := TX5) (N := 2) C (k5_get l D A hs (nI (pF z + 1)) hp.2.2.2.2) cb_X4_carryOut__X5_get gX4_carryOut_X5_get rfl (hG := (gRow_ob hp.2.2.2.2)) rfl rfl (Nat.le_of_ble_eq_true rfl) ⟨Nat.le_refl _, Nat.le_refl _⟩ dX4_carryOut_122 (gx_ki fun r_122 G_122 h_122 => ?_)
    obtain ⟨rfl, rfl⟩ := h_122
    refine gx_callV (ci := 4) (T := TX5) (N := 2) C (k5_set l D A hs (nI (pF z)) (lget v.2.2.2 (nI (pF z + 1))) hp.2.2.2.2) cb_X4_carryOut__X5_set gX4_carryOut_X5_set rfl (hG := (gRow_ob hp.2.2.2.2)) rfl rfl (Nat.le_of_ble_eq_true rfl) ⟨Nat.le_refl _, Nat.le_refl _⟩ dX4_carryOut_125 (gx_kv fun G_125 h_125 => ?_)
    have s1 := gPs_3 hp h_125.1 h_125.2
    refine gx_aload_n C dX4_carryOut_128 rfl ?_
    refine gx_get C fd_X4_carryOut_26 (hG := s1.1) (hv := by rfl) dX4_carryOut_129 ?_
    refine gx_iload_n C dX4_carryOut_132 rfl ?_
    refine gx_iconst (v := 1) C dX4_carryOut_133 (by decide) ?_
    refine gx_iadd C dX4_carryOut_134 ?_
    refine gx_top (nI_1 _) ?_
    refine gx_iload_n C dX4_carryOut_135 rfl ?_
    refine gx_callV (ci := 4) (T := TX5) (N := 2) C (k5_set l D A hs (nI (pF z + 1)) (lget v.2.2.2 (nI (pF z))) s1.2.2.2.2) cb_X4_carryOut__X5_set gX4_carryOut_X5_set rfl (hG := (gRow_ob s1.2.2.2.2)) rfl rfl (Nat.le_of_ble_eq_true rfl) ⟨Nat.le_refl _, Nat.le_refl _⟩ dX4_carryOut_136 (gx_kv fun G_136 h_136 => ?_)
    refine gx_goto (tgt := 164) C dX4_carryOut_139 (by decide) ?_
    refine gx_vret (mc := 0) C ?_ dX4_carryOut_164
    first
      | (have s9 := gPs_3 hp h_80.1 h_80.2; exact ⟨rfl, by rw [ee]; exact s9, gOut_wd h_80.2 (by omega)⟩)
      | (have s9 := gPs_3 hp h_95.1 h_95.2; exact ⟨rfl, by rw [ee]; exact s9, gOut_wd h_95.2 (by omega)⟩)
      | (have s9 := gPs_3 s1 h_136.1 h_136.2; exact ⟨rfl, by rw [ee]; exact s9, gOut_tr (gOut_wd h_125.2 (by omega)) (gOut_wd h_136.2 (by omega))⟩)
      | (have s9 := gPs_3 hp h_158.1 h_158.2; exact ⟨rfl, by rw [ee]; exact s9, gOut_wd h_158.2 (by omega)⟩)
      | exact ⟨rfl, by rw [ee]; exact hp, gOut_rf⟩
  -- else
  refine gx_split 4 (fun c_9_4 => ?_) (fun c_9_4 => ?_)
  · refine gx_tableIn (off := 133) (tgt := 142) C dX4_carryOut_9 (by rw [c_9_4]; decide) (by rw [c_9_4]; decide) (by rw [c_9_4]; rfl) (by decide) ?_
    have ee : pCar v.2.2.2 z = lset v.2.2.2 (nI (pF z)) (pOther (lget v.2.2.2 (nI (pF z)))) := by rw [pCar, if_neg c_9_0, if_neg c_9_1, if_neg c_9_2, if_neg c_9_3, if_pos c_9_4]
    refine gx_aload_n C dX4_carryOut_142 rfl ?_
    refine gx_get C fd_X4_carryOut_26 (hG := hp.1) (hv := by rfl) dX4_carryOut_143 ?_
    refine gx_iload_n C dX4_carryOut_146 rfl ?_
    refine gx_aload_n C dX4_carryOut_147 rfl ?_
    refine gx_get C fd_X4_carryOut_26 (hG := hp.1) (hv := by rfl) dX4_carryOut_148 ?_
    refine gx_iload_n C dX4_carryOut_151 rfl ?_
    refine gx_callV (ci := 4) (T := TX5) (N := 2) C (k5_get l D A hs (nI (pF z)) hp.2.2.2.2) cb_X4_carryOut__X5_get gX4_carryOut_X5_get rfl (hG := (gRow_ob hp.2.2.2.2)) rfl rfl (Nat.le_of_ble_eq_true rfl) ⟨Nat.le_refl _, Nat.le_refl _⟩ dX4_carryOut_152 (gx_ki fun r_152 G_152 h_152 => ?_)
    obtain ⟨rfl, rfl⟩ := h_152
    refine gx_callS C (k4_otherCase l D A hs (lget v.2.2.2 (nI (pF z)))) cb_X4_carryOut__X4_otherCase gX4_carryOut_X4_otherCase rfl rfl (Nat.le_of_ble_eq_true rfl) ⟨Nat.le_refl _, Nat.le_refl _⟩ dX4_carryOut_155 (gx_ki fun r_155 G_155 h_155 => ?_)
    obtain ⟨rfl, rfl⟩ := h_155
    refine gx_callV (ci := 4) (T := TX5) (N := 2) C (k5_set l D A hs (nI (pF z)) (pOther (lget v.2.2.2 (nI (pF z)))) hp.2.2.2.2) cb_X4_carryOut__X5_set gX4_carryOut_X5_set rfl (hG := (gRow_ob hp.2.2.2.2)) rfl rfl (Nat.le_of_ble_eq_true rfl) ⟨Nat.le_refl _, Nat.le_refl _⟩ dX4_carryOut_158 (gx_kv fun G_158 h_158 => ?_)
    refine gx_goto (tgt := 164) C dX4_carryOut_161 (by decide) ?_
    refine gx_vret (mc := 0) C ?_ dX4_carryOut_164
    first
      | (have s9 := gPs_3 hp h_80.1 h_80.2; exact ⟨rfl, by rw [ee]; exact s9, gOut_wd h_80.2 (by omega)⟩)
      | (have s9 := gPs_3 hp h_95.1 h_95.2; exact ⟨rfl, by rw [ee]; exact s9, gOut_wd h_95.2 (by omega)⟩)
      | (have s9 := gPs_3 s1 h_136.1 h_136.2; exact ⟨rfl, by rw [ee]; exact s9, gOut_tr (gOut_wd h_125.2 (by omega)) (gOut_wd h_136.2 (by omega))⟩)
      | (have s9 := gPs_3 hp h_158.1 h_158.2; exact ⟨rfl, by rw [ee]; exact s9, gOut_wd h_158.2 (by omega)⟩)
      | exact ⟨rfl, by rw [ee]; exact hp, gOut_rf⟩
  -- else
  refine gx_tableOut (tgt := 164) C dX4_carryOut_9 (by have q_0 := gz_ne (n := 0) (by decide) c_9_0; have q_1 := gz_ne (n := 1) (by decide) c_9_1; have q_2 := gz_ne (n := 2) (by decide) c_9_2; have q_3 := gz_ne (n := 3) (by decide) c_9_3; have q_4 := gz_ne (n := 4) (by decide) c_9_4; omega) (by decide) ?_
  have ee : pCar v.2.2.2 z = v.2.2.2 := by rw [pCar, if_neg c_9_0, if_neg c_9_1, if_neg c_9_2, if_neg c_9_3, if_neg c_9_4]
  refine gx_vret (mc := 0) C ?_ dX4_carryOut_164
  first
    | (have s9 := gPs_3 hp h_80.1 h_80.2; exact ⟨rfl, by rw [ee]; exact s9, gOut_wd h_80.2 (by omega)⟩)
    | (have s9 := gPs_3 hp h_95.1 h_95.2; exact ⟨rfl, by rw [ee]; exact s9, gOut_wd h_95.2 (by omega)⟩)
    | (have s9 := gPs_3 s1 h_136.1 h_136.2; exact ⟨rfl, by rw [ee]; exact s9, gOut_tr (gOut_wd h_125.2 (by omega)) (gOut_wd h_136.2 (by omega))⟩)
    | (have s9 := gPs_3 hp h_158.1 h_158.2; exact ⟨rfl, by rw [ee]; exact s9, gOut_wd h_158.2 (by omega)⟩)
    | exact ⟨rfl, by rw [ee]; exact hp, gOut_rf⟩
set_option maxHeartbeats 4000000 in
set_option maxRecDepth 100000 in
/-- X4_goesBefore -/
theorem k4_goesBefore (l : Launch) (D : gD) (A : Nat → Prop) (hs : Nat) {G : gH} (z w : Int32) : gM l yX4_goesBefore wsX4_goesBefore (gR 1) D A hs 0 0 [.int z, .int w] G (gPi fun x G' => x = (if pBefore z w then 1 else 0) ∧ G' = G) := by
  refine gM_intro (by decide) rfl rfl (Nat.le_of_ble_eq_true rfl) ?_
  intro p e s m args below meth c C
  refine gx_iload_n C dX4_goesBefore_0 rfl ?_
  refine gx_callS C (k1_firstOf l D A hs z) cb_X4_goesBefore__X1_firstOf gX4_goesBefore_X1_firstOf rfl rfl (Nat.le_of_ble_eq_true rfl) ⟨Nat.le_refl _, Nat.le_refl _⟩ dX4_goesBefore_1 (gx_ki fun r_1 G_1 h_1 => ?_)
  obtain ⟨rfl, rfl⟩ := h_1
  refine gx_iload_n C dX4_goesBefore_4 rfl ?_
  refine gx_callS C (k1_firstOf l D A hs w) cb_X4_goesBefore__X1_firstOf gX4_goesBefore_X1_firstOf rfl rfl (Nat.le_of_ble_eq_true rfl) ⟨Nat.le_refl _, Nat.le_refl _⟩ dX4_goesBefore_5 (gx_ki fun r_5 G_5 h_5 => ?_)
  obtain ⟨rfl, rfl⟩ := h_5
  refine gx_icmp_eq (tgt := 28) C dX4_goesBefore_8 (by decide) (fun c_8 => ?_) (fun c_8 => ?_)
  · refine gx_iload_n C dX4_goesBefore_28 rfl ?_
    refine gx_callS C (k1_kindOf l D A hs z) cb_X4_goesBefore__X1_kindOf gX4_goesBefore_X1_kindOf rfl rfl (Nat.le_of_ble_eq_true rfl) ⟨Nat.le_refl _, Nat.le_refl _⟩ dX4_goesBefore_29 (gx_ki fun r_29 G_29 h_29 => ?_)
    obtain ⟨rfl, rfl⟩ := h_29
    refine gx_iconst (v := 1) C dX4_goesBefore_32 (by decide) ?_
    refine gx_icmp_eq (tgt := 48) C dX4_goesBefore_33 (by decide) (fun c_33 => ?_) (fun c_33 => ?_)
    · refine gx_iconst (v := 0) C dX4_goesBefore_48 (by decide) ?_
      refine gx_zret (mc := 0) C rfl ?_ dX4_goesBefore_49
      first
        | exact ⟨_, rfl, by rw [pBefore, if_pos c_8]; simp [c_8, c_33], rfl⟩
        | exact ⟨_, rfl, by rw [pBefore, if_neg c_8, if_pos (by simp only [decide_eq_true_eq]; exact Int32.not_le.mp c_19)], rfl⟩
        | exact ⟨_, rfl, by rw [pBefore, if_neg c_8, if_neg (by simp only [decide_eq_true_eq]; exact Int32.not_lt.mpr c_19)], rfl⟩
    · refine gx_iload_n C dX4_goesBefore_36 rfl ?_
      refine gx_callS C (k1_kindOf l D A hs w) cb_X4_goesBefore__X1_kindOf gX4_goesBefore_X1_kindOf rfl rfl (Nat.le_of_ble_eq_true rfl) ⟨Nat.le_refl _, Nat.le_refl _⟩ dX4_goesBefore_37 (gx_ki fun r_37 G_37 h_37 => ?_)
      obtain ⟨rfl, rfl⟩ := h_37
      refine gx_iconst (v := 1) C dX4_goesBefore_40 (by decide) ?_
      refine gx_icmp_ne (tgt := 48) C dX4_goesBefore_41 (by decide) (fun c_41 => ?_) (fun c_41 => ?_)
      · refine gx_iconst (v := 0) C dX4_goesBefore_48 (by decide) ?_
        refine gx_zret (mc := 0) C rfl ?_ dX4_goesBefore_49
        first
          | exact ⟨_, rfl, by rw [pBefore, if_pos c_8]; simp [c_8, c_33, c_41], rfl⟩
          | exact ⟨_, rfl, by rw [pBefore, if_neg c_8, if_pos (by simp only [decide_eq_true_eq]; exact Int32.not_le.mp c_19)], rfl⟩
          | exact ⟨_, rfl, by rw [pBefore, if_neg c_8, if_neg (by simp only [decide_eq_true_eq]; exact Int32.not_lt.mpr c_19)], rfl⟩
      · refine gx_iconst (v := 1) C dX4_goesBefore_44 (by decide) ?_
        refine gx_goto (tgt := 49) C dX4_goesBefore_45 (by decide) ?_
        refine gx_zret (mc := 0) C rfl ?_ dX4_goesBefore_49
        first
          | exact ⟨_, rfl, by rw [pBefore, if_pos c_8]; simp [c_8, c_33, c_41], rfl⟩
          | exact ⟨_, rfl, by rw [pBefore, if_neg c_8, if_pos (by simp only [decide_eq_true_eq]; exact Int32.not_le.mp c_19)], rfl⟩
          | exact ⟨_, rfl, by rw [pBefore, if_neg c_8, if_neg (by simp only [decide_eq_true_eq]; exact Int32.not_lt.mpr c_19)], rfl⟩
  · refine gx_iload_n C dX4_goesBefore_11 rfl ?_
    refine gx_callS C (k1_firstOf l D A hs z) cb_X4_goesBefore__X1_firstOf gX4_goesBefore_X1_firstOf rfl rfl (Nat.le_of_ble_eq_true rfl) ⟨Nat.le_refl _, Nat.le_refl _⟩ dX4_goesBefore_12 (gx_ki fun r_12 G_12 h_12 => ?_)
    obtain ⟨rfl, rfl⟩ := h_12
    refine gx_iload_n C dX4_goesBefore_15 rfl ?_
    refine gx_callS C (k1_firstOf l D A hs w) cb_X4_goesBefore__X1_firstOf gX4_goesBefore_X1_firstOf rfl rfl (Nat.le_of_ble_eq_true rfl) ⟨Nat.le_refl _, Nat.le_refl _⟩ dX4_goesBefore_16 (gx_ki fun r_16 G_16 h_16 => ?_)
    obtain ⟨rfl, rfl⟩ := h_16
    refine gx_icmp_le (tgt := 26) C dX4_goesBefore_19 (by decide) (fun c_19 => ?_) (fun c_19 => ?_)
    · refine gx_iconst (v := 0) C dX4_goesBefore_26 (by decide) ?_
      refine gx_zret (mc := 0) C rfl ?_ dX4_goesBefore_27
      first
        | exact ⟨_, rfl, by rw [pBefore, if_pos c_8]; simp [c_8, c_19], rfl⟩
        | exact ⟨_, rfl, by rw [pBefore, if_neg c_8, if_pos (by simp only [decide_eq_true_eq]; exact Int32.not_le.mp c_19)], rfl⟩
        | exact ⟨_, rfl, by rw [pBefore, if_neg c_8, if_neg (by simp only [decide_eq_true_eq]; exact Int32.not_lt.mpr c_19)], rfl⟩
    · refine gx_iconst (v := 1) C dX4_goesBefore_22 (by decide) ?_
      refine gx_goto (tgt := 27) C dX4_goesBefore_23 (by decide) ?_
      refine gx_zret (mc := 0) C rfl ?_ dX4_goesBefore_27
      first
        | exact ⟨_, rfl, by rw [pBefore, if_pos c_8]; simp [c_8, c_19], rfl⟩
        | exact ⟨_, rfl, by rw [pBefore, if_neg c_8, if_pos (by simp only [decide_eq_true_eq]; exact Int32.not_le.mp c_19)], rfl⟩
        | exact ⟨_, rfl, by rw [pBefore, if_neg c_8, if_neg (by simp only [decide_eq_true_eq]; exact Int32.not_lt.mpr c_19)], rfl⟩
set_option maxHeartbeats 4000000 in
set_option maxRecDepth 100000 in
/-- X4_turnOf -/
theorem k4_turnOf (l : Launch) (D : gD) (A : Nat → Prop) (hs : Nat) {G : gH} {a : Nat} {v : ML} (hp : gPs D G a v) (z : Int32) : gM l yX4_turnOf wsX4_turnOf (gR 2) D A hs 0 0 [.ref a, .int z] G (gPi fun x G' => x = nI (pTo v.2.2.1 z) ∧ G' = G) := by
  refine gM_intro (by decide) rfl rfl (Nat.le_of_ble_eq_true rfl) ?_
  intro p e s m args below meth c C
  have bt := gRow_le hp.2.2.2.1
  have hloop : ∀ (n j : Nat) , v.2.2.1.length < j + n → j ≤ v.2.2.1.length → (∀ b, b < j → ¬ pBefore z (v.2.2.1.getD b 0) = true) → gX p l e (gR 2) s m args below meth c D A 3 hs 0 0 (MQ below (gQ D A hs 0 (gPi fun x G' => x = nI (pTo v.2.2.1 z) ∧ G' = G)) args s 0 0 A) G [some (.ref a), some (.int z), some (.int (nI j))] 2 [] := by
    intro n
    induction n with
    | zero => intro j hm hj0 hI; exact absurd hm (by omega)
    | succ n ih =>
      intro j hm hj0 hI
      refine gx_iload_n C dX4_turnOf_2 rfl ?_
      refine gx_aload_n C dX4_turnOf_3 rfl ?_
      refine gx_get C fd_X4_turnOf_23 (hG := hp.1) (hv := by rfl) dX4_turnOf_4 ?_
      refine gx_callV (ci := 4) (T := TX5) (N := 2) C (k5_used l D A hs hp.2.2.2.1) cb_X4_turnOf__X5_used gX4_turnOf_X5_used rfl (hG := (gRow_ob hp.2.2.2.1)) rfl rfl (Nat.le_of_ble_eq_true rfl) ⟨Nat.le_refl _, Nat.le_refl _⟩ dX4_turnOf_7 (gx_ki fun r_7 G_7 h_7 => ?_)
      obtain ⟨rfl, rfl⟩ := h_7
      refine gx_icmp_ge (tgt := 36) C dX4_turnOf_10 (by decide) (fun c_10 => ?_) (fun c_10 => ?_)
      · have hj : ¬ j < v.2.2.1.length := fun q => nI_ge q (by omega) c_10
        refine gx_aload_n C dX4_turnOf_36 rfl ?_
        refine gx_get C fd_X4_turnOf_23 (hG := hp.1) (hv := by rfl) dX4_turnOf_37 ?_
        refine gx_callV (ci := 4) (T := TX5) (N := 2) C (k5_used l D A hs hp.2.2.2.1) cb_X4_turnOf__X5_used gX4_turnOf_X5_used rfl (hG := (gRow_ob hp.2.2.2.1)) rfl rfl (Nat.le_of_ble_eq_true rfl) ⟨Nat.le_refl _, Nat.le_refl _⟩ dX4_turnOf_40 (gx_ki fun r_40 G_40 h_40 => ?_)
        obtain ⟨rfl, rfl⟩ := h_40
        refine gx_zret (mc := 0) C rfl ?_ dX4_turnOf_43
        exact ⟨_, rfl, by rw [pTo_no (fun b hb => hI b (by omega))], rfl⟩
      · have hj : j < v.2.2.1.length := by
          rcases Nat.lt_or_ge (j) (v.2.2.1.length) with q | q
          · exact q
          · exact absurd (nI_le q (by omega)) c_10
        refine gx_iload_n C dX4_turnOf_13 rfl ?_
        refine gx_aload_n C dX4_turnOf_14 rfl ?_
        refine gx_get C fd_X4_turnOf_23 (hG := hp.1) (hv := by rfl) dX4_turnOf_15 ?_
        refine gx_iload_n C dX4_turnOf_18 rfl ?_
        refine gx_callV (ci := 4) (T := TX5) (N := 2) C (k5_get l D A hs (nI j) hp.2.2.2.1) cb_X4_turnOf__X5_get gX4_turnOf_X5_get rfl (hG := (gRow_ob hp.2.2.2.1)) rfl rfl (Nat.le_of_ble_eq_true rfl) ⟨Nat.le_refl _, Nat.le_refl _⟩ dX4_turnOf_19 (gx_ki fun r_19 G_19 h_19 => ?_)
        obtain ⟨rfl, rfl⟩ := h_19
        refine gx_callS C (k4_goesBefore l D A hs z (lget v.2.2.1 (nI j))) cb_X4_turnOf__X4_goesBefore gX4_turnOf_X4_goesBefore rfl rfl (Nat.le_of_ble_eq_true rfl) ⟨Nat.le_refl _, Nat.le_refl _⟩ dX4_turnOf_22 (gx_ki fun r_22 G_22 h_22 => ?_)
        obtain ⟨rfl, rfl⟩ := h_22
        refine gx_if_eq (tgt := 30) C dX4_turnOf_25 (by decide) (fun c_25 => ?_) (fun c_25 => ?_)
        · rw [lget_nI (by omega)] at c_25
          have q : ¬ pBefore z (v.2.2.1.getD j 0) = true := fun q => by
            rw [if_pos q] at c_25; exact absurd c_25 (by decide)
          first | refine gx_iincN C dX4_turnOf_30 rfl (by decide) ?_ | refine gx_iinc1 C dX4_turnOf_30 rfl (by decide) ?_
          refine gx_goto (tgt := 2) C dX4_turnOf_33 (by decide) ?_
          exact ih (j + 1) (by omega) (by omega) (fun b hb => by
            by_cases y : b = j
            · subst y; exact q
            · exact hI b (by omega))
        · rw [lget_nI (by omega)] at c_25
          have q : pBefore z (v.2.2.1.getD j 0) = true := by
            by_cases q : pBefore z (v.2.2.1.getD j 0) = true
            · exact q
            · rw [if_neg q] at c_25; exact absurd rfl c_25
          refine gx_iload_n C dX4_turnOf_28 rfl ?_
          refine gx_zret (mc := 0) C rfl ?_ dX4_turnOf_29
          exact ⟨_, rfl, by rw [pTo_eq hj q hI], rfl⟩
  refine gx_iconst (v := 0) C dX4_turnOf_0 (by decide) ?_
  refine gx_istore_n C dX4_turnOf_1 (by decide) ?_
  exact hloop (v.2.2.1.length + 1) 0 (by omega) (by omega) (fun b hb => absurd hb (by omega))
set_option maxHeartbeats 4000000 in
set_option maxRecDepth 100000 in
/-- X4_printAtOnce -/
theorem k4_printAtOnce (l : Launch) (D : gD) (A : Nat → Prop) (hs : Nat) {G : gH} {a b tb tcap : Nat} {v : ML} {tx cs as ns ls : List Int32} (hp : gPs D G a v) (ht : gRow D G tb tcap tx) (hl : gList D G b (cs, as, ns, ls)) (htd : tb + 2 ≤ a ∨ a + 9 ≤ tb) (hbd : b + 9 ≤ a ∨ a + 9 ≤ b) (h100 : tx.length ≤ 100) : gM l yX4_printAtOnce wsX4_printAtOnce (gR 3) D A hs 0 0 [.ref a, .ref tb, .ref b] G (gPr fun w G' => w = .ref (a + 7) ∧ (∃ ah ins, gPs D G' a (ah, ins, v.2.2.1, pOnce tx cs as)) ∧ gOut a 9 G G') := by
  refine gM_intro (by decide) rfl rfl (Nat.le_of_ble_eq_true rfl) ?_
  intro p e s m args below meth c C
  have bc := gRow_le hl.2.1
  have bc1 : cs.length ≤ 64 := bc.1
  have hloop2 : ∀ (n j : Nat) (G1 : gH), (tx.length + 1) < j + n → j ≤ (tx.length + 1) → gPs D G1 a ((pArrs tx cs as cs.length).1, (pArrs tx cs as cs.length).2, v.2.2.1, pPrt (pArrs tx cs as cs.length) j) ∧ gOut a 9 G G1 → gX p l e (gR 3) s m args below meth c D A 4 hs 0 0 (MQ below (gQ D A hs 0 (gPr fun w G' => w = .ref (a + 7) ∧ (∃ ah ins, gPs D G' a (ah, ins, v.2.2.1, pOnce tx cs as)) ∧ gOut a 9 G G')) args s 0 0 A) G1 [some (.ref a), some (.ref tb), some (.ref b), some (.int (nI j))] 76 [] := by
    intro n
    induction n with
    | zero => intro j G1 hm hj0 hI; exact absurd hm (by omega)
    | succ n ih =>
      intro j G1 hm hj0 hI
      refine gx_iload_n C dX4_printAtOnce_76 rfl ?_
      have en := pArrs_n (tx := tx) (cs := cs) (as := as) (n := cs.length)
      refine gx_aload_n C dX4_printAtOnce_77 rfl ?_
      refine gx_get C fd_X4_printAtOnce_14 (hG := hI.1.1) (hv := by rfl) dX4_printAtOnce_78 ?_
      refine gx_callV (ci := 4) (T := TX5) (N := 2) C (k5_used l D A hs hI.1.2.1) cb_X4_printAtOnce__X5_used gX4_printAtOnce_X5_used rfl (hG := (gRow_ob hI.1.2.1)) rfl rfl (Nat.le_of_ble_eq_true rfl) ⟨Nat.le_refl _, Nat.le_refl _⟩ dX4_printAtOnce_81 (gx_ki fun r_81 G_81 h_81 => ?_)
      obtain ⟨rfl, rfl⟩ := h_81
      refine gx_icmp_ge (tgt := 117) C dX4_printAtOnce_84 (by decide) (fun c_84 => ?_) (fun c_84 => ?_)
      · rw [en.1] at c_84
        have hj : ¬ j < tx.length + 1 := fun q => nI_ge q (by omega) c_84
        have ej : j = tx.length + 1 := by omega
        subst ej
        refine gx_aload_n C dX4_printAtOnce_117 rfl ?_
        refine gx_get C fd_X4_printAtOnce_26 (hG := hI.1.1) (hv := by rfl) dX4_printAtOnce_118 ?_
        refine gx_bipush (v := 100) C dX4_printAtOnce_121 (by decide) ?_
        refine gx_callV (ci := 4) (T := TX5) (N := 2) C (k5_cutTo l D A hs 100 hI.1.2.2.2.2) cb_X4_printAtOnce__X5_cutTo gX4_printAtOnce_X5_cutTo rfl (hG := (gRow_ob hI.1.2.2.2.2)) rfl rfl (Nat.le_of_ble_eq_true rfl) ⟨Nat.le_refl _, Nat.le_refl _⟩ dX4_printAtOnce_123 (gx_kv fun G_123 h_123 => ?_)
        have s3 := gPs_3 hI.1 h_123.1 h_123.2
        refine gx_aload_n C dX4_printAtOnce_126 rfl ?_
        refine gx_get C fd_X4_printAtOnce_26 (hG := s3.1) (hv := by rfl) dX4_printAtOnce_127 ?_
        refine gx_aret (mc := 0) C (Or.inl ⟨_, rfl⟩) (Or.inr ⟨_, rfl⟩) ?_ dX4_printAtOnce_130
        exact ⟨_, rfl, Or.inr ⟨_, rfl⟩, rfl, ⟨_, _, s3⟩, gOut_tr hI.2 (gOut_wd h_123.2 (by omega))⟩
      · rw [en.1] at c_84
        have hj : j < tx.length + 1 := by
          rcases Nat.lt_or_ge j (tx.length + 1) with q | q
          · exact q
          · exact absurd (nI_le q (by omega)) c_84
        refine gx_aload_n C dX4_printAtOnce_87 rfl ?_
        refine gx_aload_n C dX4_printAtOnce_88 rfl ?_
        refine gx_get C fd_X4_printAtOnce_14 (hG := hI.1.1) (hv := by rfl) dX4_printAtOnce_89 ?_
        refine gx_iload_n C dX4_printAtOnce_92 rfl ?_
        refine gx_callV (ci := 4) (T := TX5) (N := 2) C (k5_get l D A hs (nI j) hI.1.2.1) cb_X4_printAtOnce__X5_get gX4_printAtOnce_X5_get rfl (hG := (gRow_ob hI.1.2.1)) rfl rfl (Nat.le_of_ble_eq_true rfl) ⟨Nat.le_refl _, Nat.le_refl _⟩ dX4_printAtOnce_93 (gx_ki fun r_93 G_93 h_93 => ?_)
        obtain ⟨rfl, rfl⟩ := h_93
        refine gx_callV (ci := 3) (T := TX4) (N := 4) C (k4_printIfAny l D A hs hI.1 (lget (pArrs tx cs as cs.length).1 (nI j))) cb_X4_printAtOnce__X4_printIfAny gX4_printAtOnce_X4_printIfAny rfl (hG := hI.1.1) rfl rfl (Nat.le_of_ble_eq_true rfl) ⟨Nat.le_refl _, Nat.le_refl _⟩ dX4_printAtOnce_96 (gx_kv fun G_96 h_96 => ?_)
        refine gx_aload_n C dX4_printAtOnce_99 rfl ?_
        refine gx_aload_n C dX4_printAtOnce_100 rfl ?_
        refine gx_get C fd_X4_printAtOnce_20 (hG := h_96.1.1) (hv := by rfl) dX4_printAtOnce_101 ?_
        refine gx_iload_n C dX4_printAtOnce_104 rfl ?_
        refine gx_callV (ci := 4) (T := TX5) (N := 2) C (k5_get l D A hs (nI j) h_96.1.2.2.1) cb_X4_printAtOnce__X5_get gX4_printAtOnce_X5_get rfl (hG := (gRow_ob h_96.1.2.2.1)) rfl rfl (Nat.le_of_ble_eq_true rfl) ⟨Nat.le_refl _, Nat.le_refl _⟩ dX4_printAtOnce_105 (gx_ki fun r_105 G_105 h_105 => ?_)
        obtain ⟨rfl, rfl⟩ := h_105
        refine gx_callV (ci := 3) (T := TX4) (N := 4) C (k4_printIfAny l D A hs h_96.1 (lget (pArrs tx cs as cs.length).2 (nI j))) cb_X4_printAtOnce__X4_printIfAny gX4_printAtOnce_X4_printIfAny rfl (hG := h_96.1.1) rfl rfl (Nat.le_of_ble_eq_true rfl) ⟨Nat.le_refl _, Nat.le_refl _⟩ dX4_printAtOnce_108 (gx_kv fun G_108 h_108 => ?_)
        first | refine gx_iincN C dX4_printAtOnce_111 rfl (by decide) ?_ | refine gx_iinc1 C dX4_printAtOnce_111 rfl (by decide) ?_
        refine gx_goto (tgt := 76) C dX4_printAtOnce_114 (by decide) ?_
        exact ih (j + 1) _ (by omega) (by omega) ⟨h_108.1, gOut_tr hI.2 (gOut_tr h_96.2 h_108.2)⟩
  have hloop : ∀ (n j : Nat) (G1 : gH), cs.length < j + n → j ≤ cs.length → gPs D G1 a ((pArrs tx cs as j).1, (pArrs tx cs as j).2, v.2.2) ∧ gOut a 9 G G1 → gX p l e (gR 3) s m args below meth c D A 4 hs 0 0 (MQ below (gQ D A hs 0 (gPr fun w G' => w = .ref (a + 7) ∧ (∃ ah ins, gPs D G' a (ah, ins, v.2.2.1, pOnce tx cs as)) ∧ gOut a 9 G G')) args s 0 0 A) G1 [some (.ref a), some (.ref tb), some (.ref b), some (.int (nI j))] 24 [] := by
    intro n
    induction n with
    | zero => intro j G1 hm hj0 hI; exact absurd hm (by omega)
    | succ n ih =>
      intro j G1 hm hj0 hI
      refine gx_iload_n C dX4_printAtOnce_24 rfl ?_
      have ll := gList_fr hl hI.2 hbd
      have tt := gRow_fr ht hI.2 htd
      have lc : gRow D G1 (b + 1) 64 cs := ll.2.1
      have la : gRow D G1 (b + 3) 64 as := ll.2.2.1
      refine gx_aload_n C dX4_printAtOnce_25 rfl ?_
      refine gx_getN C fd_X4_printAtOnce_41 (hG := ll.1) (hv := by rfl) dX4_printAtOnce_26 ?_
      refine gx_callV (ci := 4) (T := TX5) (N := 2) C (k5_used l D A hs lc) cb_X4_printAtOnce__X5_used gX4_printAtOnce_X5_used rfl (hG := (gRow_ob lc)) rfl rfl (Nat.le_of_ble_eq_true rfl) ⟨Nat.le_refl _, Nat.le_refl _⟩ dX4_printAtOnce_29 (gx_ki fun r_29 G_29 h_29 => ?_)
      obtain ⟨rfl, rfl⟩ := h_29
      refine gx_icmp_ge (tgt := 66) C dX4_printAtOnce_32 (by decide) (fun c_32 => ?_) (fun c_32 => ?_)
      · have hj : ¬ j < cs.length := fun q => nI_ge q (by omega) c_32
        have ej : j = cs.length := by omega
        subst ej
        refine gx_aload_n C dX4_printAtOnce_66 rfl ?_
        refine gx_get C fd_X4_printAtOnce_26 (hG := hI.1.1) (hv := by rfl) dX4_printAtOnce_67 ?_
        refine gx_iconst (v := 0) C dX4_printAtOnce_70 (by decide) ?_
        refine gx_callV (ci := 4) (T := TX5) (N := 2) C (k5_cutTo l D A hs 0 hI.1.2.2.2.2) cb_X4_printAtOnce__X5_cutTo gX4_printAtOnce_X5_cutTo rfl (hG := (gRow_ob hI.1.2.2.2.2)) rfl rfl (Nat.le_of_ble_eq_true rfl) ⟨Nat.le_refl _, Nat.le_refl _⟩ dX4_printAtOnce_71 (gx_kv fun G_71 h_71 => ?_)
        rw [lcut_0] at h_71
        have s2 := gPs_3 hI.1 h_71.1 h_71.2
        refine gx_iconst (v := 0) C dX4_printAtOnce_74 (by decide) ?_
        refine gx_istore_n C dX4_printAtOnce_75 (by decide) ?_
        exact hloop2 (tx.length + 2) 0 _ (by omega) (by omega) ⟨s2, gOut_tr hI.2 (gOut_wd h_71.2 (by omega))⟩
      · have hj : j < cs.length := by
          rcases Nat.lt_or_ge (j) (cs.length) with q | q
          · exact q
          · exact absurd (nI_le q (by omega)) c_32
        refine gx_aload_n C dX4_printAtOnce_35 rfl ?_
        refine gx_getN C fd_X4_printAtOnce_46 (hG := ll.1) (hv := by rfl) dX4_printAtOnce_36 ?_
        refine gx_iload_n C dX4_printAtOnce_39 rfl ?_
        refine gx_callV (ci := 4) (T := TX5) (N := 2) C (k5_get l D A hs (nI j) la) cb_X4_printAtOnce__X5_get gX4_printAtOnce_X5_get rfl (hG := (gRow_ob la)) rfl rfl (Nat.le_of_ble_eq_true rfl) ⟨Nat.le_refl _, Nat.le_refl _⟩ dX4_printAtOnce_40 (gx_ki fun r_40 G_40 h_40 => ?_)
        obtain ⟨rfl, rfl⟩ := h_40
        refine gx_iconst (v := 1) C dX4_printAtOnce_43 (by decide) ?_
        refine gx_icmp_ne (tgt := 60) C dX4_printAtOnce_44 (by decide) (fun c_44 => ?_) (fun c_44 => ?_)
        · rw [lget_nI (by omega)] at c_44
          have ee : pArrs tx cs as (j + 1) = pArrs tx cs as j := by rw [pArrs, if_neg c_44]
          first | refine gx_iincN C dX4_printAtOnce_60 rfl (by decide) ?_ | refine gx_iinc1 C dX4_printAtOnce_60 rfl (by decide) ?_
          refine gx_goto (tgt := 24) C dX4_printAtOnce_63 (by decide) ?_
          first
            | exact ih (j + 1) _ (by omega) (by omega) ⟨by rw [ee]; exact h_57.1, gOut_tr hI.2 h_57.2⟩
            | exact ih (j + 1) _ (by omega) (by omega) ⟨by rw [ee]; exact hI.1, hI.2⟩
        · rw [lget_nI (by omega)] at c_44
          have ee : pArrs tx cs as (j + 1) = pArr tx (pArrs tx cs as j) (cs.getD j 0) := by rw [pArrs, if_pos c_44]
          refine gx_aload_n C dX4_printAtOnce_47 rfl ?_
          refine gx_aload_n C dX4_printAtOnce_48 rfl ?_
          refine gx_getN C fd_X4_printAtOnce_41 (hG := ll.1) (hv := by rfl) dX4_printAtOnce_49 ?_
          refine gx_iload_n C dX4_printAtOnce_52 rfl ?_
          refine gx_callV (ci := 4) (T := TX5) (N := 2) C (k5_get l D A hs (nI j) lc) cb_X4_printAtOnce__X5_get gX4_printAtOnce_X5_get rfl (hG := (gRow_ob lc)) rfl rfl (Nat.le_of_ble_eq_true rfl) ⟨Nat.le_refl _, Nat.le_refl _⟩ dX4_printAtOnce_53 (gx_ki fun r_53 G_53 h_53 => ?_)
          obtain ⟨rfl, rfl⟩ := h_53
          refine gx_aload_n C dX4_printAtOnce_56 rfl ?_
          refine gx_callV (ci := 3) (T := TX4) (N := 4) C (k4_arrange l D A hs hI.1 (lget cs (nI j)) tt htd) cb_X4_printAtOnce__X4_arrange gX4_printAtOnce_X4_arrange rfl (hG := hI.1.1) rfl rfl (Nat.le_of_ble_eq_true rfl) ⟨Nat.le_refl _, Nat.le_refl _⟩ dX4_printAtOnce_57 (gx_kv fun G_57 h_57 => ?_)
          rw [lget_nI (by omega)] at h_57
          first | refine gx_iincN C dX4_printAtOnce_60 rfl (by decide) ?_ | refine gx_iinc1 C dX4_printAtOnce_60 rfl (by decide) ?_
          refine gx_goto (tgt := 24) C dX4_printAtOnce_63 (by decide) ?_
          first
            | exact ih (j + 1) _ (by omega) (by omega) ⟨by rw [ee]; exact h_57.1, gOut_tr hI.2 h_57.2⟩
            | exact ih (j + 1) _ (by omega) (by omega) ⟨by rw [ee]; exact hI.1, hI.2⟩
  refine gx_aload_n C dX4_printAtOnce_0 rfl ?_
  refine gx_get C fd_X4_printAtOnce_14 (hG := hp.1) (hv := by rfl) dX4_printAtOnce_1 ?_
  refine gx_aload_n C dX4_printAtOnce_4 rfl ?_
  refine gx_callV (ci := 4) (T := TX5) (N := 2) C (k5_used l D A hs ht) cb_X4_printAtOnce__X5_used gX4_printAtOnce_X5_used rfl (hG := (gRow_ob ht)) rfl rfl (Nat.le_of_ble_eq_true rfl) ⟨Nat.le_refl _, Nat.le_refl _⟩ dX4_printAtOnce_5 (gx_ki fun r_5 G_5 h_5 => ?_)
  obtain ⟨rfl, rfl⟩ := h_5
  refine gx_iconst (v := 1) C dX4_printAtOnce_8 (by decide) ?_
  refine gx_iadd C dX4_printAtOnce_9 ?_
  refine gx_top (nI_1 _) ?_
  refine gx_iconst (v := 0) C dX4_printAtOnce_10 (by decide) ?_
  refine gx_callV (ci := 4) (T := TX5) (N := 2) C (k5_fill l D A hs (tx.length + 1) 0 hp.2.1 (by omega)) cb_X4_printAtOnce__X5_fill gX4_printAtOnce_X5_fill rfl (hG := (gRow_ob hp.2.1)) rfl rfl (Nat.le_of_ble_eq_true rfl) ⟨Nat.le_refl _, Nat.le_refl _⟩ dX4_printAtOnce_11 (gx_kv fun G_11 h_11 => ?_)
  have s1 := gPs_0 hp h_11.1 h_11.2
  have tt1 := gRow_fr ht h_11.2 (by omega)
  refine gx_aload_n C dX4_printAtOnce_14 rfl ?_
  refine gx_get C fd_X4_printAtOnce_20 (hG := s1.1) (hv := by rfl) dX4_printAtOnce_15 ?_
  refine gx_aload_n C dX4_printAtOnce_18 rfl ?_
  refine gx_callV (ci := 4) (T := TX5) (N := 2) C (k5_copyFrom l D A hs s1.2.2.1 tt1 (by omega) (by omega)) cb_X4_printAtOnce__X5_copyFrom gX4_printAtOnce_X5_copyFrom rfl (hG := (gRow_ob s1.2.2.1)) rfl rfl (Nat.le_of_ble_eq_true rfl) ⟨Nat.le_refl _, Nat.le_refl _⟩ dX4_printAtOnce_19 (gx_kv fun G_19 h_19 => ?_)
  have s2 := gPs_1 s1 h_19.1 h_19.2
  refine gx_iconst (v := 0) C dX4_printAtOnce_22 (by decide) ?_
  refine gx_istore_n C dX4_printAtOnce_23 (by decide) ?_
  exact hloop (cs.length + 1) 0 _ (by omega) (by omega) ⟨s2, gOut_tr (gOut_wd h_11.2 (by omega)) (gOut_wd h_19.2 (by omega))⟩
set_option maxHeartbeats 4000000 in
set_option maxRecDepth 100000 in
/-- X4_printInTurn -/
theorem k4_printInTurn (l : Launch) (D : gD) (A : Nat → Prop) (hs : Nat) {G : gH} {a b tb tcap : Nat} {v : ML} {tx cs as ns ls : List Int32} (hp : gPs D G a v) (ht : gRow D G tb tcap tx) (hl : gList D G b (cs, as, ns, ls)) (htd : tb + 2 ≤ a ∨ a + 9 ≤ tb) (hbd : b + 9 ≤ a ∨ a + 9 ≤ b) (h100 : tx.length ≤ 100) : gM l yX4_printInTurn wsX4_printInTurn (gR 4) D A hs 0 0 [.ref a, .ref tb, .ref b] G (gPr fun w G' => w = .ref (a + 7) ∧ (∃ tu, gPs D G' a (v.1, v.2.1, tu, pTurn tx cs as)) ∧ gOut a 9 G G') := by
  refine gM_intro (by decide) rfl rfl (Nat.le_of_ble_eq_true rfl) ?_
  intro p e s m args below meth c C
  have bc := gRow_le hl.2.1
  have bc1 : cs.length ≤ 64 := bc.1
  have tnn := pTurns_n (cs := cs) (as := as) (n := cs.length)
  have hloop2 : ∀ (n j : Nat) (G1 : gH), (pTurns cs as cs.length).length < j + n → j ≤ (pTurns cs as cs.length).length → gPs D G1 a (v.1, v.2.1, pTurns cs as cs.length, pCars tx (pTurns cs as cs.length) j) ∧ gOut a 9 G G1 → gX p l e (gR 4) s m args below meth c D A 4 hs 0 0 (MQ below (gQ D A hs 0 (gPr fun w G' => w = .ref (a + 7) ∧ (∃ tu, gPs D G' a (v.1, v.2.1, tu, pTurn tx cs as)) ∧ gOut a 9 G G')) args s 0 0 A) G1 [some (.ref a), some (.ref tb), some (.ref b), some (.int (nI j))] 76 [] := by
    intro n
    induction n with
    | zero => intro j G1 hm hj0 hI; exact absurd hm (by omega)
    | succ n ih =>
      intro j G1 hm hj0 hI
      refine gx_iload_n C dX4_printInTurn_76 rfl ?_
      refine gx_aload_n C dX4_printInTurn_77 rfl ?_
      refine gx_get C fd_X4_printInTurn_23 (hG := hI.1.1) (hv := by rfl) dX4_printInTurn_78 ?_
      refine gx_callV (ci := 4) (T := TX5) (N := 2) C (k5_used l D A hs hI.1.2.2.2.1) cb_X4_printInTurn__X5_used gX4_printInTurn_X5_used rfl (hG := (gRow_ob hI.1.2.2.2.1)) rfl rfl (Nat.le_of_ble_eq_true rfl) ⟨Nat.le_refl _, Nat.le_refl _⟩ dX4_printInTurn_81 (gx_ki fun r_81 G_81 h_81 => ?_)
      obtain ⟨rfl, rfl⟩ := h_81
      refine gx_icmp_ge (tgt := 105) C dX4_printInTurn_84 (by decide) (fun c_84 => ?_) (fun c_84 => ?_)
      · have hj : ¬ j < (pTurns cs as cs.length).length := fun q => nI_ge q (by omega) c_84
        have ej : j = (pTurns cs as cs.length).length := by omega
        subst ej
        refine gx_aload_n C dX4_printInTurn_105 rfl ?_
        refine gx_get C fd_X4_printInTurn_26 (hG := hI.1.1) (hv := by rfl) dX4_printInTurn_106 ?_
        refine gx_bipush (v := 100) C dX4_printInTurn_109 (by decide) ?_
        refine gx_callV (ci := 4) (T := TX5) (N := 2) C (k5_cutTo l D A hs 100 hI.1.2.2.2.2) cb_X4_printInTurn__X5_cutTo gX4_printInTurn_X5_cutTo rfl (hG := (gRow_ob hI.1.2.2.2.2)) rfl rfl (Nat.le_of_ble_eq_true rfl) ⟨Nat.le_refl _, Nat.le_refl _⟩ dX4_printInTurn_111 (gx_kv fun G_111 h_111 => ?_)
        have s3 := gPs_3 hI.1 h_111.1 h_111.2
        refine gx_aload_n C dX4_printInTurn_114 rfl ?_
        refine gx_get C fd_X4_printInTurn_26 (hG := s3.1) (hv := by rfl) dX4_printInTurn_115 ?_
        refine gx_aret (mc := 0) C (Or.inl ⟨_, rfl⟩) (Or.inr ⟨_, rfl⟩) ?_ dX4_printInTurn_118
        exact ⟨_, rfl, Or.inr ⟨_, rfl⟩, rfl, ⟨_, s3⟩, gOut_tr hI.2 (gOut_wd h_111.2 (by omega))⟩
      · have hj : j < (pTurns cs as cs.length).length := by
          rcases Nat.lt_or_ge (j) ((pTurns cs as cs.length).length) with q | q
          · exact q
          · exact absurd (nI_le q (by omega)) c_84
        refine gx_aload_n C dX4_printInTurn_87 rfl ?_
        refine gx_aload_n C dX4_printInTurn_88 rfl ?_
        refine gx_get C fd_X4_printInTurn_23 (hG := hI.1.1) (hv := by rfl) dX4_printInTurn_89 ?_
        refine gx_iload_n C dX4_printInTurn_92 rfl ?_
        refine gx_callV (ci := 4) (T := TX5) (N := 2) C (k5_get l D A hs (nI j) hI.1.2.2.2.1) cb_X4_printInTurn__X5_get gX4_printInTurn_X5_get rfl (hG := (gRow_ob hI.1.2.2.2.1)) rfl rfl (Nat.le_of_ble_eq_true rfl) ⟨Nat.le_refl _, Nat.le_refl _⟩ dX4_printInTurn_93 (gx_ki fun r_93 G_93 h_93 => ?_)
        obtain ⟨rfl, rfl⟩ := h_93
        refine gx_callV (ci := 3) (T := TX4) (N := 4) C (k4_carryOut l D A hs hI.1 (lget (pTurns cs as cs.length) (nI j))) cb_X4_printInTurn__X4_carryOut gX4_printInTurn_X4_carryOut rfl (hG := hI.1.1) rfl rfl (Nat.le_of_ble_eq_true rfl) ⟨Nat.le_refl _, Nat.le_refl _⟩ dX4_printInTurn_96 (gx_kv fun G_96 h_96 => ?_)
        rw [lget_nI (by omega)] at h_96
        first | refine gx_iincN C dX4_printInTurn_99 rfl (by decide) ?_ | refine gx_iinc1 C dX4_printInTurn_99 rfl (by decide) ?_
        refine gx_goto (tgt := 76) C dX4_printInTurn_102 (by decide) ?_
        exact ih (j + 1) _ (by omega) (by omega) ⟨h_96.1, gOut_tr hI.2 h_96.2⟩
  have hloop : ∀ (n j : Nat) (G1 : gH), cs.length < j + n → j ≤ cs.length → gPs D G1 a (v.1, v.2.1, pTurns cs as j, v.2.2.2) ∧ gOut a 9 G G1 → gX p l e (gR 4) s m args below meth c D A 4 hs 0 0 (MQ below (gQ D A hs 0 (gPr fun w G' => w = .ref (a + 7) ∧ (∃ tu, gPs D G' a (v.1, v.2.1, tu, pTurn tx cs as)) ∧ gOut a 9 G G')) args s 0 0 A) G1 [some (.ref a), some (.ref tb), some (.ref b), some (.int (nI j))] 10 [] := by
    intro n
    induction n with
    | zero => intro j G1 hm hj0 hI; exact absurd hm (by omega)
    | succ n ih =>
      intro j G1 hm hj0 hI
      refine gx_iload_n C dX4_printInTurn_10 rfl ?_
      have ll := gList_fr hl hI.2 hbd
      have tt := gRow_fr ht hI.2 htd
      have lc : gRow D G1 (b + 1) 64 cs := ll.2.1
      have la : gRow D G1 (b + 3) 64 as := ll.2.2.1
      have tn := pTurns_n (cs := cs) (as := as) (n := j)
      refine gx_aload_n C dX4_printInTurn_11 rfl ?_
      refine gx_getN C fd_X4_printInTurn_41 (hG := ll.1) (hv := by rfl) dX4_printInTurn_12 ?_
      refine gx_callV (ci := 4) (T := TX5) (N := 2) C (k5_used l D A hs lc) cb_X4_printInTurn__X5_used gX4_printInTurn_X5_used rfl (hG := (gRow_ob lc)) rfl rfl (Nat.le_of_ble_eq_true rfl) ⟨Nat.le_refl _, Nat.le_refl _⟩ dX4_printInTurn_15 (gx_ki fun r_15 G_15 h_15 => ?_)
      obtain ⟨rfl, rfl⟩ := h_15
      refine gx_icmp_ge (tgt := 66) C dX4_printInTurn_18 (by decide) (fun c_18 => ?_) (fun c_18 => ?_)
      · have hj : ¬ j < cs.length := fun q => nI_ge q (by omega) c_18
        have ej : j = cs.length := by omega
        subst ej
        refine gx_aload_n C dX4_printInTurn_66 rfl ?_
        refine gx_get C fd_X4_printInTurn_26 (hG := hI.1.1) (hv := by rfl) dX4_printInTurn_67 ?_
        refine gx_aload_n C dX4_printInTurn_70 rfl ?_
        refine gx_callV (ci := 4) (T := TX5) (N := 2) C (k5_copyFrom l D A hs hI.1.2.2.2.2 tt (by omega) (by omega)) cb_X4_printInTurn__X5_copyFrom gX4_printInTurn_X5_copyFrom rfl (hG := (gRow_ob hI.1.2.2.2.2)) rfl rfl (Nat.le_of_ble_eq_true rfl) ⟨Nat.le_refl _, Nat.le_refl _⟩ dX4_printInTurn_71 (gx_kv fun G_71 h_71 => ?_)
        have s2 := gPs_3 hI.1 h_71.1 h_71.2
        refine gx_iconst (v := 0) C dX4_printInTurn_74 (by decide) ?_
        refine gx_istore_n C dX4_printInTurn_75 (by decide) ?_
        exact hloop2 ((pTurns cs as cs.length).length + 1) 0 _ (by omega) (by omega) ⟨s2, gOut_tr hI.2 (gOut_wd h_71.2 (by omega))⟩
      · have hj : j < cs.length := by
          rcases Nat.lt_or_ge (j) (cs.length) with q | q
          · exact q
          · exact absurd (nI_le q (by omega)) c_18
        refine gx_aload_n C dX4_printInTurn_21 rfl ?_
        refine gx_getN C fd_X4_printInTurn_46 (hG := ll.1) (hv := by rfl) dX4_printInTurn_22 ?_
        refine gx_iload_n C dX4_printInTurn_25 rfl ?_
        refine gx_callV (ci := 4) (T := TX5) (N := 2) C (k5_get l D A hs (nI j) la) cb_X4_printInTurn__X5_get gX4_printInTurn_X5_get rfl (hG := (gRow_ob la)) rfl rfl (Nat.le_of_ble_eq_true rfl) ⟨Nat.le_refl _, Nat.le_refl _⟩ dX4_printInTurn_26 (gx_ki fun r_26 G_26 h_26 => ?_)
        obtain ⟨rfl, rfl⟩ := h_26
        refine gx_iconst (v := 1) C dX4_printInTurn_29 (by decide) ?_
        refine gx_icmp_ne (tgt := 60) C dX4_printInTurn_30 (by decide) (fun c_30 => ?_) (fun c_30 => ?_)
        · rw [lget_nI (by omega)] at c_30
          have ee : pTurns cs as (j + 1) = pTurns cs as j := by rw [pTurns, if_neg c_30]
          first | refine gx_iincN C dX4_printInTurn_60 rfl (by decide) ?_ | refine gx_iinc1 C dX4_printInTurn_60 rfl (by decide) ?_
          refine gx_goto (tgt := 10) C dX4_printInTurn_63 (by decide) ?_
          first
            | (have s9 := gPs_2 hI.1 h_57.1 h_57.2; exact ih (j + 1) _ (by omega) (by omega) ⟨by rw [ee]; exact s9, gOut_tr hI.2 (gOut_wd h_57.2 (by omega))⟩)
            | exact ih (j + 1) _ (by omega) (by omega) ⟨by rw [ee]; exact hI.1, hI.2⟩
        · rw [lget_nI (by omega)] at c_30
          have ee : pTurns cs as (j + 1) = (pTurns cs as j).insertIdx (pTo (pTurns cs as j) (cs.getD j 0)) (cs.getD j 0) := by rw [pTurns, if_pos c_30]
          refine gx_aload_n C dX4_printInTurn_33 rfl ?_
          refine gx_get C fd_X4_printInTurn_23 (hG := hI.1.1) (hv := by rfl) dX4_printInTurn_34 ?_
          refine gx_aload_n C dX4_printInTurn_37 rfl ?_
          refine gx_aload_n C dX4_printInTurn_38 rfl ?_
          refine gx_getN C fd_X4_printInTurn_41 (hG := ll.1) (hv := by rfl) dX4_printInTurn_39 ?_
          refine gx_iload_n C dX4_printInTurn_42 rfl ?_
          refine gx_callV (ci := 4) (T := TX5) (N := 2) C (k5_get l D A hs (nI j) lc) cb_X4_printInTurn__X5_get gX4_printInTurn_X5_get rfl (hG := (gRow_ob lc)) rfl rfl (Nat.le_of_ble_eq_true rfl) ⟨Nat.le_refl _, Nat.le_refl _⟩ dX4_printInTurn_43 (gx_ki fun r_43 G_43 h_43 => ?_)
          obtain ⟨rfl, rfl⟩ := h_43
          refine gx_callV (ci := 3) (T := TX4) (N := 4) C (k4_turnOf l D A hs hI.1 (lget cs (nI j))) cb_X4_printInTurn__X4_turnOf gX4_printInTurn_X4_turnOf rfl (hG := hI.1.1) rfl rfl (Nat.le_of_ble_eq_true rfl) ⟨Nat.le_refl _, Nat.le_refl _⟩ dX4_printInTurn_46 (gx_ki fun r_46 G_46 h_46 => ?_)
          obtain ⟨rfl, rfl⟩ := h_46
          refine gx_aload_n C dX4_printInTurn_49 rfl ?_
          refine gx_getN C fd_X4_printInTurn_41 (hG := ll.1) (hv := by rfl) dX4_printInTurn_50 ?_
          refine gx_iload_n C dX4_printInTurn_53 rfl ?_
          refine gx_callV (ci := 4) (T := TX5) (N := 2) C (k5_get l D A hs (nI j) lc) cb_X4_printInTurn__X5_get gX4_printInTurn_X5_get rfl (hG := (gRow_ob lc)) rfl rfl (Nat.le_of_ble_eq_true rfl) ⟨Nat.le_refl _, Nat.le_refl _⟩ dX4_printInTurn_54 (gx_ki fun r_54 G_54 h_54 => ?_)
          obtain ⟨rfl, rfl⟩ := h_54
          refine gx_callV (ci := 4) (T := TX5) (N := 2) C (k5_insert l D A hs (pTo (pTurns cs as j) (lget cs (nI j))) (lget cs (nI j)) hI.1.2.2.2.1 pTo_le (show (pTurns cs as j).length < 64 by omega)) cb_X4_printInTurn__X5_insert gX4_printInTurn_X5_insert rfl (hG := (gRow_ob hI.1.2.2.2.1)) rfl rfl (Nat.le_of_ble_eq_true rfl) ⟨Nat.le_refl _, Nat.le_refl _⟩ dX4_printInTurn_57 (gx_kv fun G_57 h_57 => ?_)
          rw [lget_nI (by omega)] at h_57
          first | refine gx_iincN C dX4_printInTurn_60 rfl (by decide) ?_ | refine gx_iinc1 C dX4_printInTurn_60 rfl (by decide) ?_
          refine gx_goto (tgt := 10) C dX4_printInTurn_63 (by decide) ?_
          first
            | (have s9 := gPs_2 hI.1 h_57.1 h_57.2; exact ih (j + 1) _ (by omega) (by omega) ⟨by rw [ee]; exact s9, gOut_tr hI.2 (gOut_wd h_57.2 (by omega))⟩)
            | exact ih (j + 1) _ (by omega) (by omega) ⟨by rw [ee]; exact hI.1, hI.2⟩
  refine gx_aload_n C dX4_printInTurn_0 rfl ?_
  refine gx_get C fd_X4_printInTurn_23 (hG := hp.1) (hv := by rfl) dX4_printInTurn_1 ?_
  refine gx_iconst (v := 0) C dX4_printInTurn_4 (by decide) ?_
  refine gx_callV (ci := 4) (T := TX5) (N := 2) C (k5_cutTo l D A hs 0 hp.2.2.2.1) cb_X4_printInTurn__X5_cutTo gX4_printInTurn_X5_cutTo rfl (hG := (gRow_ob hp.2.2.2.1)) rfl rfl (Nat.le_of_ble_eq_true rfl) ⟨Nat.le_refl _, Nat.le_refl _⟩ dX4_printInTurn_5 (gx_kv fun G_5 h_5 => ?_)
  rw [lcut_0] at h_5
  have s1 := gPs_2 hp h_5.1 h_5.2
  refine gx_iconst (v := 0) C dX4_printInTurn_8 (by decide) ?_
  refine gx_istore_n C dX4_printInTurn_9 (by decide) ?_
  exact hloop (cs.length + 1) 0 _ (by omega) (by omega) ⟨s1, gOut_wd h_5.2 (by omega)⟩
