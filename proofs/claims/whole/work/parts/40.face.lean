/-! THE FACE: what each call does, on plain values -/
abbrev TS : Type := SV × List SV × List Int32
def gCw (D : gD) (G : gH) (X : Nat) (t : TS) : Prop := G X = some (.inr (7, [.ref (X + 1), .ref (X + 46), .ref (X + 228), .ref (X + 233)])) ∧ gSv D G (X + 1) t.1 ∧ gHist D G (X + 46) t.2.1 ∧ (∃ (cd : List Int32) (st cu re : Int32), gMt D G (X + 228) t.2.2 cd st cu re) ∧ ∃ w : ML, gPs D G (X + 233) w
theorem gCw_sv {D : gD} {G G' : gH} {X : Nat} {t : TS} {v : SV} (h : gCw D G X t) (hv : gSv D G' (X + 1) v) (ho : gOut (X + 1) 45 G G') : gCw D G' X (v, t.2) := by
  obtain ⟨h1, h2, h3, ⟨cd, st, cu, re, h4⟩, w, h5⟩ := h
  exact ⟨by rw [ho X (by omega)]; exact h1, hv, gHist_fr h3 ho (by omega), ⟨cd, st, cu, re, gMt_fr h4 ho (by omega)⟩, w, gPs_fr h5 ho (by omega)⟩
theorem gCw_hi {D : gD} {G G' : gH} {X : Nat} {t : TS} {hi : List SV} (h : gCw D G X t) (hv : gHist D G' (X + 46) hi) (ho : gOut (X + 46) 182 G G') : gCw D G' X (t.1, hi, t.2.2) := by
  obtain ⟨h1, h2, h3, ⟨cd, st, cu, re, h4⟩, w, h5⟩ := h
  exact ⟨by rw [ho X (by omega)]; exact h1, gSv_fr h2 ho (by omega), hv, ⟨cd, st, cu, re, gMt_fr h4 ho (by omega)⟩, w, gPs_fr h5 ho (by omega)⟩
theorem gCw_un {D : gD} {G G' : gH} {X : Nat} {t : TS} {v : SV} {hi : List SV} (h : gCw D G X t) (hv : gSv D G' (X + 1) v) (hh : gHist D G' (X + 46) hi) (ho : gOut (X + 1) 46 G G') : gCw D G' X (v, hi, t.2.2) := by
  obtain ⟨h1, h2, h3, ⟨cd, st, cu, re, h4⟩, w, h5⟩ := h
  exact ⟨by rw [ho X (by omega)]; exact h1, hv, hh, ⟨cd, st, cu, re, gMt_fr h4 ho (by omega)⟩, w, gPs_fr h5 ho (by omega)⟩
theorem gCw_mt {D : gD} {G G' : gH} {X : Nat} {t : TS} {sg cd : List Int32} {st cu re : Int32} (h : gCw D G X t) (hm : gMt D G' (X + 228) sg cd st cu re) (ho : gOut (X + 228) 5 G G') : gCw D G' X (t.1, t.2.1, sg) := by
  obtain ⟨h1, h2, h3, h4, w, h5⟩ := h
  exact ⟨by rw [ho X (by omega)]; exact h1, gSv_fr h2 ho (by omega), gHist_fr h3 ho (by omega), ⟨cd, st, cu, re, hm⟩, w, gPs_fr h5 ho (by omega)⟩
theorem gCw_ps {D : gD} {G G' : gH} {X : Nat} {t : TS} {w : ML} (h : gCw D G X t) (hm : gPs D G' (X + 233) w) (ho : gOut (X + 233) 9 G G') : gCw D G' X t := by
  obtain ⟨h1, h2, h3, ⟨cd, st, cu, re, h4⟩, w0, h5⟩ := h
  exact ⟨by rw [ho X (by omega)]; exact h1, gSv_fr h2 ho (by omega), gHist_fr h3 ho (by omega), ⟨cd, st, cu, re, gMt_fr h4 ho (by omega)⟩, w, hm⟩
def oIx (i : Int32) (n : Nat) : Option Nat := if gIn i n = true then some i.toNatClampNeg else none
theorem oIx_in {j n : Nat} (hj : j < n) (hn : n < 1000) : oIx (nI j) n = some j := by
  rw [oIx, gIn_nI (by omega), if_pos (by simpa using hj), nI_clamp (by omega)]
theorem oIx_no {i : Int32} {n : Nat} (h : ¬ gIn i n = true) : oIx i n = none := if_neg h
def oPut (c : Int32) (t : TS) : Int32 × TS := if pOut c 32 126 = 1 then (-1, t) else if ¬ t.1.2.1 = 0 then (-2, t) else if 100 ≤ t.1.1.length then (-3, t) else (nI (t.1.1.length + 1), ((t.1.1 ++ [c], t.1.2), pRec t.2.1 t.1, t.2.2))
def oBegin (t : TS) : Int32 × TS := if ¬ t.1.2.1 = 0 ∨ t.1.1.length = 0 then (-2, t) else (nI t.1.1.length, ((t.1.1, 1, t.1.2.2), pRec t.2.1 t.1, t.2.2))
def oSend (r : Int32) (t : TS) : Int32 × TS := if pOut r 0 5 = 1 then (-1, t) else if t.1.2.1 = 0 ∨ pBusy t.1.2.2.1 r = true then (-2, t) else if 8 ≤ t.1.2.2.1.length then (-3, t) else
  (nI t.1.2.2.1.length, ((t.1.1, t.1.2.1, t.1.2.2.1 ++ [(r, 0, [])], t.1.2.2.2.1, (t.1.2.2.2.2.1, lset t.1.2.2.2.2.2.1 r (lget t.1.2.2.2.2.2.1 r + 1), t.1.2.2.2.2.2.2)), pRec t.2.1 t.1, t.2.2))
def oShj (t : TS) (j : Nat) : SH := t.1.2.2.1.getD j shD
def oStat (t : TS) (j : Nat) (st : Int32) : TS := ((t.1.1, t.1.2.1, t.1.2.2.1.set j ((oShj t j).1, st, (oShj t j).2.2), t.1.2.2.2), pRec t.2.1 t.1, t.2.2)
def oBring (i : Int32) (t : TS) : Int32 × TS := match oIx i t.1.2.2.1.length with
  | none => (-1, t)
  | some j => if (oShj t j).2.1 = 0 then (nI (oShj t j).2.2.length, oStat t j 1) else (-2, t)
def oLose (i : Int32) (t : TS) : Int32 × TS := match oIx i t.1.2.2.1.length with
  | none => (-1, t)
  | some j => if (oShj t j).2.1 = 0 ∨ (oShj t j).2.1 = 1 then (nI (oShj t j).2.2.length, oStat t j 2) else (-2, t)
def oFind (i : Int32) (t : TS) : Int32 × TS := match oIx i t.1.2.2.1.length with
  | none => (-1, t)
  | some j => if (oShj t j).2.1 = 2 then (nI (oShj t j).2.2.length, oStat t j 1) else (-2, t)
def oMgU (t : TS) (j : Nat) : Nat := pMgU (oShj t j).2.2 (oShj t j).1 t.1.2.2.2.1 (oShj t j).2.2.length
def oMg (t : TS) (j : Nat) : SV := (t.1.1, t.1.2.1, t.1.2.2.1.set j ((oShj t j).1, 3, (oShj t j).2.2), pMg (oShj t j).2.2 (oShj t j).1 t.1.2.2.2.1 (oShj t j).2.2.length, (lset t.1.2.2.2.2.1 1 (lget t.1.2.2.2.2.1 1 + nI (oMgU t j)), t.1.2.2.2.2.2.1, t.1.2.2.2.2.2.2.1, lset t.1.2.2.2.2.2.2.2 (oShj t j).1 (lget t.1.2.2.2.2.2.2.2 (oShj t j).1 + nI (oShj t j).2.2.length)))
def oMerge (i : Int32) (t : TS) : Int32 × TS := match oIx i t.1.2.2.1.length with
  | none => (-1, t)
  | some j => if (oShj t j).2.1 = 1 then (nI (oMgU t j), (oMg t j, pRec t.2.1 t.1, t.2.2)) else (-2, t)
def oSheet (i w : Int32) (t : TS) : Int32 := match oIx i t.1.2.2.1.length with
  | none => -1
  | some j => if w = 0 then (oShj t j).1 else if w = 1 then (oShj t j).2.1 else if w = 2 then nI (oShj t j).2.2.length else if w = 3 then nI (pListN t.1.2.2.2.1.1 (oShj t j).2.2 (oShj t j).2.2.length) else if w = 4 then nI (pMeetN t.1.2.2.2.1.1 t.1.2.2.2.1.2.1 (oShj t j).2.2 (oShj t j).2.2.length) else -1
def oWritten (i k w : Int32) (t : TS) : Int32 := match oIx i t.1.2.2.1.length with
  | none => -1
  | some j => if k < 0 ∨ pOut w 0 4 = 1 then -1 else if ¬ k < nI (oShj t j).2.2.length then -4 else if w < 4 then pPart (lget (oShj t j).2.2 k) w else if lidx t.1.2.2.2.1.1 (lget (oShj t j).2.2 k) < 0 then -4 else lidx t.1.2.2.2.1.1 (lget (oShj t j).2.2 k)
def oUndo (t : TS) : Int32 × TS := match t.2.1.getLast? with
  | none => (-2, t)
  | some w => (nI t.2.1.dropLast.length, (w, t.2.1.dropLast, t.2.2))
def oAcc (t : TS) (z : Int32) : Int32 := if z = 5 then nI (pMkS t.1.2.2.1 0 t.1.2.2.1.length + pMkS t.1.2.2.1 1 t.1.2.2.1.length + pMkS t.1.2.2.1 2 t.1.2.2.1.length) else if z = 6 then nI (pOpenN t.1.2.2.2.1.2.1 t.1.2.2.2.1.2.1.length) else lget t.1.2.2.2.2.1 z
def oCount (w : Int32) (t : TS) : Int32 := if pOut w 10 16 = 0 then oAcc t (w - 10) else if w = 0 then nI t.1.1.length else if w = 1 then t.1.2.1 else if w = 2 then nI t.1.2.2.1.length else if w = 3 then nI (pShN t.1.2.2.1 0 t.1.2.2.1.length)
  else if w = 4 then nI t.1.2.2.2.1.1.length else if w = 5 then nI (pOpenN t.1.2.2.2.1.2.1 t.1.2.2.2.1.2.1.length) else if w = 6 then nI t.2.1.length else if w = 7 then nI t.2.2.length else if w = 8 then nI (pPairS t.1.2.2.2.1.1 t.1.2.2.2.1.1.length t.1.2.2.2.1.1.length) / 2 else -1
def oChr (xs : List Int32) (p : Int32) : Int32 := if p < 0 then -1 else if p < nI xs.length then lget xs p else -4
def oMark (k w : Int32) (t : TS) : Int32 := if ¬ gIn k t.1.2.2.2.1.1.length = true ∨ pOut w 0 8 = 1 then -1 else if w = 4 then lget t.1.2.2.2.1.2.1 k else if w = 5 then lget t.1.2.2.2.1.2.2.1 k else if w = 6 then lget t.1.2.2.2.1.2.2.2 k
  else if w = 7 then nI (pOppN t.1.2.2.2.1.1 (lget t.1.2.2.2.1.1 k) t.1.2.2.2.1.1.length) else if w = 8 then (if lget t.1.2.2.2.1.2.1 k = 0 ∧ ¬ pMeets t.1.2.2.2.1.1 t.1.2.2.2.1.2.1 (lget t.1.2.2.2.1.1 k) = true then 1 else 0) else pPart (lget t.1.2.2.2.1.1 k) w
def oAnsT (k a : Int32) (t : TS) : SV := (t.1.1, t.1.2.1, t.1.2.2.1, (t.1.2.2.2.1.1, lset t.1.2.2.2.1.2.1 k (if a = 0 then 1 else 2), t.1.2.2.2.1.2.2), (lset t.1.2.2.2.2.1 (if a = 0 then 2 else 3) (lget t.1.2.2.2.2.1 (if a = 0 then 2 else 3) + 1), t.1.2.2.2.2.2))
def oAnswer (k a : Int32) (t : TS) : Int32 × TS := if ¬ gIn k t.1.2.2.2.1.1.length = true ∨ pOut a 0 1 = 1 then (-1, t) else if ¬ lget t.1.2.2.2.1.2.1 k = 0 then (-2, t) else if a = 0 ∧ pMeets t.1.2.2.2.1.1 t.1.2.2.2.1.2.1 (lget t.1.2.2.2.1.1 k) = true then (-2, t)
  else (nI (pOpenN (oAnsT k a t).2.2.2.1.2.1 (oAnsT k a t).2.2.2.1.2.1.length), (oAnsT k a t, pRec t.2.1 t.1, t.2.2))
def oAgainst (a b : Int32) (t : TS) : Int32 := if ¬ gIn a t.1.2.2.2.1.1.length = true ∨ ¬ gIn b t.1.2.2.2.1.1.length = true then -1 else pOpp (lget t.1.2.2.2.1.1 a) (lget t.1.2.2.2.1.1 b)
def oNext (t : TS) : Int32 := pBI (-4) (pBest t.1.2.2.2.1.1 t.1.2.2.2.1.2.1 t.1.2.2.2.1.2.2.1 t.1.2.2.2.1.1.length)
def oOnce (t : TS) : List Int32 := pOnce t.1.1 t.1.2.2.2.1.1 t.1.2.2.2.1.2.1
def oFinish (t : TS) : Int32 × TS := if ¬ t.1.2.1 = 0 ∧ pShN t.1.2.2.1 0 t.1.2.2.1.length = 0 ∧ pShN t.1.2.2.1 1 t.1.2.2.1.length = 0 ∧ pOpenN t.1.2.2.2.1.2.1 t.1.2.2.2.1.2.1.length = 0 then
  (nI (oOnce t).length, ((oOnce t, t.1.2.1 + 1, [], ([], [], [], []), (lset t.1.2.2.2.2.1 4 (lget t.1.2.2.2.2.1 4 + nI (pMkS t.1.2.2.1 2 t.1.2.2.1.length)), t.1.2.2.2.2.2)), pRec t.2.1 t.1, t.2.2)) else (-2, t)
def oReader (r w : Int32) (t : TS) : Int32 := if pOut r 0 5 = 1 then -1 else if w = 0 then lget t.1.2.2.2.2.2.1 r else if w = 1 then lget t.1.2.2.2.2.2.2.1 r else if w = 2 then lget t.1.2.2.2.2.2.2.2 r else if w = 3 then (if pBusy t.1.2.2.1 r = true then 1 else 0) else -1
def oType (c : Int32) (t : TS) : Int32 × TS := if pOut c 32 126 = 1 then (-1, t) else if 80 ≤ t.2.2.length then (-3, t) else (nI (t.2.2.length + 1), (t.1, t.2.1, t.2.2 ++ [c]))
def oRead (t : TS) (j : Nat) : Nat × List Int32 × Int32 := tAll t.2.2 (oShj t j).2.2 (nI t.1.1.length) 80 0 []
def oFault (i w : Int32) (t : TS) : Int32 := match oIx i t.1.2.2.1.length with
  | none => -1
  | some j => if pOut w 0 1 = 1 then -1 else if (oRead t j).2.2 = 0 then -4 else if w = 0 then nI (oRead t j).1 else (oRead t j).2.2
def oWrT (t : TS) (j : Nat) : SV := (t.1.1, t.1.2.1, t.1.2.2.1.set j ((oShj t j).1, (oShj t j).2.1, (oShj t j).2.2 ++ (oRead t j).2.1), t.1.2.2.2.1, (lset t.1.2.2.2.2.1 0 (lget t.1.2.2.2.2.1 0 + nI (oRead t j).2.1.length), t.1.2.2.2.2.2.1, lset t.1.2.2.2.2.2.2.1 (oShj t j).1 (lget t.1.2.2.2.2.2.2.1 (oShj t j).1 + nI (oRead t j).2.1.length), t.1.2.2.2.2.2.2.2))
def oWrite (i : Int32) (t : TS) : Int32 × TS := match oIx i t.1.2.2.1.length with
  | none => (-1, t)
  | some j => if ¬ (oShj t j).2.1 = 0 ∨ ¬ (oRead t j).2.2 = 0 then (-2, t) else (nI (oRead t j).2.1.length, (oWrT t j, pRec t.2.1 t.1, t.2.2))
theorem pOut_b {v a b : Int32} : pOut v a b = 0 ∨ pOut v a b = 1 := by
  unfold pOut
  split
  · exact Or.inr rfl
  · exact Or.inl rfl
theorem pOut_n {v a b : Int32} (h : ¬ pOut v a b = 0) : pOut v a b = 1 := pOut_b.resolve_left h
theorem gz_b {x : Int32} (h : x = 0 ∨ x = 1) : narrow .boolean (.int x) = .int x := by
  rcases h with rfl | rfl <;> rfl
theorem cb_X8_isNoCharacter__X8_isOutside : gCb yX8_isOutside cX8_isOutside 3 (some .boolean) wsX8_isOutside (gR 0) (gR 1) 0 0 3 := ⟨rfl, rfl, rfl, by decide +kernel, by decide⟩
theorem cb_X8_isNoReader__X8_isOutside : gCb yX8_isOutside cX8_isOutside 3 (some .boolean) wsX8_isOutside (gR 0) (gR 1) 0 0 3 := ⟨rfl, rfl, rfl, by decide +kernel, by decide⟩
theorem cb_X8_characterIn__X5_used : gCb yX5_used cX5_used 1 (some .int) wsX5_used (gR 0) (gR 2) 0 0 0 := ⟨rfl, rfl, rfl, by decide +kernel, by decide⟩
theorem cb_X8_characterIn__X5_get : gCb yX5_get cX5_get 2 (some .int) wsX5_get (gR 1) (gR 2) 0 0 1 := ⟨rfl, rfl, rfl, by decide +kernel, by decide⟩
theorem cb_X8_put__X8_isNoCharacter : gCb yX8_isNoCharacter cX8_isNoCharacter 1 (some .boolean) wsX8_isNoCharacter (gR 1) (gR 5) 0 0 1 := ⟨rfl, rfl, rfl, by decide +kernel, by decide⟩
set_option maxRecDepth 20000 in
theorem in_X8_put_X8 : ∀ w ∈ wsX80, w ∈ wsX8_put := by decide +kernel
set_option maxRecDepth 20000 in
theorem fd_X8_put_12 : gFd wsX8_put RX8 12 7 RX8 TX8 4 0 := ⟨in_X8_put_X8, rfl, by decide, by decide +kernel⟩
set_option maxRecDepth 20000 in
theorem in_X8_put_X7 : ∀ w ∈ wsX70, w ∈ wsX8_put := by decide +kernel
set_option maxRecDepth 20000 in
theorem fd_X8_put_41 : gFn wsX8_put RX8 41 6 RX7 TX7 9 7 := ⟨in_X8_put_X7, rfl, by decide, by decide +kernel⟩
set_option maxRecDepth 20000 in
theorem fd_X8_put_45 : gFn wsX8_put RX8 45 6 RX7 TX7 9 0 := ⟨in_X8_put_X7, rfl, by decide, by decide +kernel⟩
theorem cb_X8_put__X5_used : gCb yX5_used cX5_used 1 (some .int) wsX5_used (gR 0) (gR 5) 0 0 0 := ⟨rfl, rfl, rfl, by decide +kernel, by decide⟩
set_option maxRecDepth 20000 in
theorem fd_X8_put_19 : gFd wsX8_put RX8 19 7 RX8 TX8 4 1 := ⟨in_X8_put_X8, rfl, by decide, by decide +kernel⟩
theorem cb_X8_put__X0_record : gCb yX0_record cX0_record 2 none wsX0_record (gR 4) (gR 5) 0 0 1 := ⟨rfl, rfl, rfl, by decide +kernel, by decide⟩
theorem cb_X8_put__X5_append : gCb yX5_append cX5_append 2 none wsX5_append (gR 0) (gR 5) 0 0 1 := ⟨rfl, rfl, rfl, by decide +kernel, by decide⟩
set_option maxRecDepth 20000 in
theorem in_X8_begin_X8 : ∀ w ∈ wsX80, w ∈ wsX8_begin := by decide +kernel
set_option maxRecDepth 20000 in
theorem fd_X8_begin_12 : gFd wsX8_begin RX8 12 7 RX8 TX8 4 0 := ⟨in_X8_begin_X8, rfl, by decide, by decide +kernel⟩
set_option maxRecDepth 20000 in
theorem in_X8_begin_X7 : ∀ w ∈ wsX70, w ∈ wsX8_begin := by decide +kernel
set_option maxRecDepth 20000 in
theorem fd_X8_begin_41 : gFn wsX8_begin RX8 41 6 RX7 TX7 9 7 := ⟨in_X8_begin_X7, rfl, by decide, by decide +kernel⟩
set_option maxRecDepth 20000 in
theorem fd_X8_begin_45 : gFn wsX8_begin RX8 45 6 RX7 TX7 9 0 := ⟨in_X8_begin_X7, rfl, by decide, by decide +kernel⟩
theorem cb_X8_begin__X5_used : gCb yX5_used cX5_used 1 (some .int) wsX5_used (gR 0) (gR 5) 0 0 0 := ⟨rfl, rfl, rfl, by decide +kernel, by decide⟩
set_option maxRecDepth 20000 in
theorem fd_X8_begin_19 : gFd wsX8_begin RX8 19 7 RX8 TX8 4 1 := ⟨in_X8_begin_X8, rfl, by decide, by decide +kernel⟩
theorem cb_X8_begin__X0_record : gCb yX0_record cX0_record 2 none wsX0_record (gR 4) (gR 5) 0 0 1 := ⟨rfl, rfl, rfl, by decide +kernel, by decide⟩
theorem cb_X8_send__X8_isNoReader : gCb yX8_isNoReader cX8_isNoReader 1 (some .boolean) wsX8_isNoReader (gR 1) (gR 5) 0 0 1 := ⟨rfl, rfl, rfl, by decide +kernel, by decide⟩
set_option maxRecDepth 20000 in
theorem in_X8_send_X8 : ∀ w ∈ wsX80, w ∈ wsX8_send := by decide +kernel
set_option maxRecDepth 20000 in
theorem fd_X8_send_12 : gFd wsX8_send RX8 12 7 RX8 TX8 4 0 := ⟨in_X8_send_X8, rfl, by decide, by decide +kernel⟩
set_option maxRecDepth 20000 in
theorem in_X8_send_X7 : ∀ w ∈ wsX70, w ∈ wsX8_send := by decide +kernel
set_option maxRecDepth 20000 in
theorem fd_X8_send_41 : gFn wsX8_send RX8 41 6 RX7 TX7 9 7 := ⟨in_X8_send_X7, rfl, by decide, by decide +kernel⟩
theorem cb_X8_send__X7_hasSheetOut : gCb yX7_hasSheetOut cX7_hasSheetOut 4 (some .boolean) wsX7_hasSheetOut (gR 1) (gR 5) 0 0 1 := ⟨rfl, rfl, rfl, by decide +kernel, by decide⟩
set_option maxRecDepth 20000 in
theorem fd_X8_send_69 : gFn wsX8_send RX8 69 6 RX7 TX7 9 8 := ⟨in_X8_send_X7, rfl, by decide, by decide +kernel⟩
set_option maxRecDepth 20000 in
theorem fd_X8_send_19 : gFd wsX8_send RX8 19 7 RX8 TX8 4 1 := ⟨in_X8_send_X8, rfl, by decide, by decide +kernel⟩
theorem cb_X8_send__X0_record : gCb yX0_record cX0_record 2 none wsX0_record (gR 4) (gR 5) 0 0 1 := ⟨rfl, rfl, rfl, by decide +kernel, by decide⟩
theorem cb_X8_send__X7_addSheet : gCb yX7_addSheet cX7_addSheet 3 (some .int) wsX7_addSheet (gR 3) (gR 5) 0 0 1 := ⟨rfl, rfl, rfl, by decide +kernel, by decide⟩
set_option maxRecDepth 20000 in
theorem in_X8_putSheet_X8 : ∀ w ∈ wsX80, w ∈ wsX8_putSheet := by decide +kernel
set_option maxRecDepth 20000 in
theorem fd_X8_putSheet_19 : gFd wsX8_putSheet RX8 19 7 RX8 TX8 4 1 := ⟨in_X8_putSheet_X8, rfl, by decide, by decide +kernel⟩
set_option maxRecDepth 20000 in
theorem fd_X8_putSheet_12 : gFd wsX8_putSheet RX8 12 7 RX8 TX8 4 0 := ⟨in_X8_putSheet_X8, rfl, by decide, by decide +kernel⟩
theorem cb_X8_putSheet__X0_record : gCb yX0_record cX0_record 2 none wsX0_record (gR 4) (gR 5) 0 0 1 := ⟨rfl, rfl, rfl, by decide +kernel, by decide⟩
set_option maxRecDepth 20000 in
theorem in_X8_putSheet_X6 : ∀ w ∈ wsX60, w ∈ wsX8_putSheet := by decide +kernel
set_option maxRecDepth 20000 in
theorem fd_X8_putSheet_80 : gFn wsX8_putSheet RX8 80 5 RX6 TX6 3 2 := ⟨in_X8_putSheet_X6, rfl, by decide, by decide +kernel⟩
set_option maxRecDepth 20000 in
theorem fd_X8_putSheet_96 : gFn wsX8_putSheet RX8 96 5 RX6 TX6 3 0 := ⟨in_X8_putSheet_X6, rfl, by decide, by decide +kernel⟩
theorem cb_X8_putSheet__X5_used : gCb yX5_used cX5_used 1 (some .int) wsX5_used (gR 0) (gR 5) 0 0 0 := ⟨rfl, rfl, rfl, by decide +kernel, by decide⟩
set_option maxRecDepth 20000 in
theorem in_X8_bring_X8 : ∀ w ∈ wsX80, w ∈ wsX8_bring := by decide +kernel
set_option maxRecDepth 20000 in
theorem fd_X8_bring_12 : gFd wsX8_bring RX8 12 7 RX8 TX8 4 0 := ⟨in_X8_bring_X8, rfl, by decide, by decide +kernel⟩
theorem cb_X8_bring__X7_sheetNumbered : gCb yX7_sheetNumbered cX7_sheetNumbered 2 (some (.object "ProofSheets$Sheet")) wsX7_sheetNumbered (gR 0) (gR 6) 0 0 1 := ⟨rfl, rfl, rfl, by decide +kernel, by decide⟩
set_option maxRecDepth 20000 in
theorem in_X8_bring_X6 : ∀ w ∈ wsX60, w ∈ wsX8_bring := by decide +kernel
set_option maxRecDepth 20000 in
theorem fd_X8_bring_80 : gFn wsX8_bring RX8 80 5 RX6 TX6 3 2 := ⟨in_X8_bring_X6, rfl, by decide, by decide +kernel⟩
theorem cb_X8_bring__X8_putSheet : gCb yX8_putSheet cX8_putSheet 3 (some .int) wsX8_putSheet (gR 5) (gR 6) 0 0 2 := ⟨rfl, rfl, rfl, by decide +kernel, by decide⟩
set_option maxRecDepth 20000 in
theorem in_X8_find_X8 : ∀ w ∈ wsX80, w ∈ wsX8_find := by decide +kernel
set_option maxRecDepth 20000 in
theorem fd_X8_find_12 : gFd wsX8_find RX8 12 7 RX8 TX8 4 0 := ⟨in_X8_find_X8, rfl, by decide, by decide +kernel⟩
theorem cb_X8_find__X7_sheetNumbered : gCb yX7_sheetNumbered cX7_sheetNumbered 2 (some (.object "ProofSheets$Sheet")) wsX7_sheetNumbered (gR 0) (gR 6) 0 0 1 := ⟨rfl, rfl, rfl, by decide +kernel, by decide⟩
set_option maxRecDepth 20000 in
theorem in_X8_find_X6 : ∀ w ∈ wsX60, w ∈ wsX8_find := by decide +kernel
set_option maxRecDepth 20000 in
theorem fd_X8_find_80 : gFn wsX8_find RX8 80 5 RX6 TX6 3 2 := ⟨in_X8_find_X6, rfl, by decide, by decide +kernel⟩
theorem cb_X8_find__X8_putSheet : gCb yX8_putSheet cX8_putSheet 3 (some .int) wsX8_putSheet (gR 5) (gR 6) 0 0 2 := ⟨rfl, rfl, rfl, by decide +kernel, by decide⟩
set_option maxRecDepth 20000 in
theorem in_X8_lose_X8 : ∀ w ∈ wsX80, w ∈ wsX8_lose := by decide +kernel
set_option maxRecDepth 20000 in
theorem fd_X8_lose_12 : gFd wsX8_lose RX8 12 7 RX8 TX8 4 0 := ⟨in_X8_lose_X8, rfl, by decide, by decide +kernel⟩
theorem cb_X8_lose__X7_sheetNumbered : gCb yX7_sheetNumbered cX7_sheetNumbered 2 (some (.object "ProofSheets$Sheet")) wsX7_sheetNumbered (gR 0) (gR 6) 0 0 1 := ⟨rfl, rfl, rfl, by decide +kernel, by decide⟩
set_option maxRecDepth 20000 in
theorem in_X8_lose_X6 : ∀ w ∈ wsX60, w ∈ wsX8_lose := by decide +kernel
set_option maxRecDepth 20000 in
theorem fd_X8_lose_80 : gFn wsX8_lose RX8 80 5 RX6 TX6 3 2 := ⟨in_X8_lose_X6, rfl, by decide, by decide +kernel⟩
theorem cb_X8_lose__X8_putSheet : gCb yX8_putSheet cX8_putSheet 3 (some .int) wsX8_putSheet (gR 5) (gR 6) 0 0 2 := ⟨rfl, rfl, rfl, by decide +kernel, by decide⟩
set_option maxRecDepth 20000 in
theorem in_X8_merge_X8 : ∀ w ∈ wsX80, w ∈ wsX8_merge := by decide +kernel
set_option maxRecDepth 20000 in
theorem fd_X8_merge_12 : gFd wsX8_merge RX8 12 7 RX8 TX8 4 0 := ⟨in_X8_merge_X8, rfl, by decide, by decide +kernel⟩
theorem cb_X8_merge__X7_sheetNumbered : gCb yX7_sheetNumbered cX7_sheetNumbered 2 (some (.object "ProofSheets$Sheet")) wsX7_sheetNumbered (gR 0) (gR 5) 0 0 1 := ⟨rfl, rfl, rfl, by decide +kernel, by decide⟩
set_option maxRecDepth 20000 in
theorem in_X8_merge_X6 : ∀ w ∈ wsX60, w ∈ wsX8_merge := by decide +kernel
set_option maxRecDepth 20000 in
theorem fd_X8_merge_80 : gFn wsX8_merge RX8 80 5 RX6 TX6 3 2 := ⟨in_X8_merge_X6, rfl, by decide, by decide +kernel⟩
set_option maxRecDepth 20000 in
theorem fd_X8_merge_19 : gFd wsX8_merge RX8 19 7 RX8 TX8 4 1 := ⟨in_X8_merge_X8, rfl, by decide, by decide +kernel⟩
theorem cb_X8_merge__X0_record : gCb yX0_record cX0_record 2 none wsX0_record (gR 4) (gR 5) 0 0 1 := ⟨rfl, rfl, rfl, by decide +kernel, by decide⟩
theorem cb_X8_merge__X7_mergeMarksOf : gCb yX7_mergeMarksOf cX7_mergeMarksOf 4 (some .int) wsX7_mergeMarksOf (gR 4) (gR 5) 0 0 1 := ⟨rfl, rfl, rfl, by decide +kernel, by decide⟩
set_option maxRecDepth 20000 in
theorem in_X8_sheet_X8 : ∀ w ∈ wsX80, w ∈ wsX8_sheet := by decide +kernel
set_option maxRecDepth 20000 in
theorem fd_X8_sheet_12 : gFd wsX8_sheet RX8 12 7 RX8 TX8 4 0 := ⟨in_X8_sheet_X8, rfl, by decide, by decide +kernel⟩
theorem cb_X8_sheet__X7_sheetNumbered : gCb yX7_sheetNumbered cX7_sheetNumbered 2 (some (.object "ProofSheets$Sheet")) wsX7_sheetNumbered (gR 0) (gR 5) 0 0 1 := ⟨rfl, rfl, rfl, by decide +kernel, by decide⟩
set_option maxRecDepth 20000 in
theorem in_X8_sheet_X6 : ∀ w ∈ wsX60, w ∈ wsX8_sheet := by decide +kernel
set_option maxRecDepth 20000 in
theorem fd_X8_sheet_93 : gFn wsX8_sheet RX8 93 5 RX6 TX6 3 1 := ⟨in_X8_sheet_X6, rfl, by decide, by decide +kernel⟩
set_option maxRecDepth 20000 in
theorem fd_X8_sheet_80 : gFn wsX8_sheet RX8 80 5 RX6 TX6 3 2 := ⟨in_X8_sheet_X6, rfl, by decide, by decide +kernel⟩
set_option maxRecDepth 20000 in
theorem fd_X8_sheet_96 : gFn wsX8_sheet RX8 96 5 RX6 TX6 3 0 := ⟨in_X8_sheet_X6, rfl, by decide, by decide +kernel⟩
theorem cb_X8_sheet__X5_used : gCb yX5_used cX5_used 1 (some .int) wsX5_used (gR 0) (gR 5) 0 0 0 := ⟨rfl, rfl, rfl, by decide +kernel, by decide⟩
set_option maxRecDepth 20000 in
theorem in_X8_sheet_X7 : ∀ w ∈ wsX70, w ∈ wsX8_sheet := by decide +kernel
set_option maxRecDepth 20000 in
theorem fd_X8_sheet_99 : gFn wsX8_sheet RX8 99 6 RX7 TX7 9 2 := ⟨in_X8_sheet_X7, rfl, by decide, by decide +kernel⟩
theorem cb_X8_sheet__X2_howManyAreListed : gCb yX2_howManyAreListed cX2_howManyAreListed 4 (some .int) wsX2_howManyAreListed (gR 3) (gR 5) 0 0 1 := ⟨rfl, rfl, rfl, by decide +kernel, by decide⟩
theorem cb_X8_sheet__X2_howManyMeetAnAccepted : gCb yX2_howManyMeetAnAccepted cX2_howManyMeetAnAccepted 4 (some .int) wsX2_howManyMeetAnAccepted (gR 4) (gR 5) 0 0 1 := ⟨rfl, rfl, rfl, by decide +kernel, by decide⟩
set_option maxRecDepth 20000 in
theorem in_X8_written_X8 : ∀ w ∈ wsX80, w ∈ wsX8_written := by decide +kernel
set_option maxRecDepth 20000 in
theorem fd_X8_written_12 : gFd wsX8_written RX8 12 7 RX8 TX8 4 0 := ⟨in_X8_written_X8, rfl, by decide, by decide +kernel⟩
theorem cb_X8_written__X7_sheetNumbered : gCb yX7_sheetNumbered cX7_sheetNumbered 2 (some (.object "ProofSheets$Sheet")) wsX7_sheetNumbered (gR 0) (gR 3) 0 0 1 := ⟨rfl, rfl, rfl, by decide +kernel, by decide⟩
theorem cb_X8_written__X8_isOutside : gCb yX8_isOutside cX8_isOutside 3 (some .boolean) wsX8_isOutside (gR 0) (gR 3) 0 0 3 := ⟨rfl, rfl, rfl, by decide +kernel, by decide⟩
set_option maxRecDepth 20000 in
theorem in_X8_written_X6 : ∀ w ∈ wsX60, w ∈ wsX8_written := by decide +kernel
set_option maxRecDepth 20000 in
theorem fd_X8_written_96 : gFn wsX8_written RX8 96 5 RX6 TX6 3 0 := ⟨in_X8_written_X6, rfl, by decide, by decide +kernel⟩
theorem cb_X8_written__X5_used : gCb yX5_used cX5_used 1 (some .int) wsX5_used (gR 0) (gR 3) 0 0 0 := ⟨rfl, rfl, rfl, by decide +kernel, by decide⟩
theorem cb_X8_written__X5_get : gCb yX5_get cX5_get 2 (some .int) wsX5_get (gR 1) (gR 3) 0 0 1 := ⟨rfl, rfl, rfl, by decide +kernel, by decide⟩
set_option maxRecDepth 20000 in
theorem in_X8_written_X7 : ∀ w ∈ wsX70, w ∈ wsX8_written := by decide +kernel
set_option maxRecDepth 20000 in
theorem fd_X8_written_99 : gFn wsX8_written RX8 99 6 RX7 TX7 9 2 := ⟨in_X8_written_X7, rfl, by decide, by decide +kernel⟩
set_option maxRecDepth 20000 in
theorem in_X8_written_X2 : ∀ w ∈ wsX20, w ∈ wsX8_written := by decide +kernel
set_option maxRecDepth 20000 in
theorem fd_X8_written_125 : gFn wsX8_written RX8 125 1 RX2 TX2 4 0 := ⟨in_X8_written_X2, rfl, by decide, by decide +kernel⟩
theorem cb_X8_written__X5_placeOf : gCb yX5_placeOf cX5_placeOf 3 (some .int) wsX5_placeOf (gR 2) (gR 3) 0 0 1 := ⟨rfl, rfl, rfl, by decide +kernel, by decide⟩
theorem cb_X8_written__X1_partOf : gCb yX1_partOf cX1_partOf 2 (some .int) wsX1_partOf (gR 1) (gR 3) 0 0 2 := ⟨rfl, rfl, rfl, by decide +kernel, by decide⟩
set_option maxRecDepth 20000 in
theorem in_X8_undo_X8 : ∀ w ∈ wsX80, w ∈ wsX8_undo := by decide +kernel
set_option maxRecDepth 20000 in
theorem fd_X8_undo_19 : gFd wsX8_undo RX8 19 7 RX8 TX8 4 1 := ⟨in_X8_undo_X8, rfl, by decide, by decide +kernel⟩
set_option maxRecDepth 20000 in
theorem in_X8_undo_X0 : ∀ w ∈ wsX00, w ∈ wsX8_undo := by decide +kernel
set_option maxRecDepth 20000 in
theorem fd_X8_undo_131 : gFn wsX8_undo RX8 131 0 RX0 TX0 2 1 := ⟨in_X8_undo_X0, rfl, by decide, by decide +kernel⟩
set_option maxRecDepth 20000 in
theorem fd_X8_undo_12 : gFd wsX8_undo RX8 12 7 RX8 TX8 4 0 := ⟨in_X8_undo_X8, rfl, by decide, by decide +kernel⟩
theorem cb_X8_undo__X0_restore : gCb yX0_restore cX0_restore 3 none wsX0_restore (gR 4) (gR 5) 0 0 1 := ⟨rfl, rfl, rfl, by decide +kernel, by decide⟩
theorem cb_X8_count__X8_isOutside : gCb yX8_isOutside cX8_isOutside 3 (some .boolean) wsX8_isOutside (gR 0) (gR 5) 0 0 3 := ⟨rfl, rfl, rfl, by decide +kernel, by decide⟩
set_option maxRecDepth 20000 in
theorem in_X8_count_X8 : ∀ w ∈ wsX80, w ∈ wsX8_count := by decide +kernel
set_option maxRecDepth 20000 in
theorem fd_X8_count_12 : gFd wsX8_count RX8 12 7 RX8 TX8 4 0 := ⟨in_X8_count_X8, rfl, by decide, by decide +kernel⟩
set_option maxRecDepth 20000 in
theorem in_X8_count_X7 : ∀ w ∈ wsX70, w ∈ wsX8_count := by decide +kernel
set_option maxRecDepth 20000 in
theorem fd_X8_count_45 : gFn wsX8_count RX8 45 6 RX7 TX7 9 0 := ⟨in_X8_count_X7, rfl, by decide, by decide +kernel⟩
theorem cb_X8_count__X5_used : gCb yX5_used cX5_used 1 (some .int) wsX5_used (gR 0) (gR 5) 0 0 0 := ⟨rfl, rfl, rfl, by decide +kernel, by decide⟩
set_option maxRecDepth 20000 in
theorem fd_X8_count_41 : gFn wsX8_count RX8 41 6 RX7 TX7 9 7 := ⟨in_X8_count_X7, rfl, by decide, by decide +kernel⟩
set_option maxRecDepth 20000 in
theorem fd_X8_count_69 : gFn wsX8_count RX8 69 6 RX7 TX7 9 8 := ⟨in_X8_count_X7, rfl, by decide, by decide +kernel⟩
theorem cb_X8_count__X7_howManySheetsAre : gCb yX7_howManySheetsAre cX7_howManySheetsAre 5 (some .int) wsX7_howManySheetsAre (gR 1) (gR 5) 0 0 1 := ⟨rfl, rfl, rfl, by decide +kernel, by decide⟩
set_option maxRecDepth 20000 in
theorem fd_X8_count_99 : gFn wsX8_count RX8 99 6 RX7 TX7 9 2 := ⟨in_X8_count_X7, rfl, by decide, by decide +kernel⟩
set_option maxRecDepth 20000 in
theorem in_X8_count_X2 : ∀ w ∈ wsX20, w ∈ wsX8_count := by decide +kernel
set_option maxRecDepth 20000 in
theorem fd_X8_count_125 : gFn wsX8_count RX8 125 1 RX2 TX2 4 0 := ⟨in_X8_count_X2, rfl, by decide, by decide +kernel⟩
theorem cb_X8_count__X2_howManyAreOpen : gCb yX2_howManyAreOpen cX2_howManyAreOpen 3 (some .int) wsX2_howManyAreOpen (gR 2) (gR 5) 0 0 0 := ⟨rfl, rfl, rfl, by decide +kernel, by decide⟩
set_option maxRecDepth 20000 in
theorem fd_X8_count_19 : gFd wsX8_count RX8 19 7 RX8 TX8 4 1 := ⟨in_X8_count_X8, rfl, by decide, by decide +kernel⟩
set_option maxRecDepth 20000 in
theorem in_X8_count_X0 : ∀ w ∈ wsX00, w ∈ wsX8_count := by decide +kernel
set_option maxRecDepth 20000 in
theorem fd_X8_count_131 : gFn wsX8_count RX8 131 0 RX0 TX0 2 1 := ⟨in_X8_count_X0, rfl, by decide, by decide +kernel⟩
set_option maxRecDepth 20000 in
theorem fd_X8_count_26 : gFd wsX8_count RX8 26 7 RX8 TX8 4 2 := ⟨in_X8_count_X8, rfl, by decide, by decide +kernel⟩
set_option maxRecDepth 20000 in
theorem in_X8_count_X3 : ∀ w ∈ wsX30, w ∈ wsX8_count := by decide +kernel
set_option maxRecDepth 20000 in
theorem fd_X8_count_145 : gFn wsX8_count RX8 145 2 RX3 TX3 5 0 := ⟨in_X8_count_X3, rfl, by decide, by decide +kernel⟩
theorem cb_X8_count__X2_opposedPairs : gCb yX2_opposedPairs cX2_opposedPairs 3 (some .int) wsX2_opposedPairs (gR 4) (gR 5) 0 0 0 := ⟨rfl, rfl, rfl, by decide +kernel, by decide⟩
theorem cb_X8_count__X7_account : gCb yX7_account cX7_account 2 (some .int) wsX7_account (gR 3) (gR 5) 0 0 1 := ⟨rfl, rfl, rfl, by decide +kernel, by decide⟩
set_option maxRecDepth 20000 in
theorem in_X8_at_X8 : ∀ w ∈ wsX80, w ∈ wsX8_at := by decide +kernel
set_option maxRecDepth 20000 in
theorem fd_X8_at_12 : gFd wsX8_at RX8 12 7 RX8 TX8 4 0 := ⟨in_X8_at_X8, rfl, by decide, by decide +kernel⟩
set_option maxRecDepth 20000 in
theorem in_X8_at_X7 : ∀ w ∈ wsX70, w ∈ wsX8_at := by decide +kernel
set_option maxRecDepth 20000 in
theorem fd_X8_at_45 : gFn wsX8_at RX8 45 6 RX7 TX7 9 0 := ⟨in_X8_at_X7, rfl, by decide, by decide +kernel⟩
theorem cb_X8_at__X8_characterIn : gCb yX8_characterIn cX8_characterIn 2 (some .int) wsX8_characterIn (gR 2) (gR 3) 0 0 2 := ⟨rfl, rfl, rfl, by decide +kernel, by decide⟩
set_option maxHeartbeats 600000 in
set_option maxRecDepth 100000 in
/-- X8_isNoCharacter -/
theorem k8_isNoCharacter (l : Launch) (D : gD) (A : Nat → Prop) (hs : Nat) {G : gH} (z : Int32) : gM l yX8_isNoCharacter wsX8_isNoCharacter (gR 1) D A hs 0 0 [.int z] G (gPi fun x G' => x = pOut z 32 126 ∧ G' = G) := by
  refine gM_intro (by decide) rfl rfl (Nat.le_of_ble_eq_true rfl) ?_
  intro p e s m args below meth c C
  refine gx_iload_n C dX8_isNoCharacter_0 rfl ?_
  refine gx_bipush (v := 32) C dX8_isNoCharacter_1 (by decide) ?_
  refine gx_bipush (v := 126) C dX8_isNoCharacter_3 (by decide) ?_
  refine gx_callS C (k8_isOutside l D A hs z 32 126) cb_X8_isNoCharacter__X8_isOutside gX8_isNoCharacter_X8_isOutside rfl rfl (Nat.le_of_ble_eq_true rfl) ⟨Nat.le_refl _, Nat.le_refl _⟩ dX8_isNoCharacter_5 (gx_ki fun r_5 G_5 h_5 => ?_)
  obtain ⟨rfl, rfl⟩ := h_5
  refine gx_zret (mc := 0) C (gz_b pOut_b) ?_ dX8_isNoCharacter_8
  exact ⟨_, rfl, rfl, rfl⟩
set_option maxHeartbeats 600000 in
set_option maxRecDepth 100000 in
/-- X8_isNoReader -/
theorem k8_isNoReader (l : Launch) (D : gD) (A : Nat → Prop) (hs : Nat) {G : gH} (z : Int32) : gM l yX8_isNoReader wsX8_isNoReader (gR 1) D A hs 0 0 [.int z] G (gPi fun x G' => x = pOut z 0 5 ∧ G' = G) := by
  refine gM_intro (by decide) rfl rfl (Nat.le_of_ble_eq_true rfl) ?_
  intro p e s m args below meth c C
  refine gx_iload_n C dX8_isNoReader_0 rfl ?_
  refine gx_iconst (v := 0) C dX8_isNoReader_1 (by decide) ?_
  refine gx_iconst (v := 5) C dX8_isNoReader_2 (by decide) ?_
  refine gx_callS C (k8_isOutside l D A hs z 0 5) cb_X8_isNoReader__X8_isOutside gX8_isNoReader_X8_isOutside rfl rfl (Nat.le_of_ble_eq_true rfl) ⟨Nat.le_refl _, Nat.le_refl _⟩ dX8_isNoReader_3 (gx_ki fun r_3 G_3 h_3 => ?_)
  obtain ⟨rfl, rfl⟩ := h_3
  refine gx_zret (mc := 0) C (gz_b pOut_b) ?_ dX8_isNoReader_6
  exact ⟨_, rfl, rfl, rfl⟩
set_option maxHeartbeats 600000 in
set_option maxRecDepth 100000 in
/-- X8_characterIn -/
theorem k8_characterIn (l : Launch) (D : gD) (A : Nat → Prop) (hs : Nat) {G : gH} {r cap : Nat} {xs : List Int32} (hr : gRow D G r cap xs) (z : Int32) : gM l yX8_characterIn wsX8_characterIn (gR 2) D A hs 0 0 [.ref r, .int z] G (gPi fun x G' => x = oChr xs z ∧ G' = G) := by
  refine gM_intro (by decide) rfl rfl (Nat.le_of_ble_eq_true rfl) ?_
  intro p e s m args below meth c C
  have bx := gRow_le hr
  refine gx_iload_n C dX8_characterIn_0 rfl ?_
  refine gx_if_ge (tgt := 6) C dX8_characterIn_1 (by decide) (fun c_1 => ?_) (fun c_1 => ?_)
  · refine gx_iload_n C dX8_characterIn_6 rfl ?_
    refine gx_aload_n C dX8_characterIn_7 rfl ?_
    refine gx_callV (ci := 4) (T := TX5) (N := 2) C (k5_used l D A hs hr) cb_X8_characterIn__X5_used gX8_characterIn_X5_used rfl (hG := (gRow_ob hr)) rfl rfl (Nat.le_of_ble_eq_true rfl) ⟨Nat.le_refl _, Nat.le_refl _⟩ dX8_characterIn_8 (gx_ki fun r_8 G_8 h_8 => ?_)
    obtain ⟨rfl, rfl⟩ := h_8
    refine gx_icmp_ge (tgt := 22) C dX8_characterIn_11 (by decide) (fun c_11 => ?_) (fun c_11 => ?_)
    · have e : oChr xs z = -4 := by rw [oChr, if_neg (Int32.not_lt.mpr c_1), if_neg (Int32.not_lt.mpr c_11)]
      refine gx_bipush (v := (-4)) C dX8_characterIn_22 (by decide) ?_
      refine gx_zret (mc := 0) C rfl ?_ dX8_characterIn_24
      exact ⟨_, rfl, e.symm, rfl⟩
    · have e : oChr xs z = lget xs z := by rw [oChr, if_neg (Int32.not_lt.mpr c_1), if_pos (Int32.not_le.mp c_11)]
      refine gx_aload_n C dX8_characterIn_14 rfl ?_
      refine gx_iload_n C dX8_characterIn_15 rfl ?_
      refine gx_callV (ci := 4) (T := TX5) (N := 2) C (k5_get l D A hs z hr) cb_X8_characterIn__X5_get gX8_characterIn_X5_get rfl (hG := (gRow_ob hr)) rfl rfl (Nat.le_of_ble_eq_true rfl) ⟨Nat.le_refl _, Nat.le_refl _⟩ dX8_characterIn_16 (gx_ki fun r_16 G_16 h_16 => ?_)
      obtain ⟨rfl, rfl⟩ := h_16
      refine gx_goto (tgt := 24) C dX8_characterIn_19 (by decide) ?_
      refine gx_zret (mc := 0) C rfl ?_ dX8_characterIn_24
      exact ⟨_, rfl, e.symm, rfl⟩
  · have e : oChr xs z = -1 := if_pos (Int32.not_le.mp c_1)
    refine gx_iconst (v := (-1)) C dX8_characterIn_4 (by decide) ?_
    refine gx_zret (mc := 0) C rfl ?_ dX8_characterIn_5
    exact ⟨_, rfl, e.symm, rfl⟩
set_option maxHeartbeats 600000 in
set_option maxRecDepth 100000 in
/-- X8_put -/
theorem k8_put (l : Launch) (D : gD) (A : Nat → Prop) (hs : Nat) {G : gH} {X : Nat} {t : TS} (h : gCw D G X t) (z : Int32) : gM l yX8_put wsX8_put (gR 5) D A hs 0 0 [.ref X, .int z] G (gPi fun x G' => x = (oPut z t).1 ∧ gCw D G' X (oPut z t).2 ∧ gOut X 242 G G') := by
  refine gM_intro (by decide) rfl rfl (Nat.le_of_ble_eq_true rfl) ?_
  intro p e s m args below meth c C
  obtain ⟨hob, hv, hh, hmt, hps⟩ := id h
  have bt := gRow_le (gSv_tx hv)
  refine gx_iload_n C dX8_put_0 rfl ?_
  refine gx_callS C (k8_isNoCharacter l D A hs z) cb_X8_put__X8_isNoCharacter gX8_put_X8_isNoCharacter rfl rfl (Nat.le_of_ble_eq_true rfl) ⟨Nat.le_refl _, Nat.le_refl _⟩ dX8_put_1 (gx_ki fun r_1 G_1 h_1 => ?_)
  obtain ⟨rfl, rfl⟩ := h_1
  refine gx_if_eq (tgt := 9) C dX8_put_4 (by decide) (fun c_4 => ?_) (fun c_4 => ?_)
  · have n1 : ¬ pOut z 32 126 = 1 := by rw [c_4]; decide
    refine gx_aload_n C dX8_put_9 rfl ?_
    refine gx_get C fd_X8_put_12 (hG := hob) (hv := by rfl) dX8_put_10 ?_
    refine gx_getN C fd_X8_put_41 (hG := hv.1) (hv := by rfl) dX8_put_13 ?_
    refine gx_if_eq (tgt := 22) C dX8_put_16 (by decide) (fun c_16 => ?_) (fun c_16 => ?_)
    · refine gx_aload_n C dX8_put_22 rfl ?_
      refine gx_get C fd_X8_put_12 (hG := hob) (hv := by rfl) dX8_put_23 ?_
      refine gx_getN C fd_X8_put_45 (hG := hv.1) (hv := by rfl) dX8_put_26 ?_
      refine gx_callV (ci := 4) (T := TX5) (N := 2) C (k5_used l D A hs (gSv_tx hv)) cb_X8_put__X5_used gX8_put_X5_used rfl (hG := (gRow_ob (gSv_tx hv))) rfl rfl (Nat.le_of_ble_eq_true rfl) ⟨Nat.le_refl _, Nat.le_refl _⟩ dX8_put_29 (gx_ki fun r_29 G_29 h_29 => ?_)
      obtain ⟨rfl, rfl⟩ := h_29
      refine gx_bipush (v := 100) C dX8_put_32 (by decide) ?_
      refine gx_icmp_lt (tgt := 40) C dX8_put_34 (by decide) (fun c_34 => ?_) (fun c_34 => ?_)
      · have hlt : t.1.1.length < 100 := (nI_ltI (by omega) (by omega)).mp c_34
        have e : oPut z t = (nI (t.1.1.length + 1), ((t.1.1 ++ [z], t.1.2), pRec t.2.1 t.1, t.2.2)) := by rw [oPut, if_neg n1, if_neg (fun q => q c_16), if_neg (by omega)]
        refine gx_aload_n C dX8_put_40 rfl ?_
        refine gx_get C fd_X8_put_19 (hG := hob) (hv := by rfl) dX8_put_41 ?_
        refine gx_aload_n C dX8_put_44 rfl ?_
        refine gx_get C fd_X8_put_12 (hG := hob) (hv := by rfl) dX8_put_45 ?_
        refine gx_callV (ci := 0) (T := TX0) (N := 2) C (k0_record l D A hs hh hv (by omega)) cb_X8_put__X0_record gX8_put_X0_record rfl (hG := (gHist_ob hh)) rfl rfl (Nat.le_of_ble_eq_true rfl) ⟨Nat.le_refl _, Nat.le_refl _⟩ dX8_put_48 (gx_kv fun G_48 h_48 => ?_)
        have k1 := gCw_hi h h_48.1 h_48.2
        have v1 := k1.2.1
        have o1 := gOut_wd (b := X) (k := 242) h_48.2 (by omega)
        refine gx_aload_n C dX8_put_51 rfl ?_
        refine gx_get C fd_X8_put_12 (hG := k1.1) (hv := by rfl) dX8_put_52 ?_
        refine gx_getN C fd_X8_put_45 (hG := v1.1) (hv := by rfl) dX8_put_55 ?_
        refine gx_iload_n C dX8_put_58 rfl ?_
        refine gx_callV (ci := 4) (T := TX5) (N := 2) C (k5_append l D A hs z (gSv_tx v1)) cb_X8_put__X5_append gX8_put_X5_append rfl (hG := (gRow_ob (gSv_tx v1))) rfl rfl (Nat.le_of_ble_eq_true rfl) ⟨Nat.le_refl _, Nat.le_refl _⟩ dX8_put_59 (gx_kv fun G_59 h_59 => ?_)
        have a9 := h_59.1
        rw [lapp, if_pos hlt] at a9
        have k2 := gCw_sv k1 (gSv_tx' v1 a9 h_59.2) (gOut_wd h_59.2 (by omega))
        have o2 := gOut_tr o1 (gOut_wd (b := X) (k := 242) h_59.2 (by omega))
        refine gx_aload_n C dX8_put_62 rfl ?_
        refine gx_get C fd_X8_put_12 (hG := k2.1) (hv := by rfl) dX8_put_63 ?_
        refine gx_getN C fd_X8_put_45 (hG := k2.2.1.1) (hv := by rfl) dX8_put_66 ?_
        refine gx_callV (ci := 4) (T := TX5) (N := 2) C (k5_used l D A hs (gSv_tx k2.2.1)) cb_X8_put__X5_used gX8_put_X5_used rfl (hG := (gRow_ob (gSv_tx k2.2.1))) rfl rfl (Nat.le_of_ble_eq_true rfl) ⟨Nat.le_refl _, Nat.le_refl _⟩ dX8_put_69 (gx_ki fun r_69 G_69 h_69 => ?_)
        obtain ⟨rfl, rfl⟩ := h_69
        refine gx_zret (mc := 0) C rfl ?_ dX8_put_72
        exact ⟨_, rfl, by rw [e]; show nI (t.1.1 ++ [z]).length = _; rw [List.length_append]; rfl, by rw [e]; exact k2, o2⟩
      · have hge : 100 ≤ t.1.1.length := by
          rcases Nat.lt_or_ge t.1.1.length 100 with q | q
          · exact absurd (nI_lt q (by omega)) c_34
          · exact q
        have e : oPut z t = (-3, t) := by rw [oPut, if_neg n1, if_neg (fun q => q c_16), if_pos hge]
        refine gx_bipush (v := (-3)) C dX8_put_37 (by decide) ?_
        refine gx_zret (mc := 0) C rfl ?_ dX8_put_39
        exact ⟨_, rfl, by rw [e], by rw [e]; exact h, gOut_rf⟩
    · have e : oPut z t = (-2, t) := by rw [oPut, if_neg n1, if_pos c_16]
      refine gx_bipush (v := (-2)) C dX8_put_19 (by decide) ?_
      refine gx_zret (mc := 0) C rfl ?_ dX8_put_21
      exact ⟨_, rfl, by rw [e], by rw [e]; exact h, gOut_rf⟩
  · have e : oPut z t = (-1, t) := if_pos (pOut_n c_4)
    refine gx_iconst (v := (-1)) C dX8_put_7 (by decide) ?_
    refine gx_zret (mc := 0) C rfl ?_ dX8_put_8
    exact ⟨_, rfl, by rw [e], by rw [e]; exact h, gOut_rf⟩
set_option maxHeartbeats 600000 in
set_option maxRecDepth 100000 in
/-- X8_begin -/
theorem k8_begin (l : Launch) (D : gD) (A : Nat → Prop) (hs : Nat) {G : gH} {X : Nat} {t : TS} (h : gCw D G X t) : gM l yX8_begin wsX8_begin (gR 5) D A hs 0 0 [.ref X] G (gPi fun x G' => x = (oBegin t).1 ∧ gCw D G' X (oBegin t).2 ∧ gOut X 242 G G') := by
  refine gM_intro (by decide) rfl rfl (Nat.le_of_ble_eq_true rfl) ?_
  intro p e s m args below meth c C
  obtain ⟨hob, hv, hh, hmt, hps⟩ := id h
  have bt := gRow_le (gSv_tx hv)
  refine gx_aload_n C dX8_begin_0 rfl ?_
  refine gx_get C fd_X8_begin_12 (hG := hob) (hv := by rfl) dX8_begin_1 ?_
  refine gx_getN C fd_X8_begin_41 (hG := hv.1) (hv := by rfl) dX8_begin_4 ?_
  refine gx_if_ne (tgt := 23) C dX8_begin_7 (by decide) (fun c_7 => ?_) (fun c_7 => ?_)
  · have e : oBegin t = (-2, t) := if_pos (Or.inl c_7)
    refine gx_bipush (v := (-2)) C dX8_begin_23 (by decide) ?_
    refine gx_zret (mc := 0) C rfl ?_ dX8_begin_25
    exact ⟨_, rfl, by rw [e], by rw [e]; exact h, gOut_rf⟩
  · refine gx_aload_n C dX8_begin_10 rfl ?_
    refine gx_get C fd_X8_begin_12 (hG := hob) (hv := by rfl) dX8_begin_11 ?_
    refine gx_getN C fd_X8_begin_45 (hG := hv.1) (hv := by rfl) dX8_begin_14 ?_
    refine gx_callV (ci := 4) (T := TX5) (N := 2) C (k5_used l D A hs (gSv_tx hv)) cb_X8_begin__X5_used gX8_begin_X5_used rfl (hG := (gRow_ob (gSv_tx hv))) rfl rfl (Nat.le_of_ble_eq_true rfl) ⟨Nat.le_refl _, Nat.le_refl _⟩ dX8_begin_17 (gx_ki fun r_17 G_17 h_17 => ?_)
    obtain ⟨rfl, rfl⟩ := h_17
    refine gx_if_ne (tgt := 26) C dX8_begin_20 (by decide) (fun c_20 => ?_) (fun c_20 => ?_)
    · have e : oBegin t = (nI t.1.1.length, ((t.1.1, 1, t.1.2.2), pRec t.2.1 t.1, t.2.2)) := if_neg (fun q => q.elim (fun q => q c_7) (fun q => c_20 (by rw [q]; rfl)))
      refine gx_aload_n C dX8_begin_26 rfl ?_
      refine gx_get C fd_X8_begin_19 (hG := hob) (hv := by rfl) dX8_begin_27 ?_
      refine gx_aload_n C dX8_begin_30 rfl ?_
      refine gx_get C fd_X8_begin_12 (hG := hob) (hv := by rfl) dX8_begin_31 ?_
      refine gx_callV (ci := 0) (T := TX0) (N := 2) C (k0_record l D A hs hh hv (by omega)) cb_X8_begin__X0_record gX8_begin_X0_record rfl (hG := (gHist_ob hh)) rfl rfl (Nat.le_of_ble_eq_true rfl) ⟨Nat.le_refl _, Nat.le_refl _⟩ dX8_begin_34 (gx_kv fun G_34 h_34 => ?_)
      have k1 := gCw_hi h h_34.1 h_34.2
      have v1 := k1.2.1
      have o1 := gOut_wd (b := X) (k := 242) h_34.2 (by omega)
      refine gx_aload_n C dX8_begin_37 rfl ?_
      refine gx_get C fd_X8_begin_12 (hG := k1.1) (hv := by rfl) dX8_begin_38 ?_
      refine gx_iconst (v := 1) C dX8_begin_41 (by decide) ?_
      refine gx_putN C fd_X8_begin_41 tyX7_ok nmX7 rfl rfl rfl (hG := v1.1) (hl := by exact Nat.le_of_ble_eq_true rfl) dX8_begin_42 ?_
      have k2 := gCw_sv k1 (gSv_rd' (x := 1) v1) (gOut_up gOut_rf (by omega))
      refine gx_aload_n C dX8_begin_45 rfl ?_
      refine gx_get C fd_X8_begin_12 (hG := k2.1) (hv := by rfl) dX8_begin_46 ?_
      refine gx_getN C fd_X8_begin_45 (hG := k2.2.1.1) (hv := by rfl) dX8_begin_49 ?_
      refine gx_callV (ci := 4) (T := TX5) (N := 2) C (k5_used l D A hs (gSv_tx k2.2.1)) cb_X8_begin__X5_used gX8_begin_X5_used rfl (hG := (gRow_ob (gSv_tx k2.2.1))) rfl rfl (Nat.le_of_ble_eq_true rfl) ⟨Nat.le_refl _, Nat.le_refl _⟩ dX8_begin_52 (gx_ki fun r_52 G_52 h_52 => ?_)
      obtain ⟨rfl, rfl⟩ := h_52
      refine gx_zret (mc := 0) C rfl ?_ dX8_begin_55
      exact ⟨_, rfl, by rw [e], by rw [e]; exact k2, gOut_up o1 (by omega)⟩
    · have e : oBegin t = (-2, t) := if_pos (Or.inr ((nI_eq (b := 0) (by omega) (by omega)).mp c_20))
      refine gx_bipush (v := (-2)) C dX8_begin_23 (by decide) ?_
      refine gx_zret (mc := 0) C rfl ?_ dX8_begin_25
      exact ⟨_, rfl, by rw [e], by rw [e]; exact h, gOut_rf⟩
set_option maxHeartbeats 600000 in
set_option maxRecDepth 100000 in
/-- X8_send -/
theorem k8_send (l : Launch) (D : gD) (A : Nat → Prop) (hs : Nat) {G : gH} {X : Nat} {t : TS} (h : gCw D G X t) (z : Int32) : gM l yX8_send wsX8_send (gR 5) D A hs 0 0 [.ref X, .int z] G (gPi fun x G' => x = (oSend z t).1 ∧ gCw D G' X (oSend z t).2 ∧ gOut X 242 G G') := by
  refine gM_intro (by decide) rfl rfl (Nat.le_of_ble_eq_true rfl) ?_
  intro p e s m args below meth c C
  obtain ⟨hob, hv, hh, hmt, hps⟩ := id h
  have bn := gSv_n hv
  refine gx_iload_n C dX8_send_0 rfl ?_
  refine gx_callS C (k8_isNoReader l D A hs z) cb_X8_send__X8_isNoReader gX8_send_X8_isNoReader rfl rfl (Nat.le_of_ble_eq_true rfl) ⟨Nat.le_refl _, Nat.le_refl _⟩ dX8_send_1 (gx_ki fun r_1 G_1 h_1 => ?_)
  obtain ⟨rfl, rfl⟩ := h_1
  refine gx_if_eq (tgt := 9) C dX8_send_4 (by decide) (fun c_4 => ?_) (fun c_4 => ?_)
  · have n1 : ¬ pOut z 0 5 = 1 := by rw [c_4]; decide
    refine gx_aload_n C dX8_send_9 rfl ?_
    refine gx_get C fd_X8_send_12 (hG := hob) (hv := by rfl) dX8_send_10 ?_
    refine gx_getN C fd_X8_send_41 (hG := hv.1) (hv := by rfl) dX8_send_13 ?_
    refine gx_if_eq (tgt := 30) C dX8_send_16 (by decide) (fun c_16 => ?_) (fun c_16 => ?_)
    · have e : oSend z t = (-2, t) := by rw [oSend, if_neg n1, if_pos (Or.inl c_16)]
      refine gx_bipush (v := (-2)) C dX8_send_30 (by decide) ?_
      refine gx_zret (mc := 0) C rfl ?_ dX8_send_32
      exact ⟨_, rfl, by rw [e], by rw [e]; exact h, gOut_rf⟩
    · refine gx_aload_n C dX8_send_19 rfl ?_
      refine gx_get C fd_X8_send_12 (hG := hob) (hv := by rfl) dX8_send_20 ?_
      refine gx_iload_n C dX8_send_23 rfl ?_
      refine gx_callV (ci := 6) (T := TX7) (N := 9) C (k7_hasSheetOut l D A hs hv z) cb_X8_send__X7_hasSheetOut gX8_send_X7_hasSheetOut rfl (hG := hv.1) rfl rfl (Nat.le_of_ble_eq_true rfl) ⟨Nat.le_refl _, Nat.le_refl _⟩ dX8_send_24 (gx_ki fun r_24 G_24 h_24 => ?_)
      obtain ⟨rfl, rfl⟩ := h_24
      refine gx_if_eq (tgt := 33) C dX8_send_27 (by decide) (fun c_27 => ?_) (fun c_27 => ?_)
      · have n2 : ¬ pBusy t.1.2.2.1 z = true := fun q => by
          rw [if_pos q] at c_27; exact absurd c_27 (by decide)
        refine gx_aload_n C dX8_send_33 rfl ?_
        refine gx_get C fd_X8_send_12 (hG := hob) (hv := by rfl) dX8_send_34 ?_
        refine gx_getN C fd_X8_send_69 (hG := hv.1) (hv := by rfl) dX8_send_37 ?_
        refine gx_bipush (v := 8) C dX8_send_40 (by decide) ?_
        refine gx_icmp_lt (tgt := 48) C dX8_send_42 (by decide) (fun c_42 => ?_) (fun c_42 => ?_)
        · have hlt : t.1.2.2.1.length < 8 := (nI_ltI (by omega) (by omega)).mp c_42
          refine gx_aload_n C dX8_send_48 rfl ?_
          refine gx_get C fd_X8_send_19 (hG := hob) (hv := by rfl) dX8_send_49 ?_
          refine gx_aload_n C dX8_send_52 rfl ?_
          refine gx_get C fd_X8_send_12 (hG := hob) (hv := by rfl) dX8_send_53 ?_
          refine gx_callV (ci := 0) (T := TX0) (N := 2) C (k0_record l D A hs hh hv (by omega)) cb_X8_send__X0_record gX8_send_X0_record rfl (hG := (gHist_ob hh)) rfl rfl (Nat.le_of_ble_eq_true rfl) ⟨Nat.le_refl _, Nat.le_refl _⟩ dX8_send_56 (gx_kv fun G_56 h_56 => ?_)
          have k1 := gCw_hi h h_56.1 h_56.2
          have v1 := k1.2.1
          have o1 := gOut_wd (b := X) (k := 242) h_56.2 (by omega)
          refine gx_aload_n C dX8_send_59 rfl ?_
          refine gx_get C fd_X8_send_12 (hG := k1.1) (hv := by rfl) dX8_send_60 ?_
          refine gx_iload_n C dX8_send_63 rfl ?_
          refine gx_callV (ci := 6) (T := TX7) (N := 9) C (k7_addSheet l D A hs v1 z hlt) cb_X8_send__X7_addSheet gX8_send_X7_addSheet rfl (hG := v1.1) rfl rfl (Nat.le_of_ble_eq_true rfl) ⟨Nat.le_refl _, Nat.le_refl _⟩ dX8_send_64 (gx_ki fun r_64 G_64 h_64 => ?_)
          obtain ⟨hr6, hv6, ho6⟩ := h_64
          subst hr6
          have k2 := gCw_sv k1 hv6 ho6
          refine gx_zret (mc := 0) C rfl ?_ dX8_send_67
          refine ⟨_, rfl, ?_, ?_, gOut_tr o1 (gOut_wd ho6 (by omega))⟩ <;> rw [oSend, if_neg n1, if_neg (fun q => q.elim c_16 n2), if_neg (by omega)]
          exact k2
        · have hge : 8 ≤ t.1.2.2.1.length := by
            rcases Nat.lt_or_ge t.1.2.2.1.length 8 with q | q
            · exact absurd (nI_lt q (by omega)) c_42
            · exact q
          have e : oSend z t = (-3, t) := by rw [oSend, if_neg n1, if_neg (fun q => q.elim c_16 n2), if_pos hge]
          refine gx_bipush (v := (-3)) C dX8_send_45 (by decide) ?_
          refine gx_zret (mc := 0) C rfl ?_ dX8_send_47
          exact ⟨_, rfl, by rw [e], by rw [e]; exact h, gOut_rf⟩
      · have q : pBusy t.1.2.2.1 z = true := by
          by_cases q : pBusy t.1.2.2.1 z = true
          · exact q
          · rw [if_neg q] at c_27; exact absurd rfl c_27
        have e : oSend z t = (-2, t) := by rw [oSend, if_neg n1, if_pos (Or.inr q)]
        refine gx_bipush (v := (-2)) C dX8_send_30 (by decide) ?_
        refine gx_zret (mc := 0) C rfl ?_ dX8_send_32
        exact ⟨_, rfl, by rw [e], by rw [e]; exact h, gOut_rf⟩
  · have e : oSend z t = (-1, t) := if_pos (pOut_n c_4)
    refine gx_iconst (v := (-1)) C dX8_send_7 (by decide) ?_
    refine gx_zret (mc := 0) C rfl ?_ dX8_send_8
    exact ⟨_, rfl, by rw [e], by rw [e]; exact h, gOut_rf⟩
set_option maxHeartbeats 600000 in
set_option maxRecDepth 100000 in
/-- X8_putSheet -/
theorem k8_putSheet (l : Launch) (D : gD) (A : Nat → Prop) (hs : Nat) {G : gH} {X : Nat} {t : TS} (h : gCw D G X t) {j : Nat} (hj : j < t.1.2.2.1.length) (z : Int32) : gM l yX8_putSheet wsX8_putSheet (gR 5) D A hs 0 0 [.ref X, .ref (X + 1 + 21 + 3 * j), .int z] G (gPi fun x G' => x = nI (oShj t j).2.2.length ∧ gCw D G' X (oStat t j z) ∧ gOut X 242 G G') := by
  refine gM_intro (by decide) rfl rfl (Nat.le_of_ble_eq_true rfl) ?_
  intro p e s m args below meth c C
  obtain ⟨hob, hv, hh, hmt, hps⟩ := id h
  have bn := gSv_n hv
  refine gx_aload_n C dX8_putSheet_0 rfl ?_
  refine gx_get C fd_X8_putSheet_19 (hG := hob) (hv := by rfl) dX8_putSheet_1 ?_
  refine gx_aload_n C dX8_putSheet_4 rfl ?_
  refine gx_get C fd_X8_putSheet_12 (hG := hob) (hv := by rfl) dX8_putSheet_5 ?_
  refine gx_callV (ci := 0) (T := TX0) (N := 2) C (k0_record l D A hs hh hv (by omega)) cb_X8_putSheet__X0_record gX8_putSheet_X0_record rfl (hG := (gHist_ob hh)) rfl rfl (Nat.le_of_ble_eq_true rfl) ⟨Nat.le_refl _, Nat.le_refl _⟩ dX8_putSheet_8 (gx_kv fun G_8 h_8 => ?_)
  have k1 := gCw_hi h h_8.1 h_8.2
  have v1 := k1.2.1
  have o1 := gOut_wd (b := X) (k := 242) h_8.2 (by omega)
  have sj := gSv_gd v1 hj
  refine gx_aload_n C dX8_putSheet_11 rfl ?_
  refine gx_iload_n C dX8_putSheet_12 rfl ?_
  refine gx_putN C fd_X8_putSheet_80 tyX6_ok nmX6 rfl rfl rfl (hG := sj.1) (hl := by exact Nat.le_of_ble_eq_true rfl) dX8_putSheet_13 ?_
  have p1 := gSheet_put (x := (oShj t j).1) (y := z) sj
  have k2 := gCw_sv k1 (gSv_sh' v1 hj p1 (gOut_up gOut_rf (by omega))) (gOut_up gOut_rf (by omega))
  refine gx_aload_n C dX8_putSheet_16 rfl ?_
  refine gx_getN C fd_X8_putSheet_96 (hG := p1.1) (hv := by rfl) dX8_putSheet_17 ?_
  refine gx_callV (ci := 4) (T := TX5) (N := 2) C (k5_used l D A hs p1.2) cb_X8_putSheet__X5_used gX8_putSheet_X5_used rfl (hG := (gRow_ob p1.2)) rfl rfl (Nat.le_of_ble_eq_true rfl) ⟨Nat.le_refl _, Nat.le_refl _⟩ dX8_putSheet_20 (gx_ki fun r_20 G_20 h_20 => ?_)
  obtain ⟨rfl, rfl⟩ := h_20
  refine gx_zret (mc := 0) C rfl ?_ dX8_putSheet_23
  exact ⟨_, rfl, rfl, k2, gOut_up o1 (by omega)⟩
set_option maxHeartbeats 600000 in
set_option maxRecDepth 100000 in
/-- X8_bring -/
theorem k8_bring_in (l : Launch) (D : gD) (A : Nat → Prop) (hs : Nat) {G : gH} {X : Nat} {t : TS} (h : gCw D G X t) {j : Nat} (hj : j < t.1.2.2.1.length) : gM l yX8_bring wsX8_bring (gR 6) D A hs 0 0 [.ref X, .int (nI j)] G (gPi fun x G' => x = (oBring (nI j) t).1 ∧ gCw D G' X (oBring (nI j) t).2 ∧ gOut X 242 G G') := by
  refine gM_intro (by decide) rfl rfl (Nat.le_of_ble_eq_true rfl) ?_
  intro p e s m args below meth c C
  obtain ⟨hob, hv, hh, hmt, hps⟩ := id h
  have bn := gSv_n hv
  refine gx_aload_n C dX8_bring_0 rfl ?_
  refine gx_get C fd_X8_bring_12 (hG := hob) (hv := by rfl) dX8_bring_1 ?_
  refine gx_iload_n C dX8_bring_4 rfl ?_
  refine gx_callV (ci := 6) (T := TX7) (N := 9) C (k7_sheetAt l D A hs hv j hj) cb_X8_bring__X7_sheetNumbered gX8_bring_X7_sheetNumbered rfl (hG := hv.1) rfl rfl (Nat.le_of_ble_eq_true rfl) ⟨Nat.le_refl _, Nat.le_refl _⟩ dX8_bring_5 (gx_kr fun w_5 G_5 hw_5 h_5 => ?_)
  obtain ⟨rfl, rfl⟩ := h_5
  have sj := gSv_gd hv hj
  refine gx_astore_n C dX8_bring_8 (by decide) ?_
  refine gx_aload_n C dX8_bring_9 rfl ?_
  refine gx_ifnonnull (tgt := 15) C dX8_bring_10 (by decide) ?_
  refine gx_aload_n C dX8_bring_15 rfl ?_
  refine gx_getN C fd_X8_bring_80 (hG := sj.1) (hv := by rfl) dX8_bring_16 ?_
  refine gx_if_eq (tgt := 25) C dX8_bring_19 (by decide) (fun c_19 => ?_) (fun c_19 => ?_)
  · refine gx_aload_n C dX8_bring_25 rfl ?_
    refine gx_aload_n C dX8_bring_26 rfl ?_
    refine gx_iconst (v := 1) C dX8_bring_27 (by decide) ?_
    refine gx_callV (ci := 7) (T := TX8) (N := 4) C (k8_putSheet l D A hs h hj 1) cb_X8_bring__X8_putSheet gX8_bring_X8_putSheet rfl (hG := hob) rfl rfl (Nat.le_of_ble_eq_true rfl) ⟨Nat.le_refl _, Nat.le_refl _⟩ dX8_bring_28 (gx_ki fun r_28 G_28 h_28 => ?_)
    refine gx_zret (mc := 0) C rfl ?_ dX8_bring_31
    have e : oBring (nI j) t = (nI (oShj t j).2.2.length, oStat t j 1) := by rw [oBring, oIx_in hj (by omega)]; exact if_pos c_19
    obtain ⟨hr9, hk9, ho9⟩ := h_28
    subst hr9
    exact ⟨_, rfl, by rw [e], by rw [e]; exact hk9, ho9⟩
  · refine gx_bipush (v := (-2)) C dX8_bring_22 (by decide) ?_
    refine gx_zret (mc := 0) C rfl ?_ dX8_bring_24
    have e : oBring (nI j) t = (-2, t) := by rw [oBring, oIx_in hj (by omega)]; exact if_neg c_19
    exact ⟨_, rfl, by rw [e], by rw [e]; exact h, gOut_rf⟩
set_option maxHeartbeats 600000 in
set_option maxRecDepth 100000 in
/-- X8_bring -/
theorem k8_bring_no (l : Launch) (D : gD) (A : Nat → Prop) (hs : Nat) {G : gH} {X : Nat} {t : TS} (h : gCw D G X t) (i : Int32) (hi : ¬ gIn i t.1.2.2.1.length = true) : gM l yX8_bring wsX8_bring (gR 6) D A hs 0 0 [.ref X, .int i] G (gPi fun x G' => x = (oBring i t).1 ∧ gCw D G' X (oBring i t).2 ∧ gOut X 242 G G') := by
  refine gM_intro (by decide) rfl rfl (Nat.le_of_ble_eq_true rfl) ?_
  intro p e s m args below meth c C
  obtain ⟨hob, hv, hh, hmt, hps⟩ := id h
  have bn := gSv_n hv
  refine gx_aload_n C dX8_bring_0 rfl ?_
  refine gx_get C fd_X8_bring_12 (hG := hob) (hv := by rfl) dX8_bring_1 ?_
  refine gx_iload_n C dX8_bring_4 rfl ?_
  refine gx_callV (ci := 6) (T := TX7) (N := 9) C (k7_sheetNo l D A hs hv i hi) cb_X8_bring__X7_sheetNumbered gX8_bring_X7_sheetNumbered rfl (hG := hv.1) rfl rfl (Nat.le_of_ble_eq_true rfl) ⟨Nat.le_refl _, Nat.le_refl _⟩ dX8_bring_5 (gx_kr fun w_5 G_5 hw_5 h_5 => ?_)
  obtain ⟨rfl, rfl⟩ := h_5
  refine gx_astore_nN C dX8_bring_8 (by decide) ?_
  refine gx_aload_nN C dX8_bring_9 rfl ?_
  refine gx_ifnonnullN C dX8_bring_10 ?_
  refine gx_iconst (v := (-1)) C dX8_bring_13 (by decide) ?_
  refine gx_zret (mc := 0) C rfl ?_ dX8_bring_14
  have e : oBring i t = (-1, t) := by rw [oBring, oIx_no hi]
  exact ⟨_, rfl, by rw [e], by rw [e]; exact h, gOut_rf⟩
theorem k8_bring (l : Launch) (D : gD) (A : Nat → Prop) (hs : Nat) {G : gH} {X : Nat} {t : TS} (h : gCw D G X t) (i : Int32) : gM l yX8_bring wsX8_bring (gR 6) D A hs 0 0 [.ref X, .int i] G (gPi fun x G' => x = (oBring i t).1 ∧ gCw D G' X (oBring i t).2 ∧ gOut X 242 G G') := by
  have bn := gSv_n h.2.1
  by_cases hi : gIn i t.1.2.2.1.length = true
  · obtain ⟨j, hj, rfl⟩ := gIn_ex hi (by omega)
    exact k8_bring_in l D A hs h hj
  · exact k8_bring_no l D A hs h i hi
set_option maxHeartbeats 600000 in
set_option maxRecDepth 100000 in
/-- X8_find -/
theorem k8_find_in (l : Launch) (D : gD) (A : Nat → Prop) (hs : Nat) {G : gH} {X : Nat} {t : TS} (h : gCw D G X t) {j : Nat} (hj : j < t.1.2.2.1.length) : gM l yX8_find wsX8_find (gR 6) D A hs 0 0 [.ref X, .int (nI j)] G (gPi fun x G' => x = (oFind (nI j) t).1 ∧ gCw D G' X (oFind (nI j) t).2 ∧ gOut X 242 G G') := by
  refine gM_intro (by decide) rfl rfl (Nat.le_of_ble_eq_true rfl) ?_
  intro p e s m args below meth c C
  obtain ⟨hob, hv, hh, hmt, hps⟩ := id h
  have bn := gSv_n hv
  refine gx_aload_n C dX8_find_0 rfl ?_
  refine gx_get C fd_X8_find_12 (hG := hob) (hv := by rfl) dX8_find_1 ?_
  refine gx_iload_n C dX8_find_4 rfl ?_
  refine gx_callV (ci := 6) (T := TX7) (N := 9) C (k7_sheetAt l D A hs hv j hj) cb_X8_find__X7_sheetNumbered gX8_find_X7_sheetNumbered rfl (hG := hv.1) rfl rfl (Nat.le_of_ble_eq_true rfl) ⟨Nat.le_refl _, Nat.le_refl _⟩ dX8_find_5 (gx_kr fun w_5 G_5 hw_5 h_5 => ?_)
  obtain ⟨rfl, rfl⟩ := h_5
  have sj := gSv_gd hv hj
  refine gx_astore_n C dX8_find_8 (by decide) ?_
  refine gx_aload_n C dX8_find_9 rfl ?_
  refine gx_ifnonnull (tgt := 15) C dX8_find_10 (by decide) ?_
  refine gx_aload_n C dX8_find_15 rfl ?_
  refine gx_getN C fd_X8_find_80 (hG := sj.1) (hv := by rfl) dX8_find_16 ?_
  refine gx_iconst (v := 2) C dX8_find_19 (by decide) ?_
  refine gx_icmp_eq (tgt := 26) C dX8_find_20 (by decide) (fun c_20 => ?_) (fun c_20 => ?_)
  · refine gx_aload_n C dX8_find_26 rfl ?_
    refine gx_aload_n C dX8_find_27 rfl ?_
    refine gx_iconst (v := 1) C dX8_find_28 (by decide) ?_
    refine gx_callV (ci := 7) (T := TX8) (N := 4) C (k8_putSheet l D A hs h hj 1) cb_X8_find__X8_putSheet gX8_find_X8_putSheet rfl (hG := hob) rfl rfl (Nat.le_of_ble_eq_true rfl) ⟨Nat.le_refl _, Nat.le_refl _⟩ dX8_find_29 (gx_ki fun r_29 G_29 h_29 => ?_)
    refine gx_zret (mc := 0) C rfl ?_ dX8_find_32
    have e : oFind (nI j) t = (nI (oShj t j).2.2.length, oStat t j 1) := by rw [oFind, oIx_in hj (by omega)]; exact if_pos c_20
    obtain ⟨hr9, hk9, ho9⟩ := h_29
    subst hr9
    exact ⟨_, rfl, by rw [e], by rw [e]; exact hk9, ho9⟩
  · refine gx_bipush (v := (-2)) C dX8_find_23 (by decide) ?_
    refine gx_zret (mc := 0) C rfl ?_ dX8_find_25
    have e : oFind (nI j) t = (-2, t) := by rw [oFind, oIx_in hj (by omega)]; exact if_neg c_20
    exact ⟨_, rfl, by rw [e], by rw [e]; exact h, gOut_rf⟩
set_option maxHeartbeats 600000 in
set_option maxRecDepth 100000 in
/-- X8_find -/
theorem k8_find_no (l : Launch) (D : gD) (A : Nat → Prop) (hs : Nat) {G : gH} {X : Nat} {t : TS} (h : gCw D G X t) (i : Int32) (hi : ¬ gIn i t.1.2.2.1.length = true) : gM l yX8_find wsX8_find (gR 6) D A hs 0 0 [.ref X, .int i] G (gPi fun x G' => x = (oFind i t).1 ∧ gCw D G' X (oFind i t).2 ∧ gOut X 242 G G') := by
  refine gM_intro (by decide) rfl rfl (Nat.le_of_ble_eq_true rfl) ?_
  intro p e s m args below meth c C
  obtain ⟨hob, hv, hh, hmt, hps⟩ := id h
  have bn := gSv_n hv
  refine gx_aload_n C dX8_find_0 rfl ?_
  refine gx_get C fd_X8_find_12 (hG := hob) (hv := by rfl) dX8_find_1 ?_
  refine gx_iload_n C dX8_find_4 rfl ?_
  refine gx_callV (ci := 6) (T := TX7) (N := 9) C (k7_sheetNo l D A hs hv i hi) cb_X8_find__X7_sheetNumbered gX8_find_X7_sheetNumbered rfl (hG := hv.1) rfl rfl (Nat.le_of_ble_eq_true rfl) ⟨Nat.le_refl _, Nat.le_refl _⟩ dX8_find_5 (gx_kr fun w_5 G_5 hw_5 h_5 => ?_)
  obtain ⟨rfl, rfl⟩ := h_5
  refine gx_astore_nN C dX8_find_8 (by decide) ?_
  refine gx_aload_nN C dX8_find_9 rfl ?_
  refine gx_ifnonnullN C dX8_find_10 ?_
  refine gx_iconst (v := (-1)) C dX8_find_13 (by decide) ?_
  refine gx_zret (mc := 0) C rfl ?_ dX8_find_14
  have e : oFind i t = (-1, t) := by rw [oFind, oIx_no hi]
  exact ⟨_, rfl, by rw [e], by rw [e]; exact h, gOut_rf⟩
theorem k8_find (l : Launch) (D : gD) (A : Nat → Prop) (hs : Nat) {G : gH} {X : Nat} {t : TS} (h : gCw D G X t) (i : Int32) : gM l yX8_find wsX8_find (gR 6) D A hs 0 0 [.ref X, .int i] G (gPi fun x G' => x = (oFind i t).1 ∧ gCw D G' X (oFind i t).2 ∧ gOut X 242 G G') := by
  have bn := gSv_n h.2.1
  by_cases hi : gIn i t.1.2.2.1.length = true
  · obtain ⟨j, hj, rfl⟩ := gIn_ex hi (by omega)
    exact k8_find_in l D A hs h hj
  · exact k8_find_no l D A hs h i hi
set_option maxHeartbeats 600000 in
set_option maxRecDepth 100000 in
/-- X8_lose -/
theorem k8_lose_in (l : Launch) (D : gD) (A : Nat → Prop) (hs : Nat) {G : gH} {X : Nat} {t : TS} (h : gCw D G X t) {j : Nat} (hj : j < t.1.2.2.1.length) : gM l yX8_lose wsX8_lose (gR 6) D A hs 0 0 [.ref X, .int (nI j)] G (gPi fun x G' => x = (oLose (nI j) t).1 ∧ gCw D G' X (oLose (nI j) t).2 ∧ gOut X 242 G G') := by
  refine gM_intro (by decide) rfl rfl (Nat.le_of_ble_eq_true rfl) ?_
  intro p e s m args below meth c C
  obtain ⟨hob, hv, hh, hmt, hps⟩ := id h
  have bn := gSv_n hv
  refine gx_aload_n C dX8_lose_0 rfl ?_
  refine gx_get C fd_X8_lose_12 (hG := hob) (hv := by rfl) dX8_lose_1 ?_
  refine gx_iload_n C dX8_lose_4 rfl ?_
  refine gx_callV (ci := 6) (T := TX7) (N := 9) C (k7_sheetAt l D A hs hv j hj) cb_X8_lose__X7_sheetNumbered gX8_lose_X7_sheetNumbered rfl (hG := hv.1) rfl rfl (Nat.le_of_ble_eq_true rfl) ⟨Nat.le_refl _, Nat.le_refl _⟩ dX8_lose_5 (gx_kr fun w_5 G_5 hw_5 h_5 => ?_)
  obtain ⟨rfl, rfl⟩ := h_5
  have sj := gSv_gd hv hj
  refine gx_astore_n C dX8_lose_8 (by decide) ?_
  refine gx_aload_n C dX8_lose_9 rfl ?_
  refine gx_ifnonnull (tgt := 15) C dX8_lose_10 (by decide) ?_
  refine gx_aload_n C dX8_lose_15 rfl ?_
  refine gx_getN C fd_X8_lose_80 (hG := sj.1) (hv := by rfl) dX8_lose_16 ?_
  refine gx_if_eq (tgt := 33) C dX8_lose_19 (by decide) (fun c_19 => ?_) (fun c_19 => ?_)
  · have cc9 : (oShj t j).2.1 = 0 ∨ (oShj t j).2.1 = 1 := Or.inl c_19
    refine gx_aload_n C dX8_lose_33 rfl ?_
    refine gx_aload_n C dX8_lose_34 rfl ?_
    refine gx_iconst (v := 2) C dX8_lose_35 (by decide) ?_
    refine gx_callV (ci := 7) (T := TX8) (N := 4) C (k8_putSheet l D A hs h hj 2) cb_X8_lose__X8_putSheet gX8_lose_X8_putSheet rfl (hG := hob) rfl rfl (Nat.le_of_ble_eq_true rfl) ⟨Nat.le_refl _, Nat.le_refl _⟩ dX8_lose_36 (gx_ki fun r_36 G_36 h_36 => ?_)
    refine gx_zret (mc := 0) C rfl ?_ dX8_lose_39
    have e : oLose (nI j) t = (nI (oShj t j).2.2.length, oStat t j 2) := by rw [oLose, oIx_in hj (by omega)]; exact if_pos cc9
    obtain ⟨hr9, hk9, ho9⟩ := h_36
    subst hr9
    exact ⟨_, rfl, by rw [e], by rw [e]; exact hk9, ho9⟩
  · refine gx_aload_n C dX8_lose_22 rfl ?_
    refine gx_getN C fd_X8_lose_80 (hG := sj.1) (hv := by rfl) dX8_lose_23 ?_
    refine gx_iconst (v := 1) C dX8_lose_26 (by decide) ?_
    refine gx_icmp_eq (tgt := 33) C dX8_lose_27 (by decide) (fun c_27 => ?_) (fun c_27 => ?_)
    · have cc9 : (oShj t j).2.1 = 0 ∨ (oShj t j).2.1 = 1 := Or.inr c_27
      refine gx_aload_n C dX8_lose_33 rfl ?_
      refine gx_aload_n C dX8_lose_34 rfl ?_
      refine gx_iconst (v := 2) C dX8_lose_35 (by decide) ?_
      refine gx_callV (ci := 7) (T := TX8) (N := 4) C (k8_putSheet l D A hs h hj 2) cb_X8_lose__X8_putSheet gX8_lose_X8_putSheet rfl (hG := hob) rfl rfl (Nat.le_of_ble_eq_true rfl) ⟨Nat.le_refl _, Nat.le_refl _⟩ dX8_lose_36 (gx_ki fun r_36 G_36 h_36 => ?_)
      refine gx_zret (mc := 0) C rfl ?_ dX8_lose_39
      have e : oLose (nI j) t = (nI (oShj t j).2.2.length, oStat t j 2) := by rw [oLose, oIx_in hj (by omega)]; exact if_pos cc9
      obtain ⟨hr9, hk9, ho9⟩ := h_36
      subst hr9
      exact ⟨_, rfl, by rw [e], by rw [e]; exact hk9, ho9⟩
    · have cn9 : ¬ ((oShj t j).2.1 = 0 ∨ (oShj t j).2.1 = 1) := fun q => q.elim c_19 c_27
      refine gx_bipush (v := (-2)) C dX8_lose_30 (by decide) ?_
      refine gx_zret (mc := 0) C rfl ?_ dX8_lose_32
      have e : oLose (nI j) t = (-2, t) := by rw [oLose, oIx_in hj (by omega)]; exact if_neg cn9
      exact ⟨_, rfl, by rw [e], by rw [e]; exact h, gOut_rf⟩
set_option maxHeartbeats 600000 in
set_option maxRecDepth 100000 in
/-- X8_lose -/
theorem k8_lose_no (l : Launch) (D : gD) (A : Nat → Prop) (hs : Nat) {G : gH} {X : Nat} {t : TS} (h : gCw D G X t) (i : Int32) (hi : ¬ gIn i t.1.2.2.1.length = true) : gM l yX8_lose wsX8_lose (gR 6) D A hs 0 0 [.ref X, .int i] G (gPi fun x G' => x = (oLose i t).1 ∧ gCw D G' X (oLose i t).2 ∧ gOut X 242 G G') := by
  refine gM_intro (by decide) rfl rfl (Nat.le_of_ble_eq_true rfl) ?_
  intro p e s m args below meth c C
  obtain ⟨hob, hv, hh, hmt, hps⟩ := id h
  have bn := gSv_n hv
  refine gx_aload_n C dX8_lose_0 rfl ?_
  refine gx_get C fd_X8_lose_12 (hG := hob) (hv := by rfl) dX8_lose_1 ?_
  refine gx_iload_n C dX8_lose_4 rfl ?_
  refine gx_callV (ci := 6) (T := TX7) (N := 9) C (k7_sheetNo l D A hs hv i hi) cb_X8_lose__X7_sheetNumbered gX8_lose_X7_sheetNumbered rfl (hG := hv.1) rfl rfl (Nat.le_of_ble_eq_true rfl) ⟨Nat.le_refl _, Nat.le_refl _⟩ dX8_lose_5 (gx_kr fun w_5 G_5 hw_5 h_5 => ?_)
  obtain ⟨rfl, rfl⟩ := h_5
  refine gx_astore_nN C dX8_lose_8 (by decide) ?_
  refine gx_aload_nN C dX8_lose_9 rfl ?_
  refine gx_ifnonnullN C dX8_lose_10 ?_
  refine gx_iconst (v := (-1)) C dX8_lose_13 (by decide) ?_
  refine gx_zret (mc := 0) C rfl ?_ dX8_lose_14
  have e : oLose i t = (-1, t) := by rw [oLose, oIx_no hi]
  exact ⟨_, rfl, by rw [e], by rw [e]; exact h, gOut_rf⟩
theorem k8_lose (l : Launch) (D : gD) (A : Nat → Prop) (hs : Nat) {G : gH} {X : Nat} {t : TS} (h : gCw D G X t) (i : Int32) : gM l yX8_lose wsX8_lose (gR 6) D A hs 0 0 [.ref X, .int i] G (gPi fun x G' => x = (oLose i t).1 ∧ gCw D G' X (oLose i t).2 ∧ gOut X 242 G G') := by
  have bn := gSv_n h.2.1
  by_cases hi : gIn i t.1.2.2.1.length = true
  · obtain ⟨j, hj, rfl⟩ := gIn_ex hi (by omega)
    exact k8_lose_in l D A hs h hj
  · exact k8_lose_no l D A hs h i hi
set_option maxHeartbeats 600000 in
set_option maxRecDepth 100000 in
/-- X8_merge -/
theorem k8_merge_in (l : Launch) (D : gD) (A : Nat → Prop) (hs : Nat) {G : gH} {X : Nat} {t : TS} (h : gCw D G X t) {j : Nat} (hj : j < t.1.2.2.1.length) : gM l yX8_merge wsX8_merge (gR 5) D A hs 0 0 [.ref X, .int (nI j)] G (gPi fun x G' => x = (oMerge (nI j) t).1 ∧ gCw D G' X (oMerge (nI j) t).2 ∧ gOut X 242 G G') := by
  refine gM_intro (by decide) rfl rfl (Nat.le_of_ble_eq_true rfl) ?_
  intro p e s m args below meth c C
  obtain ⟨hob, hv, hh, hmt, hps⟩ := id h
  have bn := gSv_n hv
  refine gx_aload_n C dX8_merge_0 rfl ?_
  refine gx_get C fd_X8_merge_12 (hG := hob) (hv := by rfl) dX8_merge_1 ?_
  refine gx_iload_n C dX8_merge_4 rfl ?_
  refine gx_callV (ci := 6) (T := TX7) (N := 9) C (k7_sheetAt l D A hs hv j hj) cb_X8_merge__X7_sheetNumbered gX8_merge_X7_sheetNumbered rfl (hG := hv.1) rfl rfl (Nat.le_of_ble_eq_true rfl) ⟨Nat.le_refl _, Nat.le_refl _⟩ dX8_merge_5 (gx_kr fun w_5 G_5 hw_5 h_5 => ?_)
  obtain ⟨rfl, rfl⟩ := h_5
  have sj := gSv_gd hv hj
  refine gx_astore_n C dX8_merge_8 (by decide) ?_
  refine gx_aload_n C dX8_merge_9 rfl ?_
  refine gx_ifnonnull (tgt := 15) C dX8_merge_10 (by decide) ?_
  refine gx_aload_n C dX8_merge_15 rfl ?_
  refine gx_getN C fd_X8_merge_80 (hG := sj.1) (hv := by rfl) dX8_merge_16 ?_
  refine gx_iconst (v := 1) C dX8_merge_19 (by decide) ?_
  refine gx_icmp_eq (tgt := 26) C dX8_merge_20 (by decide) (fun c_20 => ?_) (fun c_20 => ?_)
  · refine gx_aload_n C dX8_merge_26 rfl ?_
    refine gx_get C fd_X8_merge_19 (hG := hob) (hv := by rfl) dX8_merge_27 ?_
    refine gx_aload_n C dX8_merge_30 rfl ?_
    refine gx_get C fd_X8_merge_12 (hG := hob) (hv := by rfl) dX8_merge_31 ?_
    refine gx_callV (ci := 0) (T := TX0) (N := 2) C (k0_record l D A hs hh hv (by omega)) cb_X8_merge__X0_record gX8_merge_X0_record rfl (hG := (gHist_ob hh)) rfl rfl (Nat.le_of_ble_eq_true rfl) ⟨Nat.le_refl _, Nat.le_refl _⟩ dX8_merge_34 (gx_kv fun G_34 h_34 => ?_)
    have k1 := gCw_hi h h_34.1 h_34.2
    have v1 := k1.2.1
    have o1 := gOut_wd (b := X) (k := 242) h_34.2 (by omega)
    refine gx_aload_n C dX8_merge_37 rfl ?_
    refine gx_get C fd_X8_merge_12 (hG := k1.1) (hv := by rfl) dX8_merge_38 ?_
    refine gx_aload_n C dX8_merge_41 rfl ?_
    refine gx_callV (ci := 6) (T := TX7) (N := 9) C (k7_mergeMarksOf l D A hs v1 hj) cb_X8_merge__X7_mergeMarksOf gX8_merge_X7_mergeMarksOf rfl (hG := v1.1) rfl rfl (Nat.le_of_ble_eq_true rfl) ⟨Nat.le_refl _, Nat.le_refl _⟩ dX8_merge_42 (gx_ki fun r_42 G_42 h_42 => ?_)
    obtain ⟨hr9, hv9, ho9⟩ := h_42
    subst hr9
    have k2 := gCw_sv k1 hv9 ho9
    refine gx_zret (mc := 0) C rfl ?_ dX8_merge_45
    have e : oMerge (nI j) t = (nI (oMgU t j), (oMg t j, pRec t.2.1 t.1, t.2.2)) := by rw [oMerge, oIx_in hj (by omega)]; exact if_pos c_20
    exact ⟨_, rfl, by rw [e]; rfl, by rw [e]; exact k2, gOut_tr o1 (gOut_wd ho9 (by omega))⟩
  · refine gx_bipush (v := (-2)) C dX8_merge_23 (by decide) ?_
    refine gx_zret (mc := 0) C rfl ?_ dX8_merge_25
    have e : oMerge (nI j) t = (-2, t) := by rw [oMerge, oIx_in hj (by omega)]; exact if_neg c_20
    exact ⟨_, rfl, by rw [e], by rw [e]; exact h, gOut_rf⟩
set_option maxHeartbeats 600000 in
set_option maxRecDepth 100000 in
/-- X8_merge -/
theorem k8_merge_no (l : Launch) (D : gD) (A : Nat → Prop) (hs : Nat) {G : gH} {X : Nat} {t : TS} (h : gCw D G X t) (i : Int32) (hi : ¬ gIn i t.1.2.2.1.length = true) : gM l yX8_merge wsX8_merge (gR 5) D A hs 0 0 [.ref X, .int i] G (gPi fun x G' => x = (oMerge i t).1 ∧ gCw D G' X (oMerge i t).2 ∧ gOut X 242 G G') := by
  refine gM_intro (by decide) rfl rfl (Nat.le_of_ble_eq_true rfl) ?_
  intro p e s m args below meth c C
  obtain ⟨hob, hv, hh, hmt, hps⟩ := id h
  have bn := gSv_n hv
  refine gx_aload_n C dX8_merge_0 rfl ?_
  refine gx_get C fd_X8_merge_12 (hG := hob) (hv := by rfl) dX8_merge_1 ?_
  refine gx_iload_n C dX8_merge_4 rfl ?_
  refine gx_callV (ci := 6) (T := TX7) (N := 9) C (k7_sheetNo l D A hs hv i hi) cb_X8_merge__X7_sheetNumbered gX8_merge_X7_sheetNumbered rfl (hG := hv.1) rfl rfl (Nat.le_of_ble_eq_true rfl) ⟨Nat.le_refl _, Nat.le_refl _⟩ dX8_merge_5 (gx_kr fun w_5 G_5 hw_5 h_5 => ?_)
  obtain ⟨rfl, rfl⟩ := h_5
  refine gx_astore_nN C dX8_merge_8 (by decide) ?_
  refine gx_aload_nN C dX8_merge_9 rfl ?_
  refine gx_ifnonnullN C dX8_merge_10 ?_
  refine gx_iconst (v := (-1)) C dX8_merge_13 (by decide) ?_
  refine gx_zret (mc := 0) C rfl ?_ dX8_merge_14
  have e : oMerge i t = (-1, t) := by rw [oMerge, oIx_no hi]
  exact ⟨_, rfl, by rw [e], by rw [e]; exact h, gOut_rf⟩
theorem k8_merge (l : Launch) (D : gD) (A : Nat → Prop) (hs : Nat) {G : gH} {X : Nat} {t : TS} (h : gCw D G X t) (i : Int32) : gM l yX8_merge wsX8_merge (gR 5) D A hs 0 0 [.ref X, .int i] G (gPi fun x G' => x = (oMerge i t).1 ∧ gCw D G' X (oMerge i t).2 ∧ gOut X 242 G G') := by
  have bn := gSv_n h.2.1
  by_cases hi : gIn i t.1.2.2.1.length = true
  · obtain ⟨j, hj, rfl⟩ := gIn_ex hi (by omega)
    exact k8_merge_in l D A hs h hj
  · exact k8_merge_no l D A hs h i hi
set_option maxHeartbeats 600000 in
set_option maxRecDepth 100000 in
/-- X8_sheet -/
theorem k8_sheet_in (l : Launch) (D : gD) (A : Nat → Prop) (hs : Nat) {G : gH} {X : Nat} {t : TS} (h : gCw D G X t) {j : Nat} (hj : j < t.1.2.2.1.length) (w : Int32) : gM l yX8_sheet wsX8_sheet (gR 5) D A hs 0 0 [.ref X, .int (nI j), .int w] G (gPi fun x G' => x = oSheet (nI j) w t ∧ gCw D G' X t ∧ gOut X 242 G G') := by
  refine gM_intro (by decide) rfl rfl (Nat.le_of_ble_eq_true rfl) ?_
  intro p e s m args below meth c C
  obtain ⟨hob, hv, hh, hmt, hps⟩ := id h
  have bn := gSv_n hv
  refine gx_aload_n C dX8_sheet_0 rfl ?_
  refine gx_get C fd_X8_sheet_12 (hG := hob) (hv := by rfl) dX8_sheet_1 ?_
  refine gx_iload_n C dX8_sheet_4 rfl ?_
  refine gx_callV (ci := 6) (T := TX7) (N := 9) C (k7_sheetAt l D A hs hv j hj) cb_X8_sheet__X7_sheetNumbered gX8_sheet_X7_sheetNumbered rfl (hG := hv.1) rfl rfl (Nat.le_of_ble_eq_true rfl) ⟨Nat.le_refl _, Nat.le_refl _⟩ dX8_sheet_5 (gx_kr fun w_5 G_5 hw_5 h_5 => ?_)
  obtain ⟨rfl, rfl⟩ := h_5
  have sj := gSv_gd hv hj
  refine gx_astore_n C dX8_sheet_8 (by decide) ?_
  refine gx_aload_n C dX8_sheet_9 rfl ?_
  refine gx_ifnonnull (tgt := 15) C dX8_sheet_10 (by decide) ?_
  refine gx_iload_n C dX8_sheet_15 rfl ?_
  refine gx_split 0 (fun c_16_0 => ?_) (fun c_16_0 => ?_)
  · refine gx_tableIn (off := 36) (tgt := 52) C dX8_sheet_16 (by rw [c_16_0]; decide) (by rw [c_16_0]; decide) (by rw [c_16_0]; rfl) (by decide) ?_
    have e : oSheet (nI j) w t = (oShj t j).1 := by rw [oSheet, oIx_in hj (by omega)]; show (if w = 0 then _ else _) = _; rw [if_pos c_16_0]
    refine gx_aload_n C dX8_sheet_52 rfl ?_
    refine gx_getN C fd_X8_sheet_93 (hG := sj.1) (hv := by rfl) dX8_sheet_53 ?_
    refine gx_zret (mc := 0) C rfl ?_ dX8_sheet_56
    exact ⟨_, rfl, e.symm, h, gOut_rf⟩
  -- else
  refine gx_split 1 (fun c_16_1 => ?_) (fun c_16_1 => ?_)
  · refine gx_tableIn (off := 41) (tgt := 57) C dX8_sheet_16 (by rw [c_16_1]; decide) (by rw [c_16_1]; decide) (by rw [c_16_1]; rfl) (by decide) ?_
    have e : oSheet (nI j) w t = (oShj t j).2.1 := by rw [oSheet, oIx_in hj (by omega)]; show (if w = 0 then _ else _) = _; rw [if_neg c_16_0, if_pos c_16_1]
    refine gx_aload_n C dX8_sheet_57 rfl ?_
    refine gx_getN C fd_X8_sheet_80 (hG := sj.1) (hv := by rfl) dX8_sheet_58 ?_
    refine gx_zret (mc := 0) C rfl ?_ dX8_sheet_61
    exact ⟨_, rfl, e.symm, h, gOut_rf⟩
  -- else
  refine gx_split 2 (fun c_16_2 => ?_) (fun c_16_2 => ?_)
  · refine gx_tableIn (off := 46) (tgt := 62) C dX8_sheet_16 (by rw [c_16_2]; decide) (by rw [c_16_2]; decide) (by rw [c_16_2]; rfl) (by decide) ?_
    have e : oSheet (nI j) w t = nI (oShj t j).2.2.length := by rw [oSheet, oIx_in hj (by omega)]; show (if w = 0 then _ else _) = _; rw [if_neg c_16_0, if_neg c_16_1, if_pos c_16_2]
    refine gx_aload_n C dX8_sheet_62 rfl ?_
    refine gx_getN C fd_X8_sheet_96 (hG := sj.1) (hv := by rfl) dX8_sheet_63 ?_
    refine gx_callV (ci := 4) (T := TX5) (N := 2) C (k5_used l D A hs sj.2) cb_X8_sheet__X5_used gX8_sheet_X5_used rfl (hG := (gRow_ob sj.2)) rfl rfl (Nat.le_of_ble_eq_true rfl) ⟨Nat.le_refl _, Nat.le_refl _⟩ dX8_sheet_66 (gx_ki fun r_66 G_66 h_66 => ?_)
    obtain ⟨rfl, rfl⟩ := h_66
    refine gx_zret (mc := 0) C rfl ?_ dX8_sheet_69
    exact ⟨_, rfl, e.symm, h, gOut_rf⟩
  -- else
  refine gx_split 3 (fun c_16_3 => ?_) (fun c_16_3 => ?_)
  · refine gx_tableIn (off := 54) (tgt := 70) C dX8_sheet_16 (by rw [c_16_3]; decide) (by rw [c_16_3]; decide) (by rw [c_16_3]; rfl) (by decide) ?_
    have e : oSheet (nI j) w t = nI (pListN t.1.2.2.2.1.1 (oShj t j).2.2 (oShj t j).2.2.length) := by rw [oSheet, oIx_in hj (by omega)]; show (if w = 0 then _ else _) = _; rw [if_neg c_16_0, if_neg c_16_1, if_neg c_16_2, if_pos c_16_3]
    refine gx_aload_n C dX8_sheet_70 rfl ?_
    refine gx_get C fd_X8_sheet_12 (hG := hob) (hv := by rfl) dX8_sheet_71 ?_
    refine gx_getN C fd_X8_sheet_99 (hG := hv.1) (hv := by rfl) dX8_sheet_74 ?_
    refine gx_aload_n C dX8_sheet_77 rfl ?_
    refine gx_getN C fd_X8_sheet_96 (hG := sj.1) (hv := by rfl) dX8_sheet_78 ?_
    refine gx_callV (ci := 1) (T := TX2) (N := 4) C (k2_howManyAreListed l D A hs sj.2 (gSv_li hv)) cb_X8_sheet__X2_howManyAreListed gX8_sheet_X2_howManyAreListed rfl (hG := (gSv_li hv).1) rfl rfl (Nat.le_of_ble_eq_true rfl) ⟨Nat.le_refl _, Nat.le_refl _⟩ dX8_sheet_81 (gx_ki fun r_81 G_81 h_81 => ?_)
    obtain ⟨rfl, rfl⟩ := h_81
    refine gx_zret (mc := 0) C rfl ?_ dX8_sheet_84
    exact ⟨_, rfl, e.symm, h, gOut_rf⟩
  -- else
  refine gx_split 4 (fun c_16_4 => ?_) (fun c_16_4 => ?_)
  · refine gx_tableIn (off := 69) (tgt := 85) C dX8_sheet_16 (by rw [c_16_4]; decide) (by rw [c_16_4]; decide) (by rw [c_16_4]; rfl) (by decide) ?_
    have e : oSheet (nI j) w t = nI (pMeetN t.1.2.2.2.1.1 t.1.2.2.2.1.2.1 (oShj t j).2.2 (oShj t j).2.2.length) := by rw [oSheet, oIx_in hj (by omega)]; show (if w = 0 then _ else _) = _; rw [if_neg c_16_0, if_neg c_16_1, if_neg c_16_2, if_neg c_16_3, if_pos c_16_4]
    refine gx_aload_n C dX8_sheet_85 rfl ?_
    refine gx_get C fd_X8_sheet_12 (hG := hob) (hv := by rfl) dX8_sheet_86 ?_
    refine gx_getN C fd_X8_sheet_99 (hG := hv.1) (hv := by rfl) dX8_sheet_89 ?_
    refine gx_aload_n C dX8_sheet_92 rfl ?_
    refine gx_getN C fd_X8_sheet_96 (hG := sj.1) (hv := by rfl) dX8_sheet_93 ?_
    refine gx_callV (ci := 1) (T := TX2) (N := 4) C (k2_howManyMeetAnAccepted l D A hs sj.2 (gSv_li hv)) cb_X8_sheet__X2_howManyMeetAnAccepted gX8_sheet_X2_howManyMeetAnAccepted rfl (hG := (gSv_li hv).1) rfl rfl (Nat.le_of_ble_eq_true rfl) ⟨Nat.le_refl _, Nat.le_refl _⟩ dX8_sheet_96 (gx_ki fun r_96 G_96 h_96 => ?_)
    obtain ⟨rfl, rfl⟩ := h_96
    refine gx_zret (mc := 0) C rfl ?_ dX8_sheet_99
    exact ⟨_, rfl, e.symm, h, gOut_rf⟩
  -- else
  refine gx_tableOut (tgt := 100) C dX8_sheet_16 (by have q_0 := gz_ne (n := 0) (by decide) c_16_0; have q_1 := gz_ne (n := 1) (by decide) c_16_1; have q_2 := gz_ne (n := 2) (by decide) c_16_2; have q_3 := gz_ne (n := 3) (by decide) c_16_3; have q_4 := gz_ne (n := 4) (by decide) c_16_4; omega) (by decide) ?_
  have e : oSheet (nI j) w t = -1 := by rw [oSheet, oIx_in hj (by omega)]; show (if w = 0 then _ else _) = _; rw [if_neg c_16_0, if_neg c_16_1, if_neg c_16_2, if_neg c_16_3, if_neg c_16_4]
  refine gx_iconst (v := (-1)) C dX8_sheet_100 (by decide) ?_
  refine gx_zret (mc := 0) C rfl ?_ dX8_sheet_101
  exact ⟨_, rfl, e.symm, h, gOut_rf⟩
set_option maxHeartbeats 600000 in
set_option maxRecDepth 100000 in
/-- X8_sheet -/
theorem k8_sheet_no (l : Launch) (D : gD) (A : Nat → Prop) (hs : Nat) {G : gH} {X : Nat} {t : TS} (h : gCw D G X t) (i : Int32) (hi : ¬ gIn i t.1.2.2.1.length = true) (w : Int32) : gM l yX8_sheet wsX8_sheet (gR 5) D A hs 0 0 [.ref X, .int i, .int w] G (gPi fun x G' => x = oSheet i w t ∧ gCw D G' X t ∧ gOut X 242 G G') := by
  refine gM_intro (by decide) rfl rfl (Nat.le_of_ble_eq_true rfl) ?_
  intro p e s m args below meth c C
  obtain ⟨hob, hv, hh, hmt, hps⟩ := id h
  have bn := gSv_n hv
  refine gx_aload_n C dX8_sheet_0 rfl ?_
  refine gx_get C fd_X8_sheet_12 (hG := hob) (hv := by rfl) dX8_sheet_1 ?_
  refine gx_iload_n C dX8_sheet_4 rfl ?_
  refine gx_callV (ci := 6) (T := TX7) (N := 9) C (k7_sheetNo l D A hs hv i hi) cb_X8_sheet__X7_sheetNumbered gX8_sheet_X7_sheetNumbered rfl (hG := hv.1) rfl rfl (Nat.le_of_ble_eq_true rfl) ⟨Nat.le_refl _, Nat.le_refl _⟩ dX8_sheet_5 (gx_kr fun w_5 G_5 hw_5 h_5 => ?_)
  obtain ⟨rfl, rfl⟩ := h_5
  refine gx_astore_nN C dX8_sheet_8 (by decide) ?_
  refine gx_aload_nN C dX8_sheet_9 rfl ?_
  refine gx_ifnonnullN C dX8_sheet_10 ?_
  refine gx_iconst (v := (-1)) C dX8_sheet_13 (by decide) ?_
  refine gx_zret (mc := 0) C rfl ?_ dX8_sheet_14
  have e : oSheet i w t = -1 := by rw [oSheet, oIx_no hi]
  exact ⟨_, rfl, e.symm, h, gOut_rf⟩
theorem k8_sheet (l : Launch) (D : gD) (A : Nat → Prop) (hs : Nat) {G : gH} {X : Nat} {t : TS} (h : gCw D G X t) (i : Int32) (w : Int32) : gM l yX8_sheet wsX8_sheet (gR 5) D A hs 0 0 [.ref X, .int i, .int w] G (gPi fun x G' => x = oSheet i w t ∧ gCw D G' X t ∧ gOut X 242 G G') := by
  have bn := gSv_n h.2.1
  by_cases hi : gIn i t.1.2.2.1.length = true
  · obtain ⟨j, hj, rfl⟩ := gIn_ex hi (by omega)
    exact k8_sheet_in l D A hs h hj w
  · exact k8_sheet_no l D A hs h i hi w
set_option maxHeartbeats 600000 in
set_option maxRecDepth 100000 in
/-- X8_written -/
theorem k8_written_in (l : Launch) (D : gD) (A : Nat → Prop) (hs : Nat) {G : gH} {X : Nat} {t : TS} (h : gCw D G X t) {j : Nat} (hj : j < t.1.2.2.1.length) (k w : Int32) : gM l yX8_written wsX8_written (gR 3) D A hs 0 0 [.ref X, .int (nI j), .int k, .int w] G (gPi fun x G' => x = oWritten (nI j) k w t ∧ gCw D G' X t ∧ gOut X 242 G G') := by
  refine gM_intro (by decide) rfl rfl (Nat.le_of_ble_eq_true rfl) ?_
  intro p e s m args below meth c C
  obtain ⟨hob, hv, hh, hmt, hps⟩ := id h
  have bn := gSv_n hv
  refine gx_aload_n C dX8_written_0 rfl ?_
  refine gx_get C fd_X8_written_12 (hG := hob) (hv := by rfl) dX8_written_1 ?_
  refine gx_iload_n C dX8_written_4 rfl ?_
  refine gx_callV (ci := 6) (T := TX7) (N := 9) C (k7_sheetAt l D A hs hv j hj) cb_X8_written__X7_sheetNumbered gX8_written_X7_sheetNumbered rfl (hG := hv.1) rfl rfl (Nat.le_of_ble_eq_true rfl) ⟨Nat.le_refl _, Nat.le_refl _⟩ dX8_written_5 (gx_kr fun w_5 G_5 hw_5 h_5 => ?_)
  obtain ⟨rfl, rfl⟩ := h_5
  have sj := gSv_gd hv hj
  refine gx_astore C dX8_written_8 (by decide) ?_
  refine gx_aload C dX8_written_10 rfl ?_
  refine gx_ifnull C dX8_written_12 ?_
  refine gx_iload_n C dX8_written_15 rfl ?_
  refine gx_if_lt (tgt := 28) C dX8_written_16 (by decide) (fun c_16 => ?_) (fun c_16 => ?_)
  · have e : oWritten (nI j) k w t = -1 := by rw [oWritten, oIx_in hj (by omega)]; show (if k < 0 ∨ pOut w 0 4 = 1 then _ else _) = _; rw [if_pos (Or.inl c_16)]
    refine gx_iconst (v := (-1)) C dX8_written_28 (by decide) ?_
    refine gx_zret (mc := 0) C rfl ?_ dX8_written_29
    exact ⟨_, rfl, e.symm, h, gOut_rf⟩
  · refine gx_iload_n C dX8_written_19 rfl ?_
    refine gx_iconst (v := 0) C dX8_written_20 (by decide) ?_
    refine gx_iconst (v := 4) C dX8_written_21 (by decide) ?_
    refine gx_callS C (k8_isOutside l D A hs w 0 4) cb_X8_written__X8_isOutside gX8_written_X8_isOutside rfl rfl (Nat.le_of_ble_eq_true rfl) ⟨Nat.le_refl _, Nat.le_refl _⟩ dX8_written_22 (gx_ki fun r_22 G_22 h_22 => ?_)
    obtain ⟨rfl, rfl⟩ := h_22
    refine gx_if_eq (tgt := 30) C dX8_written_25 (by decide) (fun c_25 => ?_) (fun c_25 => ?_)
    · have n1 : ¬ (k < 0 ∨ pOut w 0 4 = 1) := fun q => q.elim c_16 (by rw [c_25]; decide)
      refine gx_iload_n C dX8_written_30 rfl ?_
      refine gx_aload C dX8_written_31 rfl ?_
      refine gx_getN C fd_X8_written_96 (hG := sj.1) (hv := by rfl) dX8_written_33 ?_
      refine gx_callV (ci := 4) (T := TX5) (N := 2) C (k5_used l D A hs sj.2) cb_X8_written__X5_used gX8_written_X5_used rfl (hG := (gRow_ob sj.2)) rfl rfl (Nat.le_of_ble_eq_true rfl) ⟨Nat.le_refl _, Nat.le_refl _⟩ dX8_written_36 (gx_ki fun r_36 G_36 h_36 => ?_)
      obtain ⟨rfl, rfl⟩ := h_36
      refine gx_icmp_lt (tgt := 45) C dX8_written_39 (by decide) (fun c_39 => ?_) (fun c_39 => ?_)
      · refine gx_aload C dX8_written_45 rfl ?_
        refine gx_getN C fd_X8_written_96 (hG := sj.1) (hv := by rfl) dX8_written_47 ?_
        refine gx_iload_n C dX8_written_50 rfl ?_
        refine gx_callV (ci := 4) (T := TX5) (N := 2) C (k5_get l D A hs k sj.2) cb_X8_written__X5_get gX8_written_X5_get rfl (hG := (gRow_ob sj.2)) rfl rfl (Nat.le_of_ble_eq_true rfl) ⟨Nat.le_refl _, Nat.le_refl _⟩ dX8_written_51 (gx_ki fun r_51 G_51 h_51 => ?_)
        obtain ⟨rfl, rfl⟩ := h_51
        refine gx_istore C dX8_written_54 (by decide) ?_
        refine gx_iload_n C dX8_written_56 rfl ?_
        refine gx_iconst (v := 4) C dX8_written_57 (by decide) ?_
        refine gx_icmp_ge (tgt := 68) C dX8_written_58 (by decide) (fun c_58 => ?_) (fun c_58 => ?_)
        · refine gx_aload_n C dX8_written_68 rfl ?_
          refine gx_get C fd_X8_written_12 (hG := hob) (hv := by rfl) dX8_written_69 ?_
          refine gx_getN C fd_X8_written_99 (hG := hv.1) (hv := by rfl) dX8_written_72 ?_
          refine gx_getN C fd_X8_written_125 (hG := (gSv_li hv).1) (hv := by rfl) dX8_written_75 ?_
          refine gx_iload C dX8_written_78 rfl ?_
          refine gx_callV (ci := 4) (T := TX5) (N := 2) C (k5_placeOf l D A hs (lget (oShj t j).2.2 k) (gSv_li hv).2.1) cb_X8_written__X5_placeOf gX8_written_X5_placeOf rfl (hG := (gRow_ob (gSv_li hv).2.1)) rfl rfl (Nat.le_of_ble_eq_true rfl) ⟨Nat.le_refl _, Nat.le_refl _⟩ dX8_written_80 (gx_ki fun r_80 G_80 h_80 => ?_)
          obtain ⟨rfl, rfl⟩ := h_80
          refine gx_istore C dX8_written_83 (by decide) ?_
          refine gx_iload C dX8_written_85 rfl ?_
          refine gx_if_ge (tgt := 95) C dX8_written_87 (by decide) (fun c_87 => ?_) (fun c_87 => ?_)
          · have e : oWritten (nI j) k w t = lidx t.1.2.2.2.1.1 (lget (oShj t j).2.2 k) := by rw [oWritten, oIx_in hj (by omega)]; show (if k < 0 ∨ pOut w 0 4 = 1 then _ else _) = _; rw [if_neg n1]; exact (if_neg (fun q => q c_39)).trans ((if_neg (Int32.not_lt.mpr c_58)).trans (if_neg (Int32.not_lt.mpr c_87)))
            refine gx_iload C dX8_written_95 rfl ?_
            refine gx_zret (mc := 0) C rfl ?_ dX8_written_97
            exact ⟨_, rfl, e.symm, h, gOut_rf⟩
          · have e : oWritten (nI j) k w t = -4 := by rw [oWritten, oIx_in hj (by omega)]; show (if k < 0 ∨ pOut w 0 4 = 1 then _ else _) = _; rw [if_neg n1]; exact (if_neg (fun q => q c_39)).trans ((if_neg (Int32.not_lt.mpr c_58)).trans (if_pos (Int32.not_le.mp c_87)))
            refine gx_bipush (v := (-4)) C dX8_written_90 (by decide) ?_
            refine gx_goto (tgt := 97) C dX8_written_92 (by decide) ?_
            refine gx_zret (mc := 0) C rfl ?_ dX8_written_97
            exact ⟨_, rfl, e.symm, h, gOut_rf⟩
        · have e : oWritten (nI j) k w t = pPart (lget (oShj t j).2.2 k) w := by rw [oWritten, oIx_in hj (by omega)]; show (if k < 0 ∨ pOut w 0 4 = 1 then _ else _) = _; rw [if_neg n1]; exact (if_neg (fun q => q c_39)).trans (if_pos (Int32.not_le.mp c_58))
          refine gx_iload C dX8_written_61 rfl ?_
          refine gx_iload_n C dX8_written_63 rfl ?_
          refine gx_callS C (k1_partOf l D A hs (lget (oShj t j).2.2 k) w) cb_X8_written__X1_partOf gX8_written_X1_partOf rfl rfl (Nat.le_of_ble_eq_true rfl) ⟨Nat.le_refl _, Nat.le_refl _⟩ dX8_written_64 (gx_ki fun r_64 G_64 h_64 => ?_)
          obtain ⟨rfl, rfl⟩ := h_64
          refine gx_zret (mc := 0) C rfl ?_ dX8_written_67
          exact ⟨_, rfl, e.symm, h, gOut_rf⟩
      · have e : oWritten (nI j) k w t = -4 := by rw [oWritten, oIx_in hj (by omega)]; show (if k < 0 ∨ pOut w 0 4 = 1 then _ else _) = _; rw [if_neg n1]; exact if_pos c_39
        refine gx_bipush (v := (-4)) C dX8_written_42 (by decide) ?_
        refine gx_zret (mc := 0) C rfl ?_ dX8_written_44
        exact ⟨_, rfl, e.symm, h, gOut_rf⟩
    · have e : oWritten (nI j) k w t = -1 := by rw [oWritten, oIx_in hj (by omega)]; show (if k < 0 ∨ pOut w 0 4 = 1 then _ else _) = _; rw [if_pos (Or.inr (pOut_n c_25))]
      refine gx_iconst (v := (-1)) C dX8_written_28 (by decide) ?_
      refine gx_zret (mc := 0) C rfl ?_ dX8_written_29
      exact ⟨_, rfl, e.symm, h, gOut_rf⟩
set_option maxHeartbeats 600000 in
set_option maxRecDepth 100000 in
/-- X8_written -/
theorem k8_written_no (l : Launch) (D : gD) (A : Nat → Prop) (hs : Nat) {G : gH} {X : Nat} {t : TS} (h : gCw D G X t) (i : Int32) (hi : ¬ gIn i t.1.2.2.1.length = true) (k w : Int32) : gM l yX8_written wsX8_written (gR 3) D A hs 0 0 [.ref X, .int i, .int k, .int w] G (gPi fun x G' => x = oWritten i k w t ∧ gCw D G' X t ∧ gOut X 242 G G') := by
  refine gM_intro (by decide) rfl rfl (Nat.le_of_ble_eq_true rfl) ?_
  intro p e s m args below meth c C
  obtain ⟨hob, hv, hh, hmt, hps⟩ := id h
  have bn := gSv_n hv
  refine gx_aload_n C dX8_written_0 rfl ?_
  refine gx_get C fd_X8_written_12 (hG := hob) (hv := by rfl) dX8_written_1 ?_
  refine gx_iload_n C dX8_written_4 rfl ?_
  refine gx_callV (ci := 6) (T := TX7) (N := 9) C (k7_sheetNo l D A hs hv i hi) cb_X8_written__X7_sheetNumbered gX8_written_X7_sheetNumbered rfl (hG := hv.1) rfl rfl (Nat.le_of_ble_eq_true rfl) ⟨Nat.le_refl _, Nat.le_refl _⟩ dX8_written_5 (gx_kr fun w_5 G_5 hw_5 h_5 => ?_)
  obtain ⟨rfl, rfl⟩ := h_5
  refine gx_astoreN C dX8_written_8 (by decide) ?_
  refine gx_aloadN C dX8_written_10 rfl ?_
  refine gx_ifnullN (tgt := 28) C dX8_written_12 (by decide) ?_
  refine gx_iconst (v := (-1)) C dX8_written_28 (by decide) ?_
  refine gx_zret (mc := 0) C rfl ?_ dX8_written_29
  have e : oWritten i k w t = -1 := by rw [oWritten, oIx_no hi]
  exact ⟨_, rfl, e.symm, h, gOut_rf⟩
theorem k8_written (l : Launch) (D : gD) (A : Nat → Prop) (hs : Nat) {G : gH} {X : Nat} {t : TS} (h : gCw D G X t) (i : Int32) (k w : Int32) : gM l yX8_written wsX8_written (gR 3) D A hs 0 0 [.ref X, .int i, .int k, .int w] G (gPi fun x G' => x = oWritten i k w t ∧ gCw D G' X t ∧ gOut X 242 G G') := by
  have bn := gSv_n h.2.1
  by_cases hi : gIn i t.1.2.2.1.length = true
  · obtain ⟨j, hj, rfl⟩ := gIn_ex hi (by omega)
    exact k8_written_in l D A hs h hj k w
  · exact k8_written_no l D A hs h i hi k w
set_option maxHeartbeats 600000 in
set_option maxRecDepth 100000 in
/-- X8_undo -/
theorem k8_undo (l : Launch) (D : gD) (A : Nat → Prop) (hs : Nat) {G : gH} {X : Nat} {t : TS} (h : gCw D G X t) : gM l yX8_undo wsX8_undo (gR 5) D A hs 0 0 [.ref X] G (gPi fun x G' => x = (oUndo t).1 ∧ gCw D G' X (oUndo t).2 ∧ gOut X 242 G G') := by
  refine gM_intro (by decide) rfl rfl (Nat.le_of_ble_eq_true rfl) ?_
  intro p e s m args below meth c C
  obtain ⟨hob, hv, hh, hmt, hps⟩ := id h
  have bh := gHist_n hh
  refine gx_aload_n C dX8_undo_0 rfl ?_
  refine gx_get C fd_X8_undo_19 (hG := hob) (hv := by rfl) dX8_undo_1 ?_
  refine gx_getN C fd_X8_undo_131 (hG := (gHist_ob hh)) (hv := by rfl) dX8_undo_4 ?_
  refine gx_if_ne (tgt := 13) C dX8_undo_7 (by decide) (fun c_7 => ?_) (fun c_7 => ?_)
  · have hne : t.2.1 ≠ [] := fun q => c_7 (by rw [q]; rfl)
    have es : t.2.1.dropLast ++ [t.2.1.getLast hne] = t.2.1 := List.dropLast_concat_getLast hne
    have hh2 : gHist D G (X + 46) (t.2.1.dropLast ++ [t.2.1.getLast hne]) := by rw [es]; exact hh
    have e : oUndo t = (nI t.2.1.dropLast.length, (t.2.1.getLast hne, t.2.1.dropLast, t.2.2)) := by rw [oUndo, List.getLast?_eq_getLast hne]
    refine gx_aload_n C dX8_undo_13 rfl ?_
    refine gx_get C fd_X8_undo_19 (hG := hob) (hv := by rfl) dX8_undo_14 ?_
    refine gx_aload_n C dX8_undo_17 rfl ?_
    refine gx_get C fd_X8_undo_12 (hG := hob) (hv := by rfl) dX8_undo_18 ?_
    refine gx_callV (ci := 0) (T := TX0) (N := 2) C (k0_restore l D A hs hh2 hv (by omega)) cb_X8_undo__X0_restore gX8_undo_X0_restore rfl (hG := (gHist_ob hh)) rfl rfl (Nat.le_of_ble_eq_true rfl) ⟨Nat.le_refl _, Nat.le_refl _⟩ dX8_undo_21 (gx_kv fun G_21 h_21 => ?_)
    have k2 := gCw_un h h_21.1 h_21.2.1 h_21.2.2
    refine gx_aload_n C dX8_undo_24 rfl ?_
    refine gx_get C fd_X8_undo_19 (hG := k2.1) (hv := by rfl) dX8_undo_25 ?_
    refine gx_getN C fd_X8_undo_131 (hG := (gHist_ob k2.2.2.1)) (hv := by rfl) dX8_undo_28 ?_
    refine gx_zret (mc := 0) C rfl ?_ dX8_undo_31
    exact ⟨_, rfl, by rw [e], by rw [e]; exact k2, gOut_wd h_21.2.2 (by omega)⟩
  · have e0 : t.2.1 = [] := List.eq_nil_of_length_eq_zero ((nI_eq (b := 0) (by omega) (by omega)).mp c_7)
    have e : oUndo t = (-2, t) := by rw [oUndo, e0]; rfl
    refine gx_bipush (v := (-2)) C dX8_undo_10 (by decide) ?_
    refine gx_zret (mc := 0) C rfl ?_ dX8_undo_12
    exact ⟨_, rfl, by rw [e], by rw [e]; exact h, gOut_rf⟩
set_option maxHeartbeats 600000 in
set_option maxRecDepth 100000 in
/-- X8_count -/
theorem k8_count (l : Launch) (D : gD) (A : Nat → Prop) (hs : Nat) {G : gH} {X : Nat} {t : TS} (h : gCw D G X t) (z : Int32) : gM l yX8_count wsX8_count (gR 5) D A hs 0 0 [.ref X, .int z] G (gPi fun x G' => x = oCount z t ∧ gCw D G' X t ∧ gOut X 242 G G') := by
  refine gM_intro (by decide) rfl rfl (Nat.le_of_ble_eq_true rfl) ?_
  intro p e s m args below meth c C
  obtain ⟨hob, hv, hh, hmt, hps⟩ := id h
  obtain ⟨cd0, st0, cu0, re0, hm0⟩ := hmt
  refine gx_iload_n C dX8_count_0 rfl ?_
  refine gx_bipush (v := 10) C dX8_count_1 (by decide) ?_
  refine gx_bipush (v := 16) C dX8_count_3 (by decide) ?_
  refine gx_callS C (k8_isOutside l D A hs z 10 16) cb_X8_count__X8_isOutside gX8_count_X8_isOutside rfl rfl (Nat.le_of_ble_eq_true rfl) ⟨Nat.le_refl _, Nat.le_refl _⟩ dX8_count_5 (gx_ki fun r_5 G_5 h_5 => ?_)
  obtain ⟨rfl, rfl⟩ := h_5
  refine gx_if_ne (tgt := 23) C dX8_count_8 (by decide) (fun c_8 => ?_) (fun c_8 => ?_)
  · refine gx_iload_n C dX8_count_23 rfl ?_
    refine gx_split 0 (fun c_24_0 => ?_) (fun c_24_0 => ?_)
    · refine gx_tableIn (off := 52) (tgt := 76) C dX8_count_24 (by rw [c_24_0]; decide) (by rw [c_24_0]; decide) (by rw [c_24_0]; rfl) (by decide) ?_
      have e : oCount z t = nI t.1.1.length := by rw [oCount, if_neg c_8, if_pos c_24_0]
      refine gx_aload_n C dX8_count_76 rfl ?_
      refine gx_get C fd_X8_count_12 (hG := hob) (hv := by rfl) dX8_count_77 ?_
      refine gx_getN C fd_X8_count_45 (hG := hv.1) (hv := by rfl) dX8_count_80 ?_
      refine gx_callV (ci := 4) (T := TX5) (N := 2) C (k5_used l D A hs (gSv_tx hv)) cb_X8_count__X5_used gX8_count_X5_used rfl (hG := (gRow_ob (gSv_tx hv))) rfl rfl (Nat.le_of_ble_eq_true rfl) ⟨Nat.le_refl _, Nat.le_refl _⟩ dX8_count_83 (gx_ki fun r_83 G_83 h_83 => ?_)
      obtain ⟨rfl, rfl⟩ := h_83
      refine gx_zret (mc := 0) C rfl ?_ dX8_count_86
      exact ⟨_, rfl, e.symm, h, gOut_rf⟩
    -- else
    refine gx_split 1 (fun c_24_1 => ?_) (fun c_24_1 => ?_)
    · refine gx_tableIn (off := 63) (tgt := 87) C dX8_count_24 (by rw [c_24_1]; decide) (by rw [c_24_1]; decide) (by rw [c_24_1]; rfl) (by decide) ?_
      have e : oCount z t = t.1.2.1 := by rw [oCount, if_neg c_8, if_neg c_24_0, if_pos c_24_1]
      refine gx_aload_n C dX8_count_87 rfl ?_
      refine gx_get C fd_X8_count_12 (hG := hob) (hv := by rfl) dX8_count_88 ?_
      refine gx_getN C fd_X8_count_41 (hG := hv.1) (hv := by rfl) dX8_count_91 ?_
      refine gx_zret (mc := 0) C rfl ?_ dX8_count_94
      exact ⟨_, rfl, e.symm, h, gOut_rf⟩
    -- else
    refine gx_split 2 (fun c_24_2 => ?_) (fun c_24_2 => ?_)
    · refine gx_tableIn (off := 71) (tgt := 95) C dX8_count_24 (by rw [c_24_2]; decide) (by rw [c_24_2]; decide) (by rw [c_24_2]; rfl) (by decide) ?_
      have e : oCount z t = nI t.1.2.2.1.length := by rw [oCount, if_neg c_8, if_neg c_24_0, if_neg c_24_1, if_pos c_24_2]
      refine gx_aload_n C dX8_count_95 rfl ?_
      refine gx_get C fd_X8_count_12 (hG := hob) (hv := by rfl) dX8_count_96 ?_
      refine gx_getN C fd_X8_count_69 (hG := hv.1) (hv := by rfl) dX8_count_99 ?_
      refine gx_zret (mc := 0) C rfl ?_ dX8_count_102
      exact ⟨_, rfl, e.symm, h, gOut_rf⟩
    -- else
    refine gx_split 3 (fun c_24_3 => ?_) (fun c_24_3 => ?_)
    · refine gx_tableIn (off := 79) (tgt := 103) C dX8_count_24 (by rw [c_24_3]; decide) (by rw [c_24_3]; decide) (by rw [c_24_3]; rfl) (by decide) ?_
      have e : oCount z t = nI (pShN t.1.2.2.1 0 t.1.2.2.1.length) := by rw [oCount, if_neg c_8, if_neg c_24_0, if_neg c_24_1, if_neg c_24_2, if_pos c_24_3]
      refine gx_aload_n C dX8_count_103 rfl ?_
      refine gx_get C fd_X8_count_12 (hG := hob) (hv := by rfl) dX8_count_104 ?_
      refine gx_iconst (v := 0) C dX8_count_107 (by decide) ?_
      refine gx_callV (ci := 6) (T := TX7) (N := 9) C (k7_howManySheetsAre l D A hs hv 0) cb_X8_count__X7_howManySheetsAre gX8_count_X7_howManySheetsAre rfl (hG := hv.1) rfl rfl (Nat.le_of_ble_eq_true rfl) ⟨Nat.le_refl _, Nat.le_refl _⟩ dX8_count_108 (gx_ki fun r_108 G_108 h_108 => ?_)
      obtain ⟨rfl, rfl⟩ := h_108
      refine gx_zret (mc := 0) C rfl ?_ dX8_count_111
      exact ⟨_, rfl, e.symm, h, gOut_rf⟩
    -- else
    refine gx_split 4 (fun c_24_4 => ?_) (fun c_24_4 => ?_)
    · refine gx_tableIn (off := 88) (tgt := 112) C dX8_count_24 (by rw [c_24_4]; decide) (by rw [c_24_4]; decide) (by rw [c_24_4]; rfl) (by decide) ?_
      have e : oCount z t = nI t.1.2.2.2.1.1.length := by rw [oCount, if_neg c_8, if_neg c_24_0, if_neg c_24_1, if_neg c_24_2, if_neg c_24_3, if_pos c_24_4]
      refine gx_aload_n C dX8_count_112 rfl ?_
      refine gx_get C fd_X8_count_12 (hG := hob) (hv := by rfl) dX8_count_113 ?_
      refine gx_getN C fd_X8_count_99 (hG := hv.1) (hv := by rfl) dX8_count_116 ?_
      refine gx_getN C fd_X8_count_125 (hG := (gSv_li hv).1) (hv := by rfl) dX8_count_119 ?_
      refine gx_callV (ci := 4) (T := TX5) (N := 2) C (k5_used l D A hs (gSv_li hv).2.1) cb_X8_count__X5_used gX8_count_X5_used rfl (hG := (gRow_ob (gSv_li hv).2.1)) rfl rfl (Nat.le_of_ble_eq_true rfl) ⟨Nat.le_refl _, Nat.le_refl _⟩ dX8_count_122 (gx_ki fun r_122 G_122 h_122 => ?_)
      obtain ⟨rfl, rfl⟩ := h_122
      refine gx_zret (mc := 0) C rfl ?_ dX8_count_125
      exact ⟨_, rfl, e.symm, h, gOut_rf⟩
    -- else
    refine gx_split 5 (fun c_24_5 => ?_) (fun c_24_5 => ?_)
    · refine gx_tableIn (off := 102) (tgt := 126) C dX8_count_24 (by rw [c_24_5]; decide) (by rw [c_24_5]; decide) (by rw [c_24_5]; rfl) (by decide) ?_
      have e : oCount z t = nI (pOpenN t.1.2.2.2.1.2.1 t.1.2.2.2.1.2.1.length) := by rw [oCount, if_neg c_8, if_neg c_24_0, if_neg c_24_1, if_neg c_24_2, if_neg c_24_3, if_neg c_24_4, if_pos c_24_5]
      refine gx_aload_n C dX8_count_126 rfl ?_
      refine gx_get C fd_X8_count_12 (hG := hob) (hv := by rfl) dX8_count_127 ?_
      refine gx_getN C fd_X8_count_99 (hG := hv.1) (hv := by rfl) dX8_count_130 ?_
      refine gx_callV (ci := 1) (T := TX2) (N := 4) C (k2_howManyAreOpen l D A hs (gSv_li hv)) cb_X8_count__X2_howManyAreOpen gX8_count_X2_howManyAreOpen rfl (hG := (gSv_li hv).1) rfl rfl (Nat.le_of_ble_eq_true rfl) ⟨Nat.le_refl _, Nat.le_refl _⟩ dX8_count_133 (gx_ki fun r_133 G_133 h_133 => ?_)
      obtain ⟨rfl, rfl⟩ := h_133
      refine gx_zret (mc := 0) C rfl ?_ dX8_count_136
      exact ⟨_, rfl, e.symm, h, gOut_rf⟩
    -- else
    refine gx_split 6 (fun c_24_6 => ?_) (fun c_24_6 => ?_)
    · refine gx_tableIn (off := 113) (tgt := 137) C dX8_count_24 (by rw [c_24_6]; decide) (by rw [c_24_6]; decide) (by rw [c_24_6]; rfl) (by decide) ?_
      have e : oCount z t = nI t.2.1.length := by rw [oCount, if_neg c_8, if_neg c_24_0, if_neg c_24_1, if_neg c_24_2, if_neg c_24_3, if_neg c_24_4, if_neg c_24_5, if_pos c_24_6]
      refine gx_aload_n C dX8_count_137 rfl ?_
      refine gx_get C fd_X8_count_19 (hG := hob) (hv := by rfl) dX8_count_138 ?_
      refine gx_getN C fd_X8_count_131 (hG := (gHist_ob hh)) (hv := by rfl) dX8_count_141 ?_
      refine gx_zret (mc := 0) C rfl ?_ dX8_count_144
      exact ⟨_, rfl, e.symm, h, gOut_rf⟩
    -- else
    refine gx_split 7 (fun c_24_7 => ?_) (fun c_24_7 => ?_)
    · refine gx_tableIn (off := 121) (tgt := 145) C dX8_count_24 (by rw [c_24_7]; decide) (by rw [c_24_7]; decide) (by rw [c_24_7]; rfl) (by decide) ?_
      have e : oCount z t = nI t.2.2.length := by rw [oCount, if_neg c_8, if_neg c_24_0, if_neg c_24_1, if_neg c_24_2, if_neg c_24_3, if_neg c_24_4, if_neg c_24_5, if_neg c_24_6, if_pos c_24_7]
      refine gx_aload_n C dX8_count_145 rfl ?_
      refine gx_get C fd_X8_count_26 (hG := hob) (hv := by rfl) dX8_count_146 ?_
      refine gx_getN C fd_X8_count_145 (hG := hm0.1) (hv := by rfl) dX8_count_149 ?_
      refine gx_callV (ci := 4) (T := TX5) (N := 2) C (k5_used l D A hs hm0.2.1) cb_X8_count__X5_used gX8_count_X5_used rfl (hG := (gRow_ob hm0.2.1)) rfl rfl (Nat.le_of_ble_eq_true rfl) ⟨Nat.le_refl _, Nat.le_refl _⟩ dX8_count_152 (gx_ki fun r_152 G_152 h_152 => ?_)
      obtain ⟨rfl, rfl⟩ := h_152
      refine gx_zret (mc := 0) C rfl ?_ dX8_count_155
      exact ⟨_, rfl, e.symm, h, gOut_rf⟩
    -- else
    refine gx_split 8 (fun c_24_8 => ?_) (fun c_24_8 => ?_)
    · refine gx_tableIn (off := 132) (tgt := 156) C dX8_count_24 (by rw [c_24_8]; decide) (by rw [c_24_8]; decide) (by rw [c_24_8]; rfl) (by decide) ?_
      have e : oCount z t = nI (pPairS t.1.2.2.2.1.1 t.1.2.2.2.1.1.length t.1.2.2.2.1.1.length) / 2 := by rw [oCount, if_neg c_8, if_neg c_24_0, if_neg c_24_1, if_neg c_24_2, if_neg c_24_3, if_neg c_24_4, if_neg c_24_5, if_neg c_24_6, if_neg c_24_7, if_pos c_24_8]
      refine gx_aload_n C dX8_count_156 rfl ?_
      refine gx_get C fd_X8_count_12 (hG := hob) (hv := by rfl) dX8_count_157 ?_
      refine gx_getN C fd_X8_count_99 (hG := hv.1) (hv := by rfl) dX8_count_160 ?_
      refine gx_callV (ci := 1) (T := TX2) (N := 4) C (k2_opposedPairs l D A hs (gSv_li hv)) cb_X8_count__X2_opposedPairs gX8_count_X2_opposedPairs rfl (hG := (gSv_li hv).1) rfl rfl (Nat.le_of_ble_eq_true rfl) ⟨Nat.le_refl _, Nat.le_refl _⟩ dX8_count_163 (gx_ki fun r_163 G_163 h_163 => ?_)
      obtain ⟨rfl, rfl⟩ := h_163
      refine gx_zret (mc := 0) C rfl ?_ dX8_count_166
      exact ⟨_, rfl, e.symm, h, gOut_rf⟩
    -- else
    refine gx_tableOut (tgt := 167) C dX8_count_24 (by have q_0 := gz_ne (n := 0) (by decide) c_24_0; have q_1 := gz_ne (n := 1) (by decide) c_24_1; have q_2 := gz_ne (n := 2) (by decide) c_24_2; have q_3 := gz_ne (n := 3) (by decide) c_24_3; have q_4 := gz_ne (n := 4) (by decide) c_24_4; have q_5 := gz_ne (n := 5) (by decide) c_24_5; have q_6 := gz_ne (n := 6) (by decide) c_24_6; have q_7 := gz_ne (n := 7) (by decide) c_24_7; have q_8 := gz_ne (n := 8) (by decide) c_24_8; omega) (by decide) ?_
    have e : oCount z t = -1 := by rw [oCount, if_neg c_8, if_neg c_24_0, if_neg c_24_1, if_neg c_24_2, if_neg c_24_3, if_neg c_24_4, if_neg c_24_5, if_neg c_24_6, if_neg c_24_7, if_neg c_24_8]
    refine gx_iconst (v := (-1)) C dX8_count_167 (by decide) ?_
    refine gx_zret (mc := 0) C rfl ?_ dX8_count_168
    exact ⟨_, rfl, e.symm, h, gOut_rf⟩
  · have e : oCount z t = oAcc t (z - 10) := by rw [oCount, if_pos c_8]
    refine gx_aload_n C dX8_count_11 rfl ?_
    refine gx_get C fd_X8_count_12 (hG := hob) (hv := by rfl) dX8_count_12 ?_
    refine gx_iload_n C dX8_count_15 rfl ?_
    refine gx_bipush (v := 10) C dX8_count_16 (by decide) ?_
    refine gx_isub C dX8_count_18 ?_
    refine gx_callV (ci := 6) (T := TX7) (N := 9) C (k7_account l D A hs hv (z - 10)) cb_X8_count__X7_account gX8_count_X7_account rfl (hG := hv.1) rfl rfl (Nat.le_of_ble_eq_true rfl) ⟨Nat.le_refl _, Nat.le_refl _⟩ dX8_count_19 (gx_ki fun r_19 G_19 h_19 => ?_)
    obtain ⟨rfl, rfl⟩ := h_19
    refine gx_zret (mc := 0) C rfl ?_ dX8_count_22
    exact ⟨_, rfl, e.symm, h, gOut_rf⟩
set_option maxHeartbeats 600000 in
set_option maxRecDepth 100000 in
/-- X8_at -/
theorem k8_at (l : Launch) (D : gD) (A : Nat → Prop) (hs : Nat) {G : gH} {X : Nat} {t : TS} (h : gCw D G X t) (z : Int32) : gM l yX8_at wsX8_at (gR 3) D A hs 0 0 [.ref X, .int z] G (gPi fun x G' => x = oChr t.1.1 z ∧ gCw D G' X t ∧ gOut X 242 G G') := by
  refine gM_intro (by decide) rfl rfl (Nat.le_of_ble_eq_true rfl) ?_
  intro p e s m args below meth c C
  obtain ⟨hob, hv, hh, hmt, hps⟩ := id h
  refine gx_aload_n C dX8_at_0 rfl ?_
  refine gx_get C fd_X8_at_12 (hG := hob) (hv := by rfl) dX8_at_1 ?_
  refine gx_getN C fd_X8_at_45 (hG := hv.1) (hv := by rfl) dX8_at_4 ?_
  refine gx_iload_n C dX8_at_7 rfl ?_
  refine gx_callS C (k8_characterIn l D A hs (gSv_tx hv) z) cb_X8_at__X8_characterIn gX8_at_X8_characterIn rfl rfl (Nat.le_of_ble_eq_true rfl) ⟨Nat.le_refl _, Nat.le_refl _⟩ dX8_at_8 (gx_ki fun r_8 G_8 h_8 => ?_)
  obtain ⟨rfl, rfl⟩ := h_8
  refine gx_zret (mc := 0) C rfl ?_ dX8_at_11
  exact ⟨_, rfl, rfl, h, gOut_rf⟩
