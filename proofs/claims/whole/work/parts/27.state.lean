/-! SHEETS AND STATES -/
def shD : SH := (0, 0, [])
theorem gSheet_put {D : gD} {G : gH} {a : Nat} {v : SH} {x y : Int32} (h : gSheet D G a v) : gSheet D (gU G a (.inr (5, [.ref (a + 1), .int x, .int y]))) a (x, y, v.2.2) :=
  ⟨gU_s, gRow_fr h.2 (gOut_up (a := a) (n := 1) gOut_rf (by omega)) (by omega)⟩
theorem gSv_rd' {D : gD} {G : gH} {S : Nat} {v : SV} {x : Int32} (h : gSv D G S v) : gSv D (gU G S (.inr (6, [.ref (S + 1), .ref (S + 3), .ref (S + 4), .ref (S + 13), .ref (S + 15), .ref (S + 17), .ref (S + 19), .int x, .int (nI v.2.2.1.length)]))) S (v.1, x, v.2.2) := by
  have ho : gOut S 1 G (gU G S (.inr (6, [.ref (S + 1), .ref (S + 3), .ref (S + 4), .ref (S + 13), .ref (S + 15), .ref (S + 17), .ref (S + 19), .int x, .int (nI v.2.2.1.length)]))) := gOut_up gOut_rf (by omega)
  obtain ⟨h1, ⟨f, h2, h3⟩, h4, h5, h6, h7⟩ := h
  exact ⟨gU_s, ⟨f, by rw [ho (S + 3) (by omega)]; exact h2, h3⟩, gRow_fr h4 ho (by omega), gList_fr h5 ho (by omega), gAcc_fr h6 ho (by omega), gShs_fr h7 ho (by omega)⟩
theorem gSv_sc' {D : gD} {G : gH} {S : Nat} {v : SV} {sh : List SH} (h : gSv D G S v) (hs : gShs D G (S + 21) sh) : gSv D (gU G S (.inr (6, [.ref (S + 1), .ref (S + 3), .ref (S + 4), .ref (S + 13), .ref (S + 15), .ref (S + 17), .ref (S + 19), .int v.2.1, .int (nI sh.length)]))) S (v.1, v.2.1, sh, v.2.2.2) := by
  have ho : gOut S 1 G (gU G S (.inr (6, [.ref (S + 1), .ref (S + 3), .ref (S + 4), .ref (S + 13), .ref (S + 15), .ref (S + 17), .ref (S + 19), .int v.2.1, .int (nI sh.length)]))) := gOut_up gOut_rf (by omega)
  obtain ⟨h1, ⟨f, h2, h3⟩, h4, h5, h6, h7⟩ := h
  exact ⟨gU_s, ⟨f, by rw [ho (S + 3) (by omega)]; exact h2, h3⟩, gRow_fr h4 ho (by omega), gList_fr h5 ho (by omega), gAcc_fr h6 ho (by omega), gShs_fr hs ho (by omega)⟩
theorem gShs_any {D : gD} {G : gH} {a n : Nat} {sh : List SH} (h : gShs D G a sh) (hn : n ≤ 8) : ∃ sh' : List SH, sh'.length = n ∧ gShs D G a sh' := by
  have h0 : ∀ i : Nat, ∃ c : SH, i < 8 → gSheet D G (a + 3 * i) c := by
    intro i
    by_cases hi : i < 8
    · obtain ⟨c, h1, -⟩ := h.2 i hi
      exact ⟨c, fun _ => h1⟩
    · exact ⟨shD, fun q => absurd q hi⟩
  obtain ⟨f, hf⟩ := Classical.axiomOfChoice h0
  refine ⟨(List.range n).map f, by simp, by simpa using hn, fun i hi => ⟨f i, hf i hi, fun q => by simp⟩⟩
theorem gShs_push {D : gD} {G : gH} {a : Nat} {sh : List SH} (h : gShs D G a sh) (hn : sh.length < 8) : ∃ c : SH, gShs D G a (sh ++ [c]) := by
  obtain ⟨c, h1, -⟩ := h.2 sh.length hn
  refine ⟨c, by simp; omega, fun i hi => ?_⟩
  by_cases q : i = sh.length
  · subst q
    exact ⟨c, h1, fun _ => by simp⟩
  · obtain ⟨c2, g1, g2⟩ := h.2 i hi
    refine ⟨c2, g1, fun hl => ?_⟩
    have hl2 : i < sh.length := by simp at hl; omega
    rw [List.getElem_append_left hl2]
    exact g2 hl2
theorem gSv_gd {D : gD} {G : gH} {S i : Nat} {v : SV} (h : gSv D G S v) (hi : i < v.2.2.1.length) : gSheet D G (S + 21 + 3 * i) (v.2.2.1.getD i shD) := by
  have := gSv_at h hi
  rw [List.getD_eq_getElem?_getD, List.getElem?_eq_getElem hi]
  exact this
theorem gSv_n {D : gD} {G : gH} {S : Nat} {v : SV} (h : gSv D G S v) : v.2.2.1.length ≤ 8 := h.2.2.2.2.2.1
def pBusy (sh : List SH) (r : Int32) : Bool := (List.range sh.length).any (fun i => decide ((sh.getD i shD).1 = r) && decide ((sh.getD i shD).2.1 = 0))
def pShN (sh : List SH) (st : Int32) (n : Nat) : Nat := (List.range n).countP (fun i => decide ((sh.getD i shD).2.1 = st))
def pMkS (sh : List SH) (st : Int32) : Nat → Nat
  | 0 => 0
  | n + 1 => pMkS sh st n + (if (sh.getD n shD).2.1 = st then (sh.getD n shD).2.2.length else 0)
def pMg (ms : List Int32) (r : Int32) (li : ML) : Nat → ML
  | 0 => li
  | n + 1 => pTake (pMg ms r li n) (ms.getD n 0) r
def pMgU (ms : List Int32) (r : Int32) (li : ML) : Nat → Nat
  | 0 => 0
  | n + 1 => pMgU ms r li n + (if ms.getD n 0 ∈ (pMg ms r li n).1 then 1 else 0)
theorem pC_le {f : Nat → Bool} {n : Nat} : (List.range n).countP f ≤ n := by
  have := List.countP_le_length (p := f) (l := List.range n)
  simpa using this
set_option maxRecDepth 20000 in
theorem in_X6_startFor_X6 : ∀ w ∈ wsX60, w ∈ wsX6_startFor := by decide +kernel
set_option maxRecDepth 20000 in
theorem fd_X6_startFor_20 : gFd wsX6_startFor RX6 20 5 RX6 TX6 3 1 := ⟨in_X6_startFor_X6, rfl, by decide, by decide +kernel⟩
set_option maxRecDepth 20000 in
theorem fd_X6_startFor_24 : gFd wsX6_startFor RX6 24 5 RX6 TX6 3 2 := ⟨in_X6_startFor_X6, rfl, by decide, by decide +kernel⟩
set_option maxRecDepth 20000 in
theorem fd_X6_startFor_14 : gFd wsX6_startFor RX6 14 5 RX6 TX6 3 0 := ⟨in_X6_startFor_X6, rfl, by decide, by decide +kernel⟩
theorem cb_X6_startFor__X5_cutTo : gCb yX5_cutTo cX5_cutTo 2 none wsX5_cutTo (gR 0) (gR 1) 0 0 1 := ⟨rfl, rfl, rfl, by decide +kernel, by decide⟩
set_option maxRecDepth 20000 in
theorem in_X6_copyFrom_X6 : ∀ w ∈ wsX60, w ∈ wsX6_copyFrom := by decide +kernel
set_option maxRecDepth 20000 in
theorem fd_X6_copyFrom_20 : gFd wsX6_copyFrom RX6 20 5 RX6 TX6 3 1 := ⟨in_X6_copyFrom_X6, rfl, by decide, by decide +kernel⟩
set_option maxRecDepth 20000 in
theorem fd_X6_copyFrom_24 : gFd wsX6_copyFrom RX6 24 5 RX6 TX6 3 2 := ⟨in_X6_copyFrom_X6, rfl, by decide, by decide +kernel⟩
set_option maxRecDepth 20000 in
theorem fd_X6_copyFrom_14 : gFd wsX6_copyFrom RX6 14 5 RX6 TX6 3 0 := ⟨in_X6_copyFrom_X6, rfl, by decide, by decide +kernel⟩
theorem cb_X6_copyFrom__X5_copyFrom : gCb yX5_copyFrom cX5_copyFrom 3 none wsX5_copyFrom (gR 0) (gR 1) 0 0 1 := ⟨rfl, rfl, rfl, by decide +kernel, by decide⟩
set_option maxRecDepth 20000 in
theorem in_X7_sheetNumbered_X7 : ∀ w ∈ wsX70, w ∈ wsX7_sheetNumbered := by decide +kernel
set_option maxRecDepth 20000 in
theorem fd_X7_sheetNumbered_61 : gFd wsX7_sheetNumbered RX7 61 6 RX7 TX7 9 8 := ⟨in_X7_sheetNumbered_X7, rfl, by decide, by decide +kernel⟩
set_option maxRecDepth 20000 in
theorem fd_X7_sheetNumbered_22 : gFd wsX7_sheetNumbered RX7 22 6 RX7 TX7 9 1 := ⟨in_X7_sheetNumbered_X7, rfl, by decide, by decide +kernel⟩
set_option maxRecDepth 20000 in
theorem in_X7_hasSheetOut_X7 : ∀ w ∈ wsX70, w ∈ wsX7_hasSheetOut := by decide +kernel
set_option maxRecDepth 20000 in
theorem fd_X7_hasSheetOut_61 : gFd wsX7_hasSheetOut RX7 61 6 RX7 TX7 9 8 := ⟨in_X7_hasSheetOut_X7, rfl, by decide, by decide +kernel⟩
theorem cb_X7_hasSheetOut__X7_sheetNumbered : gCb yX7_sheetNumbered cX7_sheetNumbered 2 (some (.object "ProofSheets$Sheet")) wsX7_sheetNumbered (gR 0) (gR 1) 0 0 1 := ⟨rfl, rfl, rfl, by decide +kernel, by decide⟩
set_option maxRecDepth 20000 in
theorem in_X7_hasSheetOut_X6 : ∀ w ∈ wsX60, w ∈ wsX7_hasSheetOut := by decide +kernel
set_option maxRecDepth 20000 in
theorem fd_X7_hasSheetOut_81 : gFn wsX7_hasSheetOut RX7 81 5 RX6 TX6 3 1 := ⟨in_X7_hasSheetOut_X6, rfl, by decide, by decide +kernel⟩
set_option maxRecDepth 20000 in
theorem fd_X7_hasSheetOut_84 : gFn wsX7_hasSheetOut RX7 84 5 RX6 TX6 3 2 := ⟨in_X7_hasSheetOut_X6, rfl, by decide, by decide +kernel⟩
set_option maxRecDepth 20000 in
theorem in_X7_howManySheetsAre_X7 : ∀ w ∈ wsX70, w ∈ wsX7_howManySheetsAre := by decide +kernel
set_option maxRecDepth 20000 in
theorem fd_X7_howManySheetsAre_61 : gFd wsX7_howManySheetsAre RX7 61 6 RX7 TX7 9 8 := ⟨in_X7_howManySheetsAre_X7, rfl, by decide, by decide +kernel⟩
theorem cb_X7_howManySheetsAre__X7_sheetNumbered : gCb yX7_sheetNumbered cX7_sheetNumbered 2 (some (.object "ProofSheets$Sheet")) wsX7_sheetNumbered (gR 0) (gR 1) 0 0 1 := ⟨rfl, rfl, rfl, by decide +kernel, by decide⟩
set_option maxRecDepth 20000 in
theorem in_X7_howManySheetsAre_X6 : ∀ w ∈ wsX60, w ∈ wsX7_howManySheetsAre := by decide +kernel
set_option maxRecDepth 20000 in
theorem fd_X7_howManySheetsAre_84 : gFn wsX7_howManySheetsAre RX7 84 5 RX6 TX6 3 2 := ⟨in_X7_howManySheetsAre_X6, rfl, by decide, by decide +kernel⟩
set_option maxRecDepth 20000 in
theorem in_X7_marksOnSheetsThatAre_X7 : ∀ w ∈ wsX70, w ∈ wsX7_marksOnSheetsThatAre := by decide +kernel
set_option maxRecDepth 20000 in
theorem fd_X7_marksOnSheetsThatAre_61 : gFd wsX7_marksOnSheetsThatAre RX7 61 6 RX7 TX7 9 8 := ⟨in_X7_marksOnSheetsThatAre_X7, rfl, by decide, by decide +kernel⟩
theorem cb_X7_marksOnSheetsThatAre__X7_sheetNumbered : gCb yX7_sheetNumbered cX7_sheetNumbered 2 (some (.object "ProofSheets$Sheet")) wsX7_sheetNumbered (gR 0) (gR 1) 0 0 1 := ⟨rfl, rfl, rfl, by decide +kernel, by decide⟩
set_option maxRecDepth 20000 in
theorem in_X7_marksOnSheetsThatAre_X6 : ∀ w ∈ wsX60, w ∈ wsX7_marksOnSheetsThatAre := by decide +kernel
set_option maxRecDepth 20000 in
theorem fd_X7_marksOnSheetsThatAre_84 : gFn wsX7_marksOnSheetsThatAre RX7 84 5 RX6 TX6 3 2 := ⟨in_X7_marksOnSheetsThatAre_X6, rfl, by decide, by decide +kernel⟩
set_option maxRecDepth 20000 in
theorem fd_X7_marksOnSheetsThatAre_87 : gFn wsX7_marksOnSheetsThatAre RX7 87 5 RX6 TX6 3 0 := ⟨in_X7_marksOnSheetsThatAre_X6, rfl, by decide, by decide +kernel⟩
theorem cb_X7_marksOnSheetsThatAre__X5_used : gCb yX5_used cX5_used 1 (some .int) wsX5_used (gR 0) (gR 1) 0 0 0 := ⟨rfl, rfl, rfl, by decide +kernel, by decide⟩
set_option maxRecDepth 20000 in
theorem in_X7_account_X7 : ∀ w ∈ wsX70, w ∈ wsX7_account := by decide +kernel
set_option maxRecDepth 20000 in
theorem fd_X7_account_33 : gFd wsX7_account RX7 33 6 RX7 TX7 9 3 := ⟨in_X7_account_X7, rfl, by decide, by decide +kernel⟩
theorem cb_X7_account__X5_get : gCb yX5_get cX5_get 2 (some .int) wsX5_get (gR 1) (gR 3) 0 0 1 := ⟨rfl, rfl, rfl, by decide +kernel, by decide⟩
set_option maxRecDepth 20000 in
theorem fd_X7_account_29 : gFd wsX7_account RX7 29 6 RX7 TX7 9 2 := ⟨in_X7_account_X7, rfl, by decide, by decide +kernel⟩
theorem cb_X7_account__X2_howManyAreOpen : gCb yX2_howManyAreOpen cX2_howManyAreOpen 3 (some .int) wsX2_howManyAreOpen (gR 2) (gR 3) 0 0 0 := ⟨rfl, rfl, rfl, by decide +kernel, by decide⟩
theorem cb_X7_account__X7_marksOnSheetsThatAre : gCb yX7_marksOnSheetsThatAre cX7_marksOnSheetsThatAre 5 (some .int) wsX7_marksOnSheetsThatAre (gR 1) (gR 3) 0 0 1 := ⟨rfl, rfl, rfl, by decide +kernel, by decide⟩
set_option maxRecDepth 20000 in
theorem in_X7_canBeFinished_X7 : ∀ w ∈ wsX70, w ∈ wsX7_canBeFinished := by decide +kernel
set_option maxRecDepth 20000 in
theorem fd_X7_canBeFinished_57 : gFd wsX7_canBeFinished RX7 57 6 RX7 TX7 9 7 := ⟨in_X7_canBeFinished_X7, rfl, by decide, by decide +kernel⟩
theorem cb_X7_canBeFinished__X7_howManySheetsAre : gCb yX7_howManySheetsAre cX7_howManySheetsAre 5 (some .int) wsX7_howManySheetsAre (gR 1) (gR 3) 0 0 1 := ⟨rfl, rfl, rfl, by decide +kernel, by decide⟩
set_option maxRecDepth 20000 in
theorem fd_X7_canBeFinished_29 : gFd wsX7_canBeFinished RX7 29 6 RX7 TX7 9 2 := ⟨in_X7_canBeFinished_X7, rfl, by decide, by decide +kernel⟩
theorem cb_X7_canBeFinished__X2_howManyAreOpen : gCb yX2_howManyAreOpen cX2_howManyAreOpen 3 (some .int) wsX2_howManyAreOpen (gR 2) (gR 3) 0 0 0 := ⟨rfl, rfl, rfl, by decide +kernel, by decide⟩
set_option maxRecDepth 20000 in
theorem in_X7_keepAnswer_X7 : ∀ w ∈ wsX70, w ∈ wsX7_keepAnswer := by decide +kernel
set_option maxRecDepth 20000 in
theorem fd_X7_keepAnswer_29 : gFd wsX7_keepAnswer RX7 29 6 RX7 TX7 9 2 := ⟨in_X7_keepAnswer_X7, rfl, by decide, by decide +kernel⟩
set_option maxRecDepth 20000 in
theorem in_X7_keepAnswer_X2 : ∀ w ∈ wsX20, w ∈ wsX7_keepAnswer := by decide +kernel
set_option maxRecDepth 20000 in
theorem fd_X7_keepAnswer_111 : gFn wsX7_keepAnswer RX7 111 1 RX2 TX2 4 1 := ⟨in_X7_keepAnswer_X2, rfl, by decide, by decide +kernel⟩
theorem cb_X7_keepAnswer__X5_set : gCb yX5_set cX5_set 3 none wsX5_set (gR 1) (gR 3) 0 0 2 := ⟨rfl, rfl, rfl, by decide +kernel, by decide⟩
set_option maxRecDepth 20000 in
theorem fd_X7_keepAnswer_33 : gFd wsX7_keepAnswer RX7 33 6 RX7 TX7 9 3 := ⟨in_X7_keepAnswer_X7, rfl, by decide, by decide +kernel⟩
theorem cb_X7_keepAnswer__X5_add : gCb yX5_add cX5_add 3 none wsX5_add (gR 2) (gR 3) 0 0 2 := ⟨rfl, rfl, rfl, by decide +kernel, by decide⟩
set_option maxRecDepth 20000 in
theorem in_X7_addSheet_X7 : ∀ w ∈ wsX70, w ∈ wsX7_addSheet := by decide +kernel
set_option maxRecDepth 20000 in
theorem fd_X7_addSheet_61 : gFd wsX7_addSheet RX7 61 6 RX7 TX7 9 8 := ⟨in_X7_addSheet_X7, rfl, by decide, by decide +kernel⟩
theorem cb_X7_addSheet__X7_sheetNumbered : gCb yX7_sheetNumbered cX7_sheetNumbered 2 (some (.object "ProofSheets$Sheet")) wsX7_sheetNumbered (gR 0) (gR 3) 0 0 1 := ⟨rfl, rfl, rfl, by decide +kernel, by decide⟩
theorem cb_X7_addSheet__X6_startFor : gCb yX6_startFor cX6_startFor 2 none wsX6_startFor (gR 1) (gR 3) 0 0 1 := ⟨rfl, rfl, rfl, by decide +kernel, by decide⟩
set_option maxRecDepth 20000 in
theorem fd_X7_addSheet_36 : gFd wsX7_addSheet RX7 36 6 RX7 TX7 9 4 := ⟨in_X7_addSheet_X7, rfl, by decide, by decide +kernel⟩
theorem cb_X7_addSheet__X5_add : gCb yX5_add cX5_add 3 none wsX5_add (gR 2) (gR 3) 0 0 2 := ⟨rfl, rfl, rfl, by decide +kernel, by decide⟩
set_option maxHeartbeats 4000000 in
set_option maxRecDepth 100000 in
/-- X6_startFor -/
theorem k6_startFor (l : Launch) (D : gD) (A : Nat → Prop) (hs : Nat) {G : gH} {a : Nat} {v : SH} (x : Int32) (h : gSheet D G a v) : gM l yX6_startFor wsX6_startFor (gR 1) D A hs 0 0 [.ref a, .int x] G (gPv fun G' => gSheet D G' a (x, 0, []) ∧ gOut a 3 G G') := by
  refine gM_intro (by decide) rfl rfl (Nat.le_of_ble_eq_true rfl) ?_
  intro p e s m args below meth c C
  have h1 := h.1
  refine gx_aload_n C dX6_startFor_0 rfl ?_
  refine gx_iload_n C dX6_startFor_1 rfl ?_
  refine gx_put C fd_X6_startFor_20 tyX6_ok nmX6 rfl rfl rfl (hG := h1) (hl := by exact Nat.le_of_ble_eq_true rfl) dX6_startFor_2 ?_
  have z1 := gSheet_put (x := x) (y := v.2.1) h
  refine gx_aload_n C dX6_startFor_5 rfl ?_
  refine gx_iconst (v := 0) C dX6_startFor_6 (by decide) ?_
  refine gx_put C fd_X6_startFor_24 tyX6_ok nmX6 rfl rfl rfl (hG := gU_s) (hl := by exact Nat.le_of_ble_eq_true rfl) dX6_startFor_7 ?_
  have z2 := gSheet_put (x := x) (y := 0) z1
  refine gx_aload_n C dX6_startFor_10 rfl ?_
  refine gx_get C fd_X6_startFor_14 (hG := gU_s) (hv := by rfl) dX6_startFor_11 ?_
  refine gx_iconst (v := 0) C dX6_startFor_14 (by decide) ?_
  refine gx_callV (ci := 4) (T := TX5) (N := 2) C (k5_cutTo l D A hs 0 z2.2) cb_X6_startFor__X5_cutTo gX6_startFor_X5_cutTo rfl (hG := (gRow_ob z2.2)) rfl rfl (Nat.le_of_ble_eq_true rfl) ⟨Nat.le_refl _, Nat.le_refl _⟩ dX6_startFor_15 (gx_kv fun G_15 h_15 => ?_)
  rw [lcut_0] at h_15
  refine gx_vret (mc := 0) C ?_ dX6_startFor_18
  exact ⟨rfl, gSheet_ms z2 h_15.1 h_15.2, gOut_tr (gOut_up (gOut_up gOut_rf (by omega)) (by omega)) (gOut_wd h_15.2 (by omega))⟩
set_option maxHeartbeats 4000000 in
set_option maxRecDepth 100000 in
/-- X6_copyFrom -/
theorem k6_copyFrom (l : Launch) (D : gD) (A : Nat → Prop) (hs : Nat) {G : gH} {a b : Nat} {v w : SH} (h : gSheet D G a v) (h2 : gSheet D G b w) (hd : b + 3 ≤ a ∨ a + 3 ≤ b) : gM l yX6_copyFrom wsX6_copyFrom (gR 1) D A hs 0 0 [.ref a, .ref b] G (gPv fun G' => gSheet D G' a w ∧ gOut a 3 G G') := by
  refine gM_intro (by decide) rfl rfl (Nat.le_of_ble_eq_true rfl) ?_
  intro p e s m args below meth c C
  have h1 := h.1
  refine gx_aload_n C dX6_copyFrom_0 rfl ?_
  refine gx_aload_n C dX6_copyFrom_1 rfl ?_
  refine gx_get C fd_X6_copyFrom_20 (hG := h2.1) (hv := by rfl) dX6_copyFrom_2 ?_
  refine gx_put C fd_X6_copyFrom_20 tyX6_ok nmX6 rfl rfl rfl (hG := h1) (hl := by exact Nat.le_of_ble_eq_true rfl) dX6_copyFrom_5 ?_
  have z1 := gSheet_put (x := w.1) (y := v.2.1) h
  have z1b := gSheet_fr h2 (gOut_up (a := a) (n := 3) gOut_rf (by omega) : gOut a 3 G (gU G a (.inr (5, [.ref (a + 1), .int w.1, .int v.2.1])))) (by omega)
  refine gx_aload_n C dX6_copyFrom_8 rfl ?_
  refine gx_aload_n C dX6_copyFrom_9 rfl ?_
  refine gx_get C fd_X6_copyFrom_24 (hG := z1b.1) (hv := by rfl) dX6_copyFrom_10 ?_
  refine gx_put C fd_X6_copyFrom_24 tyX6_ok nmX6 rfl rfl rfl (hG := gU_s) (hl := by exact Nat.le_of_ble_eq_true rfl) dX6_copyFrom_13 ?_
  have z2 := gSheet_put (x := w.1) (y := w.2.1) z1
  have o2 : gOut a 3 G (gU (gU G a (.inr (5, [.ref (a + 1), .int w.1, .int v.2.1]))) a (.inr (5, [.ref (a + 1), .int w.1, .int w.2.1]))) := gOut_up (gOut_up gOut_rf (by omega)) (by omega)
  have z2b := gSheet_fr h2 o2 (by omega)
  refine gx_aload_n C dX6_copyFrom_16 rfl ?_
  refine gx_get C fd_X6_copyFrom_14 (hG := gU_s) (hv := by rfl) dX6_copyFrom_17 ?_
  refine gx_aload_n C dX6_copyFrom_20 rfl ?_
  refine gx_get C fd_X6_copyFrom_14 (hG := z2b.1) (hv := by rfl) dX6_copyFrom_21 ?_
  refine gx_callV (ci := 4) (T := TX5) (N := 2) C (k5_copyFrom l D A hs z2.2 z2b.2 (by omega) (gRow_le z2b.2).1) cb_X6_copyFrom__X5_copyFrom gX6_copyFrom_X5_copyFrom rfl (hG := (gRow_ob z2.2)) rfl rfl (Nat.le_of_ble_eq_true rfl) ⟨Nat.le_refl _, Nat.le_refl _⟩ dX6_copyFrom_24 (gx_kv fun G_24 h_24 => ?_)
  refine gx_vret (mc := 0) C ?_ dX6_copyFrom_27
  have z3 := gSheet_ms z2 h_24.1 h_24.2
  exact ⟨rfl, z3, gOut_tr o2 (gOut_wd h_24.2 (by omega))⟩
set_option maxHeartbeats 4000000 in
set_option maxRecDepth 100000 in
/-- X7_sheetNumbered -/
theorem k7_sheetAt (l : Launch) (D : gD) (A : Nat → Prop) (hs : Nat) {G : gH} {S : Nat} {v : SV} (hv : gSv D G S v) (j : Nat) (hj : j < v.2.2.1.length) : gM l yX7_sheetNumbered wsX7_sheetNumbered (gR 0) D A hs 0 0 [.ref S, .int (nI j)] G (gPr fun w G' => w = .ref (S + 21 + 3 * j) ∧ G' = G) := by
  refine gM_intro (by decide) rfl rfl (Nat.le_of_ble_eq_true rfl) ?_
  intro p e s m args below meth c C
  have bn := gSv_n hv
  obtain ⟨f, hf1, hf2⟩ := hv.2.1
  refine gx_iload_n C dX7_sheetNumbered_0 rfl ?_
  refine gx_if_lt (tgt := 21) C dX7_sheetNumbered_1 (by decide) (fun c_1 => ?_) (fun c_1 => ?_)
  · exact absurd c_1 (nI_pos (by omega))
  · refine gx_iload_n C dX7_sheetNumbered_4 rfl ?_
    refine gx_aload_n C dX7_sheetNumbered_5 rfl ?_
    refine gx_get C fd_X7_sheetNumbered_61 (hG := hv.1) (hv := by rfl) dX7_sheetNumbered_6 ?_
    refine gx_icmp_ge (tgt := 21) C dX7_sheetNumbered_9 (by decide) (fun c_9 => ?_) (fun c_9 => ?_)
    · exact absurd c_9 (nI_ge hj (by omega))
    · refine gx_iload_n C dX7_sheetNumbered_12 rfl ?_
      refine gx_aload_n C dX7_sheetNumbered_13 rfl ?_
      refine gx_get C fd_X7_sheetNumbered_22 (hG := hv.1) (hv := by rfl) dX7_sheetNumbered_14 ?_
      refine gx_alen (t0 := 1) C (hG := hf1) (ht := by rfl) (hv := by rfl) dX7_sheetNumbered_17 ?_
      refine gx_icmp_lt (tgt := 23) C dX7_sheetNumbered_18 (by decide) (fun c_18 => ?_) (fun c_18 => ?_)
      · refine gx_aload_n C dX7_sheetNumbered_23 rfl ?_
        refine gx_get C fd_X7_sheetNumbered_22 (hG := hv.1) (hv := by rfl) dX7_sheetNumbered_24 ?_
        refine gx_iload_n C dX7_sheetNumbered_27 rfl ?_
        refine gx_aald (t0 := 1) C (hG := hf1) (ht := by rfl) (hin := vp_in_nI (by omega) (by omega)) dX7_sheetNumbered_28 ?_
        refine gx_aret (mc := 0) C (Or.inl ⟨_, rfl⟩) (Or.inr ⟨S + 21 + 3 * j, by rw [nI_clamp (by omega), hf2 j (by omega)]; rfl⟩) ?_ dX7_sheetNumbered_29
        refine ⟨_, rfl, Or.inr ⟨S + 21 + 3 * j, ?_⟩, ?_, rfl⟩ <;> (rw [nI_clamp (by omega), hf2 j (by omega)]; rfl)
      · exact absurd (nI_lt (a := j) (b := 8) (by omega) (by omega)) c_18
set_option maxHeartbeats 4000000 in
set_option maxRecDepth 100000 in
/-- X7_sheetNumbered -/
theorem k7_sheetNo (l : Launch) (D : gD) (A : Nat → Prop) (hs : Nat) {G : gH} {S : Nat} {v : SV} (hv : gSv D G S v) (i : Int32) (hi : ¬ gIn i v.2.2.1.length = true) : gM l yX7_sheetNumbered wsX7_sheetNumbered (gR 0) D A hs 0 0 [.ref S, .int i] G (gPr fun w G' => w = .null ∧ G' = G) := by
  refine gM_intro (by decide) rfl rfl (Nat.le_of_ble_eq_true rfl) ?_
  intro p e s m args below meth c C
  have bn := gSv_n hv
  obtain ⟨f, hf1, hf2⟩ := hv.2.1
  refine gx_iload_n C dX7_sheetNumbered_0 rfl ?_
  refine gx_if_lt (tgt := 21) C dX7_sheetNumbered_1 (by decide) (fun c_1 => ?_) (fun c_1 => ?_)
  · refine gx_null C dX7_sheetNumbered_21 ?_
    refine gx_aret (mc := 0) C (Or.inl ⟨_, rfl⟩) (Or.inl rfl) ?_ dX7_sheetNumbered_22
    exact ⟨_, rfl, Or.inl rfl, rfl, rfl⟩
  · refine gx_iload_n C dX7_sheetNumbered_4 rfl ?_
    refine gx_aload_n C dX7_sheetNumbered_5 rfl ?_
    refine gx_get C fd_X7_sheetNumbered_61 (hG := hv.1) (hv := by rfl) dX7_sheetNumbered_6 ?_
    refine gx_icmp_ge (tgt := 21) C dX7_sheetNumbered_9 (by decide) (fun c_9 => ?_) (fun c_9 => ?_)
    · refine gx_null C dX7_sheetNumbered_21 ?_
      refine gx_aret (mc := 0) C (Or.inl ⟨_, rfl⟩) (Or.inl rfl) ?_ dX7_sheetNumbered_22
      exact ⟨_, rfl, Or.inl rfl, rfl, rfl⟩
    · refine gx_iload_n C dX7_sheetNumbered_12 rfl ?_
      refine gx_aload_n C dX7_sheetNumbered_13 rfl ?_
      refine gx_get C fd_X7_sheetNumbered_22 (hG := hv.1) (hv := by rfl) dX7_sheetNumbered_14 ?_
      refine gx_alen (t0 := 1) C (hG := hf1) (ht := by rfl) (hv := by rfl) dX7_sheetNumbered_17 ?_
      refine gx_icmp_lt (tgt := 23) C dX7_sheetNumbered_18 (by decide) (fun c_18 => ?_) (fun c_18 => ?_)
      · exact absurd (gIn_t c_1 c_9 (by omega)) hi
      · refine gx_null C dX7_sheetNumbered_21 ?_
        refine gx_aret (mc := 0) C (Or.inl ⟨_, rfl⟩) (Or.inl rfl) ?_ dX7_sheetNumbered_22
        exact ⟨_, rfl, Or.inl rfl, rfl, rfl⟩
set_option maxHeartbeats 4000000 in
set_option maxRecDepth 100000 in
/-- X7_hasSheetOut -/
theorem k7_hasSheetOut (l : Launch) (D : gD) (A : Nat → Prop) (hs : Nat) {G : gH} {S : Nat} {v : SV} (hv : gSv D G S v) (z : Int32) : gM l yX7_hasSheetOut wsX7_hasSheetOut (gR 1) D A hs 0 0 [.ref S, .int z] G (gPi fun x G' => x = (if pBusy v.2.2.1 z then 1 else 0) ∧ G' = G) := by
  refine gM_intro (by decide) rfl rfl (Nat.le_of_ble_eq_true rfl) ?_
  intro p e s m args below meth c C
  have bn := gSv_n hv
  have hloop : ∀ (n j : Nat) (V3 : Option Value), v.2.2.1.length < j + n → j ≤ v.2.2.1.length → (∀ b, b < j → ¬ (decide ((v.2.2.1.getD b shD).1 = z) && decide ((v.2.2.1.getD b shD).2.1 = 0)) = true) → gX p l e (gR 1) s m args below meth c D A 4 hs 0 0 (MQ below (gQ D A hs 0 (gPi fun x G' => x = (if pBusy v.2.2.1 z then 1 else 0) ∧ G' = G)) args s 0 0 A) G [some (.ref S), some (.int z), some (.int (nI j)), V3] 2 [] := by
    intro n
    induction n with
    | zero => intro j V3 hm hj0 hI; exact absurd hm (by omega)
    | succ n ih =>
      intro j V3 hm hj0 hI
      refine gx_iload_n C dX7_hasSheetOut_2 rfl ?_
      refine gx_aload_n C dX7_hasSheetOut_3 rfl ?_
      refine gx_get C fd_X7_hasSheetOut_61 (hG := hv.1) (hv := by rfl) dX7_hasSheetOut_4 ?_
      refine gx_icmp_ge (tgt := 43) C dX7_hasSheetOut_7 (by decide) (fun c_7 => ?_) (fun c_7 => ?_)
      · have hj : ¬ j < v.2.2.1.length := fun q => nI_ge q (by omega) c_7
        refine gx_iconst (v := 0) C dX7_hasSheetOut_43 (by decide) ?_
        refine gx_zret (mc := 0) C rfl ?_ dX7_hasSheetOut_44
        have e : j = v.2.2.1.length := by omega
        subst e
        exact ⟨_, rfl, by rw [if_neg (by rw [show pBusy v.2.2.1 z = false from pAny_f hI]; decide)], rfl⟩
      · have hj : j < v.2.2.1.length := by
          rcases Nat.lt_or_ge (j) (v.2.2.1.length) with q | q
          · exact q
          · exact absurd (nI_le q (by omega)) c_7
        refine gx_aload_n C dX7_hasSheetOut_10 rfl ?_
        refine gx_iload_n C dX7_hasSheetOut_11 rfl ?_
        refine gx_callV (ci := 6) (T := TX7) (N := 9) C (k7_sheetAt l D A hs hv j hj) cb_X7_hasSheetOut__X7_sheetNumbered gX7_hasSheetOut_X7_sheetNumbered rfl (hG := hv.1) rfl rfl (Nat.le_of_ble_eq_true rfl) ⟨Nat.le_refl _, Nat.le_refl _⟩ dX7_hasSheetOut_12 (gx_kr fun w_12 G_12 hw_12 h_12 => ?_)
        obtain ⟨rfl, rfl⟩ := h_12
        have hsj := gSv_gd hv hj
        refine gx_astore_n C dX7_hasSheetOut_15 (by decide) ?_
        refine gx_aload_n C dX7_hasSheetOut_16 rfl ?_
        refine gx_ifnull C dX7_hasSheetOut_17 ?_
        refine gx_aload_n C dX7_hasSheetOut_20 rfl ?_
        refine gx_getN C fd_X7_hasSheetOut_81 (hG := hsj.1) (hv := by rfl) dX7_hasSheetOut_21 ?_
        refine gx_iload_n C dX7_hasSheetOut_24 rfl ?_
        refine gx_icmp_ne (tgt := 37) C dX7_hasSheetOut_25 (by decide) (fun c_25 => ?_) (fun c_25 => ?_)
        · first | refine gx_iincN C dX7_hasSheetOut_37 rfl (by decide) ?_ | refine gx_iinc1 C dX7_hasSheetOut_37 rfl (by decide) ?_
          refine gx_goto (tgt := 2) C dX7_hasSheetOut_40 (by decide) ?_
          refine ih (j + 1) _ (by omega) (by omega) (fun b hb => ?_)
          by_cases q : b = j
          · subst q; simp only [Bool.and_eq_true, decide_eq_true_eq]; rintro ⟨q1, q2⟩; first | exact c_25 q1 | exact c_32 q2
          · exact hI b (by omega)
        · refine gx_aload_n C dX7_hasSheetOut_28 rfl ?_
          refine gx_getN C fd_X7_hasSheetOut_84 (hG := hsj.1) (hv := by rfl) dX7_hasSheetOut_29 ?_
          refine gx_if_ne (tgt := 37) C dX7_hasSheetOut_32 (by decide) (fun c_32 => ?_) (fun c_32 => ?_)
          · first | refine gx_iincN C dX7_hasSheetOut_37 rfl (by decide) ?_ | refine gx_iinc1 C dX7_hasSheetOut_37 rfl (by decide) ?_
            refine gx_goto (tgt := 2) C dX7_hasSheetOut_40 (by decide) ?_
            refine ih (j + 1) _ (by omega) (by omega) (fun b hb => ?_)
            by_cases q : b = j
            · subst q; simp only [Bool.and_eq_true, decide_eq_true_eq]; rintro ⟨q1, q2⟩; first | exact c_25 q1 | exact c_32 q2
            · exact hI b (by omega)
          · refine gx_iconst (v := 1) C dX7_hasSheetOut_35 (by decide) ?_
            refine gx_zret (mc := 0) C rfl ?_ dX7_hasSheetOut_36
            have q : pBusy v.2.2.1 z = true := pAny_t hj (by simp only [Bool.and_eq_true, decide_eq_true_eq]; exact ⟨c_25, c_32⟩)
            exact ⟨_, rfl, by rw [if_pos q], rfl⟩
  refine gx_iconst (v := 0) C dX7_hasSheetOut_0 (by decide) ?_
  refine gx_istore_n C dX7_hasSheetOut_1 (by decide) ?_
  exact hloop (v.2.2.1.length + 1) 0 _ (by omega) (by omega) (fun b hb => absurd hb (by omega))
set_option maxHeartbeats 4000000 in
set_option maxRecDepth 100000 in
/-- X7_howManySheetsAre -/
theorem k7_howManySheetsAre (l : Launch) (D : gD) (A : Nat → Prop) (hs : Nat) {G : gH} {S : Nat} {v : SV} (hv : gSv D G S v) (z : Int32) : gM l yX7_howManySheetsAre wsX7_howManySheetsAre (gR 1) D A hs 0 0 [.ref S, .int z] G (gPi fun x G' => x = nI (pShN v.2.2.1 z v.2.2.1.length) ∧ G' = G) := by
  refine gM_intro (by decide) rfl rfl (Nat.le_of_ble_eq_true rfl) ?_
  intro p e s m args below meth c C
  have bn := gSv_n hv
  have hloop : ∀ (n j : Nat) (V4 : Option Value), v.2.2.1.length < j + n → j ≤ v.2.2.1.length → gX p l e (gR 1) s m args below meth c D A 5 hs 0 0 (MQ below (gQ D A hs 0 (gPi fun x G' => x = nI (pShN v.2.2.1 z v.2.2.1.length) ∧ G' = G)) args s 0 0 A) G [some (.ref S), some (.int z), some (.int (nI (pShN v.2.2.1 z j))), some (.int (nI j)), V4] 4 [] := by
    intro n
    induction n with
    | zero => intro j V4 hm hj0; exact absurd hm (by omega)
    | succ n ih =>
      intro j V4 hm hj0
      refine gx_iload_n C dX7_howManySheetsAre_4 rfl ?_
      refine gx_aload_n C dX7_howManySheetsAre_5 rfl ?_
      refine gx_get C fd_X7_howManySheetsAre_61 (hG := hv.1) (hv := by rfl) dX7_howManySheetsAre_6 ?_
      refine gx_icmp_ge (tgt := 42) C dX7_howManySheetsAre_9 (by decide) (fun c_9 => ?_) (fun c_9 => ?_)
      · have hj : ¬ j < v.2.2.1.length := fun q => nI_ge q (by omega) c_9
        refine gx_iload_n C dX7_howManySheetsAre_42 rfl ?_
        refine gx_zret (mc := 0) C rfl ?_ dX7_howManySheetsAre_43
        have e : j = v.2.2.1.length := by omega
        subst e
        exact ⟨_, rfl, rfl, rfl⟩
      · have hj : j < v.2.2.1.length := by
          rcases Nat.lt_or_ge (j) (v.2.2.1.length) with q | q
          · exact q
          · exact absurd (nI_le q (by omega)) c_9
        refine gx_aload_n C dX7_howManySheetsAre_12 rfl ?_
        refine gx_iload_n C dX7_howManySheetsAre_13 rfl ?_
        refine gx_callV (ci := 6) (T := TX7) (N := 9) C (k7_sheetAt l D A hs hv j hj) cb_X7_howManySheetsAre__X7_sheetNumbered gX7_howManySheetsAre_X7_sheetNumbered rfl (hG := hv.1) rfl rfl (Nat.le_of_ble_eq_true rfl) ⟨Nat.le_refl _, Nat.le_refl _⟩ dX7_howManySheetsAre_14 (gx_kr fun w_14 G_14 hw_14 h_14 => ?_)
        obtain ⟨rfl, rfl⟩ := h_14
        have hsj := gSv_gd hv hj
        refine gx_astore C dX7_howManySheetsAre_17 (by decide) ?_
        refine gx_aload C dX7_howManySheetsAre_19 rfl ?_
        refine gx_ifnull C dX7_howManySheetsAre_21 ?_
        refine gx_aload C dX7_howManySheetsAre_24 rfl ?_
        refine gx_getN C fd_X7_howManySheetsAre_84 (hG := hsj.1) (hv := by rfl) dX7_howManySheetsAre_26 ?_
        refine gx_iload_n C dX7_howManySheetsAre_29 rfl ?_
        refine gx_icmp_ne (tgt := 36) C dX7_howManySheetsAre_30 (by decide) (fun c_30 => ?_) (fun c_30 => ?_)
        · have hx : pShN v.2.2.1 z (j + 1) = pShN v.2.2.1 z j := (pC_n (f := fun i => decide ((v.2.2.1.getD i shD).2.1 = z)) (n := j) (by simpa using c_30)).symm
          first | refine gx_iincN C dX7_howManySheetsAre_36 rfl (by decide) ?_ | refine gx_iinc1 C dX7_howManySheetsAre_36 rfl (by decide) ?_
          refine gx_goto (tgt := 4) C dX7_howManySheetsAre_39 (by decide) ?_
          refine gx_V ?_ (ih (j + 1) (some (.ref (S + 21 + 3 * j))) (by omega) (by omega))
          rw [hx]
          rfl
        · have hx : pShN v.2.2.1 z (j + 1) = pShN v.2.2.1 z j + 1 := (pC_s (f := fun i => decide ((v.2.2.1.getD i shD).2.1 = z)) (n := j) (by simpa using c_30)).symm
          first | refine gx_iincN C dX7_howManySheetsAre_33 rfl (by decide) ?_ | refine gx_iinc1 C dX7_howManySheetsAre_33 rfl (by decide) ?_
          first | refine gx_iincN C dX7_howManySheetsAre_36 rfl (by decide) ?_ | refine gx_iinc1 C dX7_howManySheetsAre_36 rfl (by decide) ?_
          refine gx_goto (tgt := 4) C dX7_howManySheetsAre_39 (by decide) ?_
          refine gx_V ?_ (ih (j + 1) (some (.ref (S + 21 + 3 * j))) (by omega) (by omega))
          rw [hx]
          rfl
  refine gx_iconst (v := 0) C dX7_howManySheetsAre_0 (by decide) ?_
  refine gx_istore_n C dX7_howManySheetsAre_1 (by decide) ?_
  refine gx_iconst (v := 0) C dX7_howManySheetsAre_2 (by decide) ?_
  refine gx_istore_n C dX7_howManySheetsAre_3 (by decide) ?_
  exact hloop (v.2.2.1.length + 1) 0 _ (by omega) (by omega)
set_option maxHeartbeats 4000000 in
set_option maxRecDepth 100000 in
/-- X7_marksOnSheetsThatAre -/
theorem k7_marksOn (l : Launch) (D : gD) (A : Nat → Prop) (hs : Nat) {G : gH} {S : Nat} {v : SV} (hv : gSv D G S v) (z : Int32) : gM l yX7_marksOnSheetsThatAre wsX7_marksOnSheetsThatAre (gR 1) D A hs 0 0 [.ref S, .int z] G (gPi fun x G' => x = nI (pMkS v.2.2.1 z v.2.2.1.length) ∧ G' = G) := by
  refine gM_intro (by decide) rfl rfl (Nat.le_of_ble_eq_true rfl) ?_
  intro p e s m args below meth c C
  have bn := gSv_n hv
  have hloop : ∀ (n j : Nat) (V4 : Option Value), v.2.2.1.length < j + n → j ≤ v.2.2.1.length → gX p l e (gR 1) s m args below meth c D A 5 hs 0 0 (MQ below (gQ D A hs 0 (gPi fun x G' => x = nI (pMkS v.2.2.1 z v.2.2.1.length) ∧ G' = G)) args s 0 0 A) G [some (.ref S), some (.int z), some (.int (nI (pMkS v.2.2.1 z j))), some (.int (nI j)), V4] 4 [] := by
    intro n
    induction n with
    | zero => intro j V4 hm hj0; exact absurd hm (by omega)
    | succ n ih =>
      intro j V4 hm hj0
      refine gx_iload_n C dX7_marksOnSheetsThatAre_4 rfl ?_
      refine gx_aload_n C dX7_marksOnSheetsThatAre_5 rfl ?_
      refine gx_get C fd_X7_marksOnSheetsThatAre_61 (hG := hv.1) (hv := by rfl) dX7_marksOnSheetsThatAre_6 ?_
      refine gx_icmp_ge (tgt := 50) C dX7_marksOnSheetsThatAre_9 (by decide) (fun c_9 => ?_) (fun c_9 => ?_)
      · have hj : ¬ j < v.2.2.1.length := fun q => nI_ge q (by omega) c_9
        refine gx_iload_n C dX7_marksOnSheetsThatAre_50 rfl ?_
        refine gx_zret (mc := 0) C rfl ?_ dX7_marksOnSheetsThatAre_51
        have e : j = v.2.2.1.length := by omega
        subst e
        exact ⟨_, rfl, rfl, rfl⟩
      · have hj : j < v.2.2.1.length := by
          rcases Nat.lt_or_ge (j) (v.2.2.1.length) with q | q
          · exact q
          · exact absurd (nI_le q (by omega)) c_9
        refine gx_aload_n C dX7_marksOnSheetsThatAre_12 rfl ?_
        refine gx_iload_n C dX7_marksOnSheetsThatAre_13 rfl ?_
        refine gx_callV (ci := 6) (T := TX7) (N := 9) C (k7_sheetAt l D A hs hv j hj) cb_X7_marksOnSheetsThatAre__X7_sheetNumbered gX7_marksOnSheetsThatAre_X7_sheetNumbered rfl (hG := hv.1) rfl rfl (Nat.le_of_ble_eq_true rfl) ⟨Nat.le_refl _, Nat.le_refl _⟩ dX7_marksOnSheetsThatAre_14 (gx_kr fun w_14 G_14 hw_14 h_14 => ?_)
        obtain ⟨rfl, rfl⟩ := h_14
        have hsj := gSv_gd hv hj
        refine gx_astore C dX7_marksOnSheetsThatAre_17 (by decide) ?_
        refine gx_aload C dX7_marksOnSheetsThatAre_19 rfl ?_
        refine gx_ifnull C dX7_marksOnSheetsThatAre_21 ?_
        refine gx_aload C dX7_marksOnSheetsThatAre_24 rfl ?_
        refine gx_getN C fd_X7_marksOnSheetsThatAre_84 (hG := hsj.1) (hv := by rfl) dX7_marksOnSheetsThatAre_26 ?_
        refine gx_iload_n C dX7_marksOnSheetsThatAre_29 rfl ?_
        refine gx_icmp_ne (tgt := 44) C dX7_marksOnSheetsThatAre_30 (by decide) (fun c_30 => ?_) (fun c_30 => ?_)
        · have hx : pMkS v.2.2.1 z (j + 1) = pMkS v.2.2.1 z j := by rw [pMkS, if_neg c_30]; rfl
          first | refine gx_iincN C dX7_marksOnSheetsThatAre_44 rfl (by decide) ?_ | refine gx_iinc1 C dX7_marksOnSheetsThatAre_44 rfl (by decide) ?_
          refine gx_goto (tgt := 4) C dX7_marksOnSheetsThatAre_47 (by decide) ?_
          refine gx_V ?_ (ih (j + 1) (some (.ref (S + 21 + 3 * j))) (by omega) (by omega))
          rw [hx]
          first | rfl | (rw [nI_add (pMkS v.2.2.1 z j)]; rfl)
        · have hx : pMkS v.2.2.1 z (j + 1) = pMkS v.2.2.1 z j + (v.2.2.1.getD j shD).2.2.length := by rw [pMkS, if_pos c_30]
          refine gx_iload_n C dX7_marksOnSheetsThatAre_33 rfl ?_
          refine gx_aload C dX7_marksOnSheetsThatAre_34 rfl ?_
          refine gx_getN C fd_X7_marksOnSheetsThatAre_87 (hG := hsj.1) (hv := by rfl) dX7_marksOnSheetsThatAre_36 ?_
          refine gx_callV (ci := 4) (T := TX5) (N := 2) C (k5_used l D A hs hsj.2) cb_X7_marksOnSheetsThatAre__X5_used gX7_marksOnSheetsThatAre_X5_used rfl (hG := (gRow_ob hsj.2)) rfl rfl (Nat.le_of_ble_eq_true rfl) ⟨Nat.le_refl _, Nat.le_refl _⟩ dX7_marksOnSheetsThatAre_39 (gx_ki fun r_39 G_39 h_39 => ?_)
          obtain ⟨rfl, rfl⟩ := h_39
          refine gx_iadd C dX7_marksOnSheetsThatAre_42 ?_
          refine gx_istore_n C dX7_marksOnSheetsThatAre_43 (by decide) ?_
          first | refine gx_iincN C dX7_marksOnSheetsThatAre_44 rfl (by decide) ?_ | refine gx_iinc1 C dX7_marksOnSheetsThatAre_44 rfl (by decide) ?_
          refine gx_goto (tgt := 4) C dX7_marksOnSheetsThatAre_47 (by decide) ?_
          refine gx_V ?_ (ih (j + 1) (some (.ref (S + 21 + 3 * j))) (by omega) (by omega))
          rw [hx]
          first | rfl | (rw [nI_add (pMkS v.2.2.1 z j)]; rfl)
  refine gx_iconst (v := 0) C dX7_marksOnSheetsThatAre_0 (by decide) ?_
  refine gx_istore_n C dX7_marksOnSheetsThatAre_1 (by decide) ?_
  refine gx_iconst (v := 0) C dX7_marksOnSheetsThatAre_2 (by decide) ?_
  refine gx_istore_n C dX7_marksOnSheetsThatAre_3 (by decide) ?_
  exact hloop (v.2.2.1.length + 1) 0 _ (by omega) (by omega)
set_option maxHeartbeats 4000000 in
set_option maxRecDepth 100000 in
/-- X7_account -/
theorem k7_account (l : Launch) (D : gD) (A : Nat → Prop) (hs : Nat) {G : gH} {S : Nat} {v : SV} (hv : gSv D G S v) (z : Int32) : gM l yX7_account wsX7_account (gR 3) D A hs 0 0 [.ref S, .int z] G (gPi fun x G' => x = (if z = 5 then nI (pMkS v.2.2.1 0 v.2.2.1.length + pMkS v.2.2.1 1 v.2.2.1.length + pMkS v.2.2.1 2 v.2.2.1.length) else if z = 6 then nI (pOpenN v.2.2.2.1.2.1 v.2.2.2.1.2.1.length) else lget v.2.2.2.2.1 z) ∧ G' = G) := by
  refine gM_intro (by decide) rfl rfl (Nat.le_of_ble_eq_true rfl) ?_
  intro p e s m args below meth c C
  have bn := gSv_n hv
  refine gx_iload_n C dX7_account_0 rfl ?_
  refine gx_iconst (v := 5) C dX7_account_1 (by decide) ?_
  refine gx_icmp_ne (tgt := 23) C dX7_account_2 (by decide) (fun c_2 => ?_) (fun c_2 => ?_)
  · refine gx_iload_n C dX7_account_23 rfl ?_
    refine gx_bipush (v := 6) C dX7_account_24 (by decide) ?_
    refine gx_icmp_ne (tgt := 39) C dX7_account_26 (by decide) (fun c_26 => ?_) (fun c_26 => ?_)
    · refine gx_aload_n C dX7_account_39 rfl ?_
      refine gx_get C fd_X7_account_33 (hG := hv.1) (hv := by rfl) dX7_account_40 ?_
      refine gx_iload_n C dX7_account_43 rfl ?_
      refine gx_callV (ci := 4) (T := TX5) (N := 2) C (k5_get l D A hs z (gSv_ac hv).1) cb_X7_account__X5_get gX7_account_X5_get rfl (hG := (gRow_ob (gSv_ac hv).1)) rfl rfl (Nat.le_of_ble_eq_true rfl) ⟨Nat.le_refl _, Nat.le_refl _⟩ dX7_account_44 (gx_ki fun r_44 G_44 h_44 => ?_)
      obtain ⟨rfl, rfl⟩ := h_44
      refine gx_zret (mc := 0) C rfl ?_ dX7_account_47
      first
        | exact ⟨_, rfl, by rw [if_neg c_2, if_neg c_26], rfl⟩
        | exact ⟨_, rfl, by rw [if_neg c_2, if_pos c_26], rfl⟩
    · refine gx_aload_n C dX7_account_29 rfl ?_
      refine gx_get C fd_X7_account_29 (hG := hv.1) (hv := by rfl) dX7_account_30 ?_
      refine gx_callV (ci := 1) (T := TX2) (N := 4) C (k2_howManyAreOpen l D A hs (gSv_li hv)) cb_X7_account__X2_howManyAreOpen gX7_account_X2_howManyAreOpen rfl (hG := (gSv_li hv).1) rfl rfl (Nat.le_of_ble_eq_true rfl) ⟨Nat.le_refl _, Nat.le_refl _⟩ dX7_account_33 (gx_ki fun r_33 G_33 h_33 => ?_)
      obtain ⟨rfl, rfl⟩ := h_33
      refine gx_goto (tgt := 47) C dX7_account_36 (by decide) ?_
      refine gx_zret (mc := 0) C rfl ?_ dX7_account_47
      first
        | exact ⟨_, rfl, by rw [if_neg c_2, if_neg c_26], rfl⟩
        | exact ⟨_, rfl, by rw [if_neg c_2, if_pos c_26], rfl⟩
  · refine gx_aload_n C dX7_account_5 rfl ?_
    refine gx_iconst (v := 0) C dX7_account_6 (by decide) ?_
    refine gx_callV (ci := 6) (T := TX7) (N := 9) C (k7_marksOn l D A hs hv 0) cb_X7_account__X7_marksOnSheetsThatAre gX7_account_X7_marksOnSheetsThatAre rfl (hG := hv.1) rfl rfl (Nat.le_of_ble_eq_true rfl) ⟨Nat.le_refl _, Nat.le_refl _⟩ dX7_account_7 (gx_ki fun r_7 G_7 h_7 => ?_)
    obtain ⟨rfl, rfl⟩ := h_7
    refine gx_aload_n C dX7_account_10 rfl ?_
    refine gx_iconst (v := 1) C dX7_account_11 (by decide) ?_
    refine gx_callV (ci := 6) (T := TX7) (N := 9) C (k7_marksOn l D A hs hv 1) cb_X7_account__X7_marksOnSheetsThatAre gX7_account_X7_marksOnSheetsThatAre rfl (hG := hv.1) rfl rfl (Nat.le_of_ble_eq_true rfl) ⟨Nat.le_refl _, Nat.le_refl _⟩ dX7_account_12 (gx_ki fun r_12 G_12 h_12 => ?_)
    obtain ⟨rfl, rfl⟩ := h_12
    refine gx_iadd C dX7_account_15 ?_
    refine gx_aload_n C dX7_account_16 rfl ?_
    refine gx_iconst (v := 2) C dX7_account_17 (by decide) ?_
    refine gx_callV (ci := 6) (T := TX7) (N := 9) C (k7_marksOn l D A hs hv 2) cb_X7_account__X7_marksOnSheetsThatAre gX7_account_X7_marksOnSheetsThatAre rfl (hG := hv.1) rfl rfl (Nat.le_of_ble_eq_true rfl) ⟨Nat.le_refl _, Nat.le_refl _⟩ dX7_account_18 (gx_ki fun r_18 G_18 h_18 => ?_)
    obtain ⟨rfl, rfl⟩ := h_18
    refine gx_iadd C dX7_account_21 ?_
    refine gx_zret (mc := 0) C rfl ?_ dX7_account_22
    exact ⟨_, rfl, by rw [if_pos c_2, nI_add, nI_add], rfl⟩
set_option maxHeartbeats 4000000 in
set_option maxRecDepth 100000 in
/-- X7_canBeFinished -/
theorem k7_canBeFinished (l : Launch) (D : gD) (A : Nat → Prop) (hs : Nat) {G : gH} {S : Nat} {v : SV} (hv : gSv D G S v) : gM l yX7_canBeFinished wsX7_canBeFinished (gR 3) D A hs 0 0 [.ref S] G (gPi fun x G' => x = (if ¬ v.2.1 = 0 ∧ pShN v.2.2.1 0 v.2.2.1.length = 0 ∧ pShN v.2.2.1 1 v.2.2.1.length = 0 ∧ pOpenN v.2.2.2.1.2.1 v.2.2.2.1.2.1.length = 0 then (1 : Int32) else 0) ∧ G' = G) := by
  refine gM_intro (by decide) rfl rfl (Nat.le_of_ble_eq_true rfl) ?_
  intro p e s m args below meth c C
  have bn := gSv_n hv
  have b1 : pShN v.2.2.1 0 v.2.2.1.length ≤ v.2.2.1.length := pC_le
  have b2 : pShN v.2.2.1 1 v.2.2.1.length ≤ v.2.2.1.length := pC_le
  have b4 := (gRow_le (gSv_li hv).2.2.1).1
  have b3 : pOpenN v.2.2.2.1.2.1 v.2.2.2.1.2.1.length ≤ v.2.2.2.1.2.1.length := pC_le
  refine gx_aload_n C dX7_canBeFinished_0 rfl ?_
  refine gx_get C fd_X7_canBeFinished_57 (hG := hv.1) (hv := by rfl) dX7_canBeFinished_1 ?_
  refine gx_if_eq (tgt := 37) C dX7_canBeFinished_4 (by decide) (fun c_4 => ?_) (fun c_4 => ?_)
  · have hx : (if ¬ v.2.1 = 0 ∧ pShN v.2.2.1 0 v.2.2.1.length = 0 ∧ pShN v.2.2.1 1 v.2.2.1.length = 0 ∧ pOpenN v.2.2.2.1.2.1 v.2.2.2.1.2.1.length = 0 then (1 : Int32) else 0) = 0 := if_neg (fun q => q.1 c_4)
    refine gx_iconst (v := 0) C dX7_canBeFinished_37 (by decide) ?_
    refine gx_zret (mc := 0) C rfl ?_ dX7_canBeFinished_38
    exact ⟨_, rfl, hx.symm, rfl⟩
  · refine gx_aload_n C dX7_canBeFinished_7 rfl ?_
    refine gx_iconst (v := 0) C dX7_canBeFinished_8 (by decide) ?_
    refine gx_callV (ci := 6) (T := TX7) (N := 9) C (k7_howManySheetsAre l D A hs hv 0) cb_X7_canBeFinished__X7_howManySheetsAre gX7_canBeFinished_X7_howManySheetsAre rfl (hG := hv.1) rfl rfl (Nat.le_of_ble_eq_true rfl) ⟨Nat.le_refl _, Nat.le_refl _⟩ dX7_canBeFinished_9 (gx_ki fun r_9 G_9 h_9 => ?_)
    obtain ⟨rfl, rfl⟩ := h_9
    refine gx_if_ne (tgt := 37) C dX7_canBeFinished_12 (by decide) (fun c_12 => ?_) (fun c_12 => ?_)
    · have hx : (if ¬ v.2.1 = 0 ∧ pShN v.2.2.1 0 v.2.2.1.length = 0 ∧ pShN v.2.2.1 1 v.2.2.1.length = 0 ∧ pOpenN v.2.2.2.1.2.1 v.2.2.2.1.2.1.length = 0 then (1 : Int32) else 0) = 0 := if_neg (fun q => c_12 (by rw [q.2.1]; rfl))
      refine gx_iconst (v := 0) C dX7_canBeFinished_37 (by decide) ?_
      refine gx_zret (mc := 0) C rfl ?_ dX7_canBeFinished_38
      exact ⟨_, rfl, hx.symm, rfl⟩
    · refine gx_aload_n C dX7_canBeFinished_15 rfl ?_
      refine gx_iconst (v := 1) C dX7_canBeFinished_16 (by decide) ?_
      refine gx_callV (ci := 6) (T := TX7) (N := 9) C (k7_howManySheetsAre l D A hs hv 1) cb_X7_canBeFinished__X7_howManySheetsAre gX7_canBeFinished_X7_howManySheetsAre rfl (hG := hv.1) rfl rfl (Nat.le_of_ble_eq_true rfl) ⟨Nat.le_refl _, Nat.le_refl _⟩ dX7_canBeFinished_17 (gx_ki fun r_17 G_17 h_17 => ?_)
      obtain ⟨rfl, rfl⟩ := h_17
      refine gx_if_ne (tgt := 37) C dX7_canBeFinished_20 (by decide) (fun c_20 => ?_) (fun c_20 => ?_)
      · have hx : (if ¬ v.2.1 = 0 ∧ pShN v.2.2.1 0 v.2.2.1.length = 0 ∧ pShN v.2.2.1 1 v.2.2.1.length = 0 ∧ pOpenN v.2.2.2.1.2.1 v.2.2.2.1.2.1.length = 0 then (1 : Int32) else 0) = 0 := if_neg (fun q => c_20 (by rw [q.2.2.1]; rfl))
        refine gx_iconst (v := 0) C dX7_canBeFinished_37 (by decide) ?_
        refine gx_zret (mc := 0) C rfl ?_ dX7_canBeFinished_38
        exact ⟨_, rfl, hx.symm, rfl⟩
      · refine gx_aload_n C dX7_canBeFinished_23 rfl ?_
        refine gx_get C fd_X7_canBeFinished_29 (hG := hv.1) (hv := by rfl) dX7_canBeFinished_24 ?_
        refine gx_callV (ci := 1) (T := TX2) (N := 4) C (k2_howManyAreOpen l D A hs (gSv_li hv)) cb_X7_canBeFinished__X2_howManyAreOpen gX7_canBeFinished_X2_howManyAreOpen rfl (hG := (gSv_li hv).1) rfl rfl (Nat.le_of_ble_eq_true rfl) ⟨Nat.le_refl _, Nat.le_refl _⟩ dX7_canBeFinished_27 (gx_ki fun r_27 G_27 h_27 => ?_)
        obtain ⟨rfl, rfl⟩ := h_27
        refine gx_if_ne (tgt := 37) C dX7_canBeFinished_30 (by decide) (fun c_30 => ?_) (fun c_30 => ?_)
        · have hx : (if ¬ v.2.1 = 0 ∧ pShN v.2.2.1 0 v.2.2.1.length = 0 ∧ pShN v.2.2.1 1 v.2.2.1.length = 0 ∧ pOpenN v.2.2.2.1.2.1 v.2.2.2.1.2.1.length = 0 then (1 : Int32) else 0) = 0 := if_neg (fun q => c_30 (by rw [q.2.2.2]; rfl))
          refine gx_iconst (v := 0) C dX7_canBeFinished_37 (by decide) ?_
          refine gx_zret (mc := 0) C rfl ?_ dX7_canBeFinished_38
          exact ⟨_, rfl, hx.symm, rfl⟩
        · have hx : (if ¬ v.2.1 = 0 ∧ pShN v.2.2.1 0 v.2.2.1.length = 0 ∧ pShN v.2.2.1 1 v.2.2.1.length = 0 ∧ pOpenN v.2.2.2.1.2.1 v.2.2.2.1.2.1.length = 0 then (1 : Int32) else 0) = 1 := if_pos ⟨c_4, (nI_eq (b := 0) (by omega) (by omega)).mp c_12, (nI_eq (b := 0) (by omega) (by omega)).mp c_20, (nI_eq (b := 0) (by omega) (by omega)).mp c_30⟩
          refine gx_iconst (v := 1) C dX7_canBeFinished_33 (by decide) ?_
          refine gx_goto (tgt := 38) C dX7_canBeFinished_34 (by decide) ?_
          refine gx_zret (mc := 0) C rfl ?_ dX7_canBeFinished_38
          exact ⟨_, rfl, hx.symm, rfl⟩
set_option maxHeartbeats 4000000 in
set_option maxRecDepth 100000 in
/-- X7_keepAnswer -/
theorem k7_keepAnswer (l : Launch) (D : gD) (A : Nat → Prop) (hs : Nat) {G : gH} {S : Nat} {v : SV} (hv : gSv D G S v) (k z : Int32) : gM l yX7_keepAnswer wsX7_keepAnswer (gR 3) D A hs 0 0 [.ref S, .int k, .int z] G (gPv fun G' => gSv D G' S (v.1, v.2.1, v.2.2.1, (v.2.2.2.1.1, lset v.2.2.2.1.2.1 k z, v.2.2.2.1.2.2), (lset v.2.2.2.2.1 (if z = 1 then 2 else 3) (lget v.2.2.2.2.1 (if z = 1 then 2 else 3) + 1), v.2.2.2.2.2)) ∧ gOut S 45 G G') := by
  refine gM_intro (by decide) rfl rfl (Nat.le_of_ble_eq_true rfl) ?_
  intro p e s m args below meth c C
  have bn := gSv_n hv
  refine gx_aload_n C dX7_keepAnswer_0 rfl ?_
  refine gx_get C fd_X7_keepAnswer_29 (hG := hv.1) (hv := by rfl) dX7_keepAnswer_1 ?_
  refine gx_getN C fd_X7_keepAnswer_111 (hG := (gSv_li hv).1) (hv := by rfl) dX7_keepAnswer_4 ?_
  refine gx_iload_n C dX7_keepAnswer_7 rfl ?_
  refine gx_iload_n C dX7_keepAnswer_8 rfl ?_
  refine gx_callV (ci := 4) (T := TX5) (N := 2) C (k5_set l D A hs k z (gSv_li hv).2.2.1) cb_X7_keepAnswer__X5_set gX7_keepAnswer_X5_set rfl (hG := (gRow_ob (gSv_li hv).2.2.1)) rfl rfl (Nat.le_of_ble_eq_true rfl) ⟨Nat.le_refl _, Nat.le_refl _⟩ dX7_keepAnswer_9 (gx_kv fun G_9 h_9 => ?_)
  have s1 := gSv_li' hv (gList_1 (gSv_li hv) h_9.1 h_9.2) (gOut_wd h_9.2 (by omega))
  refine gx_aload_n C dX7_keepAnswer_12 rfl ?_
  refine gx_get C fd_X7_keepAnswer_33 (hG := s1.1) (hv := by rfl) dX7_keepAnswer_13 ?_
  refine gx_iload_n C dX7_keepAnswer_16 rfl ?_
  refine gx_iconst (v := 1) C dX7_keepAnswer_17 (by decide) ?_
  refine gx_icmp_ne (tgt := 25) C dX7_keepAnswer_18 (by decide) (fun c_18 => ?_) (fun c_18 => ?_)
  · have ez : (if z = 1 then (2 : Int32) else 3) = 3 := if_neg c_18
    refine gx_iconst (v := 3) C dX7_keepAnswer_25 (by decide) ?_
    refine gx_top ez.symm ?_
    refine gx_iconst (v := 1) C dX7_keepAnswer_26 (by decide) ?_
    refine gx_callV (ci := 4) (T := TX5) (N := 2) C (k5_add l D A hs (if z = 1 then 2 else 3) 1 (gSv_ac s1).1) cb_X7_keepAnswer__X5_add gX7_keepAnswer_X5_add rfl (hG := (gRow_ob (gSv_ac s1).1)) rfl rfl (Nat.le_of_ble_eq_true rfl) ⟨Nat.le_refl _, Nat.le_refl _⟩ dX7_keepAnswer_27 (gx_kv fun G_27 h_27 => ?_)
    refine gx_vret (mc := 0) C ?_ dX7_keepAnswer_30
    have s2 := gSv_ac' s1 (gAcc_0 (gSv_ac s1) h_27.1 h_27.2) (gOut_wd h_27.2 (by omega))
    exact ⟨rfl, s2, gOut_tr (gOut_wd h_9.2 (by omega)) (gOut_wd h_27.2 (by omega))⟩
  · have ez : (if z = 1 then (2 : Int32) else 3) = 2 := if_pos c_18
    refine gx_iconst (v := 2) C dX7_keepAnswer_21 (by decide) ?_
    refine gx_goto (tgt := 26) C dX7_keepAnswer_22 (by decide) ?_
    refine gx_top ez.symm ?_
    refine gx_iconst (v := 1) C dX7_keepAnswer_26 (by decide) ?_
    refine gx_callV (ci := 4) (T := TX5) (N := 2) C (k5_add l D A hs (if z = 1 then 2 else 3) 1 (gSv_ac s1).1) cb_X7_keepAnswer__X5_add gX7_keepAnswer_X5_add rfl (hG := (gRow_ob (gSv_ac s1).1)) rfl rfl (Nat.le_of_ble_eq_true rfl) ⟨Nat.le_refl _, Nat.le_refl _⟩ dX7_keepAnswer_27 (gx_kv fun G_27 h_27 => ?_)
    refine gx_vret (mc := 0) C ?_ dX7_keepAnswer_30
    have s2 := gSv_ac' s1 (gAcc_0 (gSv_ac s1) h_27.1 h_27.2) (gOut_wd h_27.2 (by omega))
    exact ⟨rfl, s2, gOut_tr (gOut_wd h_9.2 (by omega)) (gOut_wd h_27.2 (by omega))⟩
set_option maxHeartbeats 4000000 in
set_option maxRecDepth 100000 in
/-- X7_addSheet -/
theorem k7_addSheet (l : Launch) (D : gD) (A : Nat → Prop) (hs : Nat) {G : gH} {S : Nat} {v : SV} (hv : gSv D G S v) (z : Int32) (h8 : v.2.2.1.length < 8) : gM l yX7_addSheet wsX7_addSheet (gR 3) D A hs 0 0 [.ref S, .int z] G (gPi fun x G' => x = nI v.2.2.1.length ∧ gSv D G' S (v.1, v.2.1, v.2.2.1 ++ [(z, 0, [])], v.2.2.2.1, (v.2.2.2.2.1, lset v.2.2.2.2.2.1 z (lget v.2.2.2.2.2.1 z + 1), v.2.2.2.2.2.2)) ∧ gOut S 45 G G') := by
  refine gM_intro (by decide) rfl rfl (Nat.le_of_ble_eq_true rfl) ?_
  intro p e s m args below meth c C
  have bn := gSv_n hv
  obtain ⟨c0, hc0⟩ := gShs_push (gSv_sh hv) h8
  have el : (v.2.2.1 ++ [c0]).length = v.2.2.1.length + 1 := by simp
  have s1 := gSv_sc' hv hc0
  rw [el] at s1
  have e1 : (nI (v.2.2.1.length + 1) - 1 : Int32) = nI v.2.2.1.length := gz_pred (n := v.2.2.1.length + 1) (by omega)
  refine gx_aload_n C dX7_addSheet_0 rfl ?_
  refine gx_dup C dX7_addSheet_1 rfl ?_
  refine gx_get C fd_X7_addSheet_61 (hG := hv.1) (hv := by rfl) dX7_addSheet_2 ?_
  refine gx_iconst (v := 1) C dX7_addSheet_5 (by decide) ?_
  refine gx_iadd C dX7_addSheet_6 ?_
  refine gx_top (nI_1 _) ?_
  refine gx_put C fd_X7_addSheet_61 tyX7_ok nmX7 rfl rfl rfl (hG := hv.1) (hl := by exact Nat.le_of_ble_eq_true rfl) dX7_addSheet_7 ?_
  refine gx_aload_n C dX7_addSheet_10 rfl ?_
  refine gx_aload_n C dX7_addSheet_11 rfl ?_
  refine gx_get C fd_X7_addSheet_61 (hG := gU_s) (hv := by rfl) dX7_addSheet_12 ?_
  refine gx_iconst (v := 1) C dX7_addSheet_15 (by decide) ?_
  refine gx_isub C dX7_addSheet_16 ?_
  refine gx_top e1 ?_
  refine gx_callV (ci := 6) (T := TX7) (N := 9) C (k7_sheetAt l D A hs s1 v.2.2.1.length (by rw [el]; omega)) cb_X7_addSheet__X7_sheetNumbered gX7_addSheet_X7_sheetNumbered rfl (hG := gU_s) rfl rfl (Nat.le_of_ble_eq_true rfl) ⟨Nat.le_refl _, Nat.le_refl _⟩ dX7_addSheet_17 (gx_kr fun w_17 G_17 hw_17 h_17 => ?_)
  obtain ⟨rfl, rfl⟩ := h_17
  have hsj := gSv_gd s1 (i := v.2.2.1.length) (by rw [el]; omega)
  refine gx_astore_n C dX7_addSheet_20 (by decide) ?_
  refine gx_aload_n C dX7_addSheet_21 rfl ?_
  refine gx_ifnull C dX7_addSheet_22 ?_
  refine gx_aload_n C dX7_addSheet_25 rfl ?_
  refine gx_iload_n C dX7_addSheet_26 rfl ?_
  refine gx_callV (ci := 5) (T := TX6) (N := 3) C (k6_startFor l D A hs z hsj) cb_X7_addSheet__X6_startFor gX7_addSheet_X6_startFor rfl (hG := hsj.1) rfl rfl (Nat.le_of_ble_eq_true rfl) ⟨Nat.le_refl _, Nat.le_refl _⟩ dX7_addSheet_27 (gx_kv fun G_27 h_27 => ?_)
  have s2 := gSv_sh' s1 (i := v.2.2.1.length) (by rw [el]; omega) h_27.1 h_27.2
  refine gx_aload_n C dX7_addSheet_30 rfl ?_
  refine gx_get C fd_X7_addSheet_36 (hG := s2.1) (hv := by rfl) dX7_addSheet_31 ?_
  refine gx_iload_n C dX7_addSheet_34 rfl ?_
  refine gx_iconst (v := 1) C dX7_addSheet_35 (by decide) ?_
  refine gx_callV (ci := 4) (T := TX5) (N := 2) C (k5_add l D A hs z 1 (gSv_ac s2).2.1) cb_X7_addSheet__X5_add gX7_addSheet_X5_add rfl (hG := (gRow_ob (gSv_ac s2).2.1)) rfl rfl (Nat.le_of_ble_eq_true rfl) ⟨Nat.le_refl _, Nat.le_refl _⟩ dX7_addSheet_36 (gx_kv fun G_36 h_36 => ?_)
  have s3 := gSv_ac' s2 (gAcc_1 (gSv_ac s2) h_36.1 h_36.2) (gOut_wd h_36.2 (by omega))
  refine gx_aload_n C dX7_addSheet_39 rfl ?_
  refine gx_get C fd_X7_addSheet_61 (hG := s3.1) (hv := by rfl) dX7_addSheet_40 ?_
  refine gx_iconst (v := 1) C dX7_addSheet_43 (by decide) ?_
  refine gx_isub C dX7_addSheet_44 ?_
  refine gx_top (show _ = nI v.2.2.1.length from by rw [List.length_set, el]; exact e1) ?_
  refine gx_zret (mc := 0) C rfl ?_ dX7_addSheet_45
  have ee : (v.2.2.1 ++ [c0]).set v.2.2.1.length (z, 0, []) = v.2.2.1 ++ [(z, 0, [])] := by simp
  refine ⟨_, rfl, rfl, ?_, gOut_tr (gOut_tr (gOut_up gOut_rf (by omega)) (gOut_wd h_27.2 (by omega))) (gOut_wd h_36.2 (by omega))⟩
  rw [← ee]
  exact s3
