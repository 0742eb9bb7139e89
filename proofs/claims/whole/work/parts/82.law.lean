/-! THE LAW: the two worlds side by side; the script -/
section GLW
variable {D : gD} {G0 G G' : gH} {X a : Nat} {t : TS}
theorem gMw_re (h : gMw D G0 G a t) : gMw D G G a t := by
  obtain ⟨st, pa, ty, md, rd, w, ⟨h0, h1⟩, h2⟩ := h
  exact ⟨st, pa, ty, md, rd, w, ⟨gOut_rf, h1⟩, h2⟩
theorem gMw_o (h : gMw D G0 G a t) : gOut a 6 G0 G := by
  obtain ⟨st, pa, ty, md, rd, w, ⟨h0, h1⟩, h2⟩ := h
  exact h0
theorem gMw_fr (h : gMw D G0 G (X + 242) t) (o : gOut X 242 G G') : gMw D G' G' (X + 242) t := by
  obtain ⟨st, pa, ty, md, rd, w, ⟨h0, h1, h3, h4, h5, h6, h7⟩, h2⟩ := h
  exact ⟨st, pa, ty, md, rd, w, ⟨gOut_rf, (o _ (by omega)).trans h1, (o _ (by omega)).trans h3, (o _ (by omega)).trans h4, (o _ (by omega)).trans h5, (o _ (by omega)).trans h6, (o _ (by omega)).trans h7⟩, h2⟩
theorem gCw_fr {k : Nat} (h : gCw D G X t) (o : gOut (X + 242) k G G') : gCw D G' X t := by
  obtain ⟨h0, h1, h2, ⟨cd, st, cu, re, h3⟩, ⟨w, h4⟩⟩ := h
  exact ⟨(o _ (by omega)).trans h0, gSv_fr h1 o (by omega), gHist_fr h2 o (by omega), ⟨cd, st, cu, re, gMt_fr h3 o (by omega)⟩, ⟨w, gPs_fr h4 o (by omega)⟩⟩
end GLW
section GSC
variable {p : Program} {l : Launch} {e : Env} {R : Room} {s : State} {m : MethodId} {args : Array Value} {below : List Frame} {meth : Method} {c : Code} {cc : ByteArray} {ret : Option FieldType} {Ts : List Cond} {own nm : String} {D : gD} {A : Nat → Prop} {nL hs0 hs cells slots : Nat} {Q : State → Prop} {G : gH} {V : List (Option Value)} {pc : Nat} {rest : List Value} {b L : Nat} {xs : Nat → Int32}
theorem gx_sld (C : gC p s m args meth c cc ret Ts own nm D A nL hs0) (hX : va_X b L xs s s.heap) (hbl : b < s.heap.size) (hbA : ¬ A b) {k : Nat} (hk : k < L) (hn : L < 2 ^ 31) (hdg : decode cc pc = .ok (.iaload, 1))
    (kk : gX p l e R s m args below meth c D A nL hs cells slots Q G V (pc + 1) (.int (xs k) :: rest)) : gX p l e R s m args below meth c D A nL hs cells slots Q G V pc (.int (nI k) :: .ref b :: rest) := by
  intro H locs ls hP hS hz hL
  refine va_sld C.1 C.2.1 hX hbl hbA hS (vp_in_nI hk hn) hdg ?_
  rw [nI_clamp (by omega)]
  exact kk H locs ls hP hS hz hL
theorem gx_slen (C : gC p s m args meth c cc ret Ts own nm D A nL hs0) (hX : va_X b L xs s s.heap) (hbl : b < s.heap.size) (hbA : ¬ A b) (hdg : decode cc pc = .ok (.arraylength, 1))
    (kk : gX p l e R s m args below meth c D A nL hs cells slots Q G V (pc + 1) (.int (nI L) :: rest)) : gX p l e R s m args below meth c D A nL hs cells slots Q G V pc (.ref b :: rest) :=
  fun H locs ls hP hS hz hL => va_slen C.1 C.2.1 hX hbl hbA hS hdg (kk H locs ls hP hS hz hL)
end GSC
theorem rg_b {n d x : Nat} (hn : n < 100000) (hd : d < 100000) (hx : x < 100000) : nI n - nI d < nI x ↔ ¬ x + d ≤ n := by
  rw [Int32.lt_iff_toInt_lt, pk_sub_toInt (by omega) (by omega), nI_toInt (by omega)]
  omega
theorem gMw_ob {D : gD} {G0 G : gH} {a : Nat} {t : TS} (h : gMw D G0 G a t) : ∃ z : MI, G a = some (.inr (8, [.ref (a + 1), .ref (a + 2), .int z.1, .ref (a + 3), .int z.2.1, .ref (a + 4), .int z.2.2.1, .int z.2.2.2.1, .int z.2.2.2.2.1, .ref (a + 5), .int z.2.2.2.2.2])) := by
  obtain ⟨st, pa, ty, md, rd, w, ⟨h0, h1, h3⟩, h2⟩ := h
  exact ⟨_, h1⟩
theorem cb_L_law__X8_put : gCb yX8_put cX8_put 2 (some .int) wsX8_put (gR 5) room_1 0 0 1 := ⟨rfl, rfl, rfl, by decide +kernel, ⟨Nat.le_of_ble_eq_true rfl, Nat.le_of_ble_eq_true rfl⟩⟩
theorem cb_L_law__X9_put : gCb yX9_put cX9_put 2 (some .int) wsX9_put (gR 1) room_1 0 0 1 := ⟨rfl, rfl, rfl, by decide +kernel, ⟨Nat.le_of_ble_eq_true rfl, Nat.le_of_ble_eq_true rfl⟩⟩
theorem cb_L_law__X8_begin : gCb yX8_begin cX8_begin 1 (some .int) wsX8_begin (gR 5) room_1 0 0 0 := ⟨rfl, rfl, rfl, by decide +kernel, ⟨Nat.le_of_ble_eq_true rfl, Nat.le_of_ble_eq_true rfl⟩⟩
theorem cb_L_law__X9_begin : gCb yX9_begin cX9_begin 1 (some .int) wsX9_begin (gR 1) room_1 0 0 0 := ⟨rfl, rfl, rfl, by decide +kernel, ⟨Nat.le_of_ble_eq_true rfl, Nat.le_of_ble_eq_true rfl⟩⟩
theorem cb_L_law__X8_send : gCb yX8_send cX8_send 2 (some .int) wsX8_send (gR 5) room_1 0 0 1 := ⟨rfl, rfl, rfl, by decide +kernel, ⟨Nat.le_of_ble_eq_true rfl, Nat.le_of_ble_eq_true rfl⟩⟩
theorem cb_L_law__X9_send : gCb yX9_send cX9_send 4 (some .int) wsX9_send (gR 2) room_1 0 0 1 := ⟨rfl, rfl, rfl, by decide +kernel, ⟨Nat.le_of_ble_eq_true rfl, Nat.le_of_ble_eq_true rfl⟩⟩
theorem cb_L_law__X8_bring : gCb yX8_bring cX8_bring 3 (some .int) wsX8_bring (gR 6) room_1 0 0 1 := ⟨rfl, rfl, rfl, by decide +kernel, ⟨Nat.le_of_ble_eq_true rfl, Nat.le_of_ble_eq_true rfl⟩⟩
theorem cb_L_law__X9_bring : gCb yX9_bring cX9_bring 2 (some .int) wsX9_bring (gR 2) room_1 0 0 1 := ⟨rfl, rfl, rfl, by decide +kernel, ⟨Nat.le_of_ble_eq_true rfl, Nat.le_of_ble_eq_true rfl⟩⟩
theorem cb_L_law__X8_lose : gCb yX8_lose cX8_lose 3 (some .int) wsX8_lose (gR 6) room_1 0 0 1 := ⟨rfl, rfl, rfl, by decide +kernel, ⟨Nat.le_of_ble_eq_true rfl, Nat.le_of_ble_eq_true rfl⟩⟩
theorem cb_L_law__X9_lose : gCb yX9_lose cX9_lose 2 (some .int) wsX9_lose (gR 2) room_1 0 0 1 := ⟨rfl, rfl, rfl, by decide +kernel, ⟨Nat.le_of_ble_eq_true rfl, Nat.le_of_ble_eq_true rfl⟩⟩
theorem cb_L_law__X8_find : gCb yX8_find cX8_find 3 (some .int) wsX8_find (gR 6) room_1 0 0 1 := ⟨rfl, rfl, rfl, by decide +kernel, ⟨Nat.le_of_ble_eq_true rfl, Nat.le_of_ble_eq_true rfl⟩⟩
theorem cb_L_law__X9_find : gCb yX9_find cX9_find 2 (some .int) wsX9_find (gR 2) room_1 0 0 1 := ⟨rfl, rfl, rfl, by decide +kernel, ⟨Nat.le_of_ble_eq_true rfl, Nat.le_of_ble_eq_true rfl⟩⟩
theorem cb_L_law__X8_merge : gCb yX8_merge cX8_merge 3 (some .int) wsX8_merge (gR 5) room_1 0 0 1 := ⟨rfl, rfl, rfl, by decide +kernel, ⟨Nat.le_of_ble_eq_true rfl, Nat.le_of_ble_eq_true rfl⟩⟩
theorem cb_L_law__X9_merge : gCb yX9_merge cX9_merge 5 (some .int) wsX9_merge (gR 3) room_1 0 0 1 := ⟨rfl, rfl, rfl, by decide +kernel, ⟨Nat.le_of_ble_eq_true rfl, Nat.le_of_ble_eq_true rfl⟩⟩
theorem cb_L_law__X8_sheet : gCb yX8_sheet cX8_sheet 4 (some .int) wsX8_sheet (gR 5) room_1 0 0 2 := ⟨rfl, rfl, rfl, by decide +kernel, ⟨Nat.le_of_ble_eq_true rfl, Nat.le_of_ble_eq_true rfl⟩⟩
theorem cb_L_law__X9_sheet : gCb yX9_sheet cX9_sheet 3 (some .int) wsX9_sheet (gR 5) room_1 0 0 2 := ⟨rfl, rfl, rfl, by decide +kernel, ⟨Nat.le_of_ble_eq_true rfl, Nat.le_of_ble_eq_true rfl⟩⟩
theorem cb_L_law__X8_written : gCb yX8_written cX8_written 7 (some .int) wsX8_written (gR 3) room_1 0 0 3 := ⟨rfl, rfl, rfl, by decide +kernel, ⟨Nat.le_of_ble_eq_true rfl, Nat.le_of_ble_eq_true rfl⟩⟩
theorem cb_L_law__X9_written : gCb yX9_written cX9_written 5 (some .int) wsX9_written (gR 2) room_1 0 0 3 := ⟨rfl, rfl, rfl, by decide +kernel, ⟨Nat.le_of_ble_eq_true rfl, Nat.le_of_ble_eq_true rfl⟩⟩
theorem cb_L_law__X8_undo : gCb yX8_undo cX8_undo 1 (some .int) wsX8_undo (gR 5) room_1 0 0 0 := ⟨rfl, rfl, rfl, by decide +kernel, ⟨Nat.le_of_ble_eq_true rfl, Nat.le_of_ble_eq_true rfl⟩⟩
theorem cb_L_law__X9_undo : gCb yX9_undo cX9_undo 2 (some .int) wsX9_undo (gR 0) room_1 0 0 0 := ⟨rfl, rfl, rfl, by decide +kernel, ⟨Nat.le_of_ble_eq_true rfl, Nat.le_of_ble_eq_true rfl⟩⟩
theorem cb_L_law__X8_count : gCb yX8_count cX8_count 2 (some .int) wsX8_count (gR 5) room_1 0 0 1 := ⟨rfl, rfl, rfl, by decide +kernel, ⟨Nat.le_of_ble_eq_true rfl, Nat.le_of_ble_eq_true rfl⟩⟩
theorem cb_L_law__X9_count : gCb yX9_count cX9_count 2 (some .int) wsX9_count (gR 5) room_1 0 0 1 := ⟨rfl, rfl, rfl, by decide +kernel, ⟨Nat.le_of_ble_eq_true rfl, Nat.le_of_ble_eq_true rfl⟩⟩
theorem cb_L_law__X8_at : gCb yX8_at cX8_at 2 (some .int) wsX8_at (gR 3) room_1 0 0 1 := ⟨rfl, rfl, rfl, by decide +kernel, ⟨Nat.le_of_ble_eq_true rfl, Nat.le_of_ble_eq_true rfl⟩⟩
theorem cb_L_law__X9_at : gCb yX9_at cX9_at 2 (some .int) wsX9_at (gR 0) room_1 0 0 1 := ⟨rfl, rfl, rfl, by decide +kernel, ⟨Nat.le_of_ble_eq_true rfl, Nat.le_of_ble_eq_true rfl⟩⟩
theorem cb_L_law__X8_mark : gCb yX8_mark cX8_mark 4 (some .int) wsX8_mark (gR 5) room_1 0 0 2 := ⟨rfl, rfl, rfl, by decide +kernel, ⟨Nat.le_of_ble_eq_true rfl, Nat.le_of_ble_eq_true rfl⟩⟩
theorem cb_L_law__X9_mark : gCb yX9_mark cX9_mark 3 (some .int) wsX9_mark (gR 5) room_1 0 0 2 := ⟨rfl, rfl, rfl, by decide +kernel, ⟨Nat.le_of_ble_eq_true rfl, Nat.le_of_ble_eq_true rfl⟩⟩
theorem cb_L_law__X8_answer : gCb yX8_answer cX8_answer 3 (some .int) wsX8_answer (gR 5) room_1 0 0 2 := ⟨rfl, rfl, rfl, by decide +kernel, ⟨Nat.le_of_ble_eq_true rfl, Nat.le_of_ble_eq_true rfl⟩⟩
theorem cb_L_law__X9_answer : gCb yX9_answer cX9_answer 4 (some .int) wsX9_answer (gR 4) room_1 0 0 2 := ⟨rfl, rfl, rfl, by decide +kernel, ⟨Nat.le_of_ble_eq_true rfl, Nat.le_of_ble_eq_true rfl⟩⟩
theorem cb_L_law__X8_against : gCb yX8_against cX8_against 3 (some .int) wsX8_against (gR 3) room_1 0 0 2 := ⟨rfl, rfl, rfl, by decide +kernel, ⟨Nat.le_of_ble_eq_true rfl, Nat.le_of_ble_eq_true rfl⟩⟩
theorem cb_L_law__X9_against : gCb yX9_against cX9_against 3 (some .int) wsX9_against (gR 3) room_1 0 0 2 := ⟨rfl, rfl, rfl, by decide +kernel, ⟨Nat.le_of_ble_eq_true rfl, Nat.le_of_ble_eq_true rfl⟩⟩
theorem cb_L_law__X8_next : gCb yX8_next cX8_next 2 (some .int) wsX8_next (gR 4) room_1 0 0 0 := ⟨rfl, rfl, rfl, by decide +kernel, ⟨Nat.le_of_ble_eq_true rfl, Nat.le_of_ble_eq_true rfl⟩⟩
theorem cb_L_law__X9_next : gCb yX9_next cX9_next 6 (some .int) wsX9_next (gR 1) room_1 0 0 0 := ⟨rfl, rfl, rfl, by decide +kernel, ⟨Nat.le_of_ble_eq_true rfl, Nat.le_of_ble_eq_true rfl⟩⟩
theorem cb_L_law__X8_finish : gCb yX8_finish cX8_finish 1 (some .int) wsX8_finish (gR 5) room_1 0 0 0 := ⟨rfl, rfl, rfl, by decide +kernel, ⟨Nat.le_of_ble_eq_true rfl, Nat.le_of_ble_eq_true rfl⟩⟩
theorem cb_L_law__X9_finish : gCb yX9_finish cX9_finish 2 (some .int) wsX9_finish (gR 4) room_1 0 0 0 := ⟨rfl, rfl, rfl, by decide +kernel, ⟨Nat.le_of_ble_eq_true rfl, Nat.le_of_ble_eq_true rfl⟩⟩
theorem cb_L_law__X8_would : gCb yX8_would cX8_would 2 (some .int) wsX8_would (gR 4) room_1 0 0 1 := ⟨rfl, rfl, rfl, by decide +kernel, ⟨Nat.le_of_ble_eq_true rfl, Nat.le_of_ble_eq_true rfl⟩⟩
theorem cb_L_law__X9_would : gCb yX9_would cX9_would 2 (some .int) wsX9_would (gR 4) room_1 0 0 1 := ⟨rfl, rfl, rfl, by decide +kernel, ⟨Nat.le_of_ble_eq_true rfl, Nat.le_of_ble_eq_true rfl⟩⟩
theorem cb_L_law__X8_again : gCb yX8_again cX8_again 2 (some .int) wsX8_again (gR 5) room_1 0 0 1 := ⟨rfl, rfl, rfl, by decide +kernel, ⟨Nat.le_of_ble_eq_true rfl, Nat.le_of_ble_eq_true rfl⟩⟩
theorem cb_L_law__X9_again : gCb yX9_again cX9_again 2 (some .int) wsX9_again (gR 4) room_1 0 0 1 := ⟨rfl, rfl, rfl, by decide +kernel, ⟨Nat.le_of_ble_eq_true rfl, Nat.le_of_ble_eq_true rfl⟩⟩
theorem cb_L_law__X8_reader : gCb yX8_reader cX8_reader 3 (some .int) wsX8_reader (gR 2) room_1 0 0 2 := ⟨rfl, rfl, rfl, by decide +kernel, ⟨Nat.le_of_ble_eq_true rfl, Nat.le_of_ble_eq_true rfl⟩⟩
theorem cb_L_law__X9_reader : gCb yX9_reader cX9_reader 3 (some .int) wsX9_reader (gR 2) room_1 0 0 2 := ⟨rfl, rfl, rfl, by decide +kernel, ⟨Nat.le_of_ble_eq_true rfl, Nat.le_of_ble_eq_true rfl⟩⟩
theorem cb_L_law__X8_type : gCb yX8_type cX8_type 2 (some .int) wsX8_type (gR 2) room_1 0 0 1 := ⟨rfl, rfl, rfl, by decide +kernel, ⟨Nat.le_of_ble_eq_true rfl, Nat.le_of_ble_eq_true rfl⟩⟩
theorem cb_L_law__X9_type : gCb yX9_type cX9_type 2 (some .int) wsX9_type (gR 1) room_1 0 0 1 := ⟨rfl, rfl, rfl, by decide +kernel, ⟨Nat.le_of_ble_eq_true rfl, Nat.le_of_ble_eq_true rfl⟩⟩
theorem cb_L_law__X8_clearText : gCb yX8_clearText cX8_clearText 2 (some .int) wsX8_clearText (gR 1) room_1 0 0 0 := ⟨rfl, rfl, rfl, by decide +kernel, ⟨Nat.le_of_ble_eq_true rfl, Nat.le_of_ble_eq_true rfl⟩⟩
theorem cb_L_law__X9_clearText : gCb yX9_clearText cX9_clearText 2 (some .int) wsX9_clearText (gR 0) room_1 0 0 0 := ⟨rfl, rfl, rfl, by decide +kernel, ⟨Nat.le_of_ble_eq_true rfl, Nat.le_of_ble_eq_true rfl⟩⟩
theorem cb_L_law__X8_fault : gCb yX8_fault cX8_fault 4 (some .int) wsX8_fault (gR 8) room_1 0 0 2 := ⟨rfl, rfl, rfl, by decide +kernel, ⟨Nat.le_of_ble_eq_true rfl, Nat.le_of_ble_eq_true rfl⟩⟩
theorem cb_L_law__X9_fault : gCb yX9_fault cX9_fault 4 (some .int) wsX9_fault (gR 6) room_1 0 0 2 := ⟨rfl, rfl, rfl, by decide +kernel, ⟨Nat.le_of_ble_eq_true rfl, Nat.le_of_ble_eq_true rfl⟩⟩
theorem cb_L_law__X8_write : gCb yX8_write cX8_write 3 (some .int) wsX8_write (gR 8) room_1 0 0 1 := ⟨rfl, rfl, rfl, by decide +kernel, ⟨Nat.le_of_ble_eq_true rfl, Nat.le_of_ble_eq_true rfl⟩⟩
theorem cb_L_law__X9_write : gCb yX9_write cX9_write 4 (some .int) wsX9_write (gR 6) room_1 0 0 1 := ⟨rfl, rfl, rfl, by decide +kernel, ⟨Nat.le_of_ble_eq_true rfl, Nat.le_of_ble_eq_true rfl⟩⟩
set_option maxRecDepth 100000 in
theorem mm_L_law_cl7 : Cond.classLink RL 7 RX8 ∈ wsL_law := by decide +kernel
set_option maxRecDepth 100000 in
theorem mm_L_law_itX8 : Cond.instantiable RX8 4 ∈ wsL_law := by decide +kernel
set_option maxRecDepth 100000 in
theorem mm_L_law_iniX8 : Cond.initialized RX8 ∈ wsL_law := by decide +kernel
theorem cb_L_law__X8_init : gCb yX8_init cX8_init 1 none wsX8_init (gRc 5 241 3154) room_1 241 3154 0 := ⟨rfl, rfl, rfl, by decide +kernel, ⟨Nat.le_of_ble_eq_true rfl, Nat.le_of_ble_eq_true rfl⟩⟩
set_option maxRecDepth 100000 in
theorem mm_L_law_ml9 : Cond.methodLink RL 9 yX8_init ∈ wsL_law := by decide +kernel
set_option maxRecDepth 100000 in
theorem mm_L_law_imX8 : Cond.instanceMethod yX8_init ∈ wsL_law := by decide +kernel
set_option maxRecDepth 100000 in
theorem mm_L_law_cl10 : Cond.classLink RL 10 RX9 ∈ wsL_law := by decide +kernel
set_option maxRecDepth 100000 in
theorem mm_L_law_itX9 : Cond.instantiable RX9 11 ∈ wsL_law := by decide +kernel
set_option maxRecDepth 100000 in
theorem mm_L_law_iniX9 : Cond.initialized RX9 ∈ wsL_law := by decide +kernel
theorem cb_L_law__X9_init : gCb yX9_init cX9_init 1 none wsX9_init (gRc 1 5 4561) room_1 5 4561 0 := ⟨rfl, rfl, rfl, by decide +kernel, ⟨Nat.le_of_ble_eq_true rfl, Nat.le_of_ble_eq_true rfl⟩⟩
set_option maxRecDepth 100000 in
theorem mm_L_law_ml12 : Cond.methodLink RL 12 yX9_init ∈ wsL_law := by decide +kernel
set_option maxRecDepth 100000 in
theorem mm_L_law_imX9 : Cond.instanceMethod yX9_init ∈ wsL_law := by decide +kernel
set_option maxHeartbeats 600000 in
set_option maxRecDepth 100000 in
/-- put -/
theorem lc_0 {p : Program} {e : Env} {s : State} {m : MethodId} {below : List Frame} {meth : Method} {c : Code} {l : Launch} {D : gD} {A : Nat → Prop} {b L X : Nat} {xs : Nat → Int32} {nm : String} {Q : State → Prop} (C : gC p s m #[Value.ref b] meth c code ret wsL_law RL nm D A 4 X) (hX : va_X b L xs s s.heap) (hbl : b < s.heap.size) (hbA : ¬ A b) (hL : L ≤ 2048) {G : gH} {t : TS} {i : Nat} (hi : 4 * i + 4 ≤ L) (hc : gCw D G X t) (hm : gMw D G G (X + 242) t) (kk : ∀ (G1 : gH) (t1 : TS), gCw D G1 X t1 → gMw D G1 G1 (X + 242) t1 → gX p l e room_1 s m #[Value.ref b] below meth c D A 4 (X + 248) 248 7730 Q G1 [some (.ref b), some (.ref X), some (.ref (X + 242)), some (.int (nI (4 * i)))] 726 []) : gX p l e room_1 s m #[Value.ref b] below meth c D A 4 (X + 248) 248 7730 Q G [some (.ref b), some (.ref X), some (.ref (X + 242)), some (.int (nI (4 * i)))] 144 [] := by
  refine gx_aload_n C dL_law_144 rfl ?_
  refine gx_aload_n C dL_law_145 rfl ?_
  refine gx_iload_n C dL_law_146 rfl ?_
  refine gx_iconst (v := nI 1) C dL_law_147 (by decide) ?_
  refine gx_iadd C dL_law_148 ?_
  refine gx_top (nI_add _ _) ?_
  refine gx_sld C hX hbl hbA (k := 4 * i + 1) (by omega) (by omega) dL_law_149 ?_
  refine gx_callV (ci := 7) (T := TX8) (N := 4) C (k8_put l D A (X + 248) hc (xs (4 * i + 1))) cb_L_law__X8_put gL_law_X8_put rfl (hG := hc.1) rfl rfl (Nat.le_of_ble_eq_true rfl) ⟨Nat.le_of_ble_eq_true rfl, Nat.le_of_ble_eq_true rfl⟩ dL_law_150 (gx_ki fun r1 G1 h1 => ?_)
  obtain ⟨rfl, hc1, o1⟩ := h1
  have hm1 := gMw_fr hm o1
  refine gx_aload_n C dL_law_153 rfl ?_
  refine gx_aload_n C dL_law_154 rfl ?_
  refine gx_iload_n C dL_law_155 rfl ?_
  refine gx_iconst (v := nI 1) C dL_law_156 (by decide) ?_
  refine gx_iadd C dL_law_157 ?_
  refine gx_top (nI_add _ _) ?_
  refine gx_sld C hX hbl hbA (k := 4 * i + 1) (by omega) (by omega) dL_law_158 ?_
  obtain ⟨z9, ob⟩ := gMw_ob hm1
  refine gx_callV (ci := 8) (T := TX9) (N := 11) C (k9_put l D A (X + 248) hm1 (xs (4 * i + 1))) cb_L_law__X9_put gL_law_X9_put rfl (hG := ob) rfl rfl (Nat.le_of_ble_eq_true rfl) ⟨Nat.le_of_ble_eq_true rfl, Nat.le_of_ble_eq_true rfl⟩ dL_law_159 (gx_ki fun r2 G2 h2 => ?_)
  obtain ⟨rfl, hm2⟩ := h2
  refine gx_icmp_eq (tgt := 726) C dL_law_162 (by decide) (fun _ => ?_) (fun q => absurd rfl q)
  exact kk _ _ (gCw_fr hc1 (gMw_o hm2)) (gMw_re hm2)
set_option maxHeartbeats 600000 in
set_option maxRecDepth 100000 in
/-- begin -/
theorem lc_1 {p : Program} {e : Env} {s : State} {m : MethodId} {below : List Frame} {meth : Method} {c : Code} {l : Launch} {D : gD} {A : Nat → Prop} {b L X : Nat} {xs : Nat → Int32} {nm : String} {Q : State → Prop} (C : gC p s m #[Value.ref b] meth c code ret wsL_law RL nm D A 4 X) (hX : va_X b L xs s s.heap) (hbl : b < s.heap.size) (hbA : ¬ A b) (hL : L ≤ 2048) {G : gH} {t : TS} {i : Nat} (hi : 4 * i + 4 ≤ L) (hc : gCw D G X t) (hm : gMw D G G (X + 242) t) (kk : ∀ (G1 : gH) (t1 : TS), gCw D G1 X t1 → gMw D G1 G1 (X + 242) t1 → gX p l e room_1 s m #[Value.ref b] below meth c D A 4 (X + 248) 248 7730 Q G1 [some (.ref b), some (.ref X), some (.ref (X + 242)), some (.int (nI (4 * i)))] 726 []) : gX p l e room_1 s m #[Value.ref b] below meth c D A 4 (X + 248) 248 7730 Q G [some (.ref b), some (.ref X), some (.ref (X + 242)), some (.int (nI (4 * i)))] 167 [] := by
  refine gx_aload_n C dL_law_167 rfl ?_
  refine gx_callV (ci := 7) (T := TX8) (N := 4) C (k8_begin l D A (X + 248) hc) cb_L_law__X8_begin gL_law_X8_begin rfl (hG := hc.1) rfl rfl (Nat.le_of_ble_eq_true rfl) ⟨Nat.le_of_ble_eq_true rfl, Nat.le_of_ble_eq_true rfl⟩ dL_law_168 (gx_ki fun r1 G1 h1 => ?_)
  obtain ⟨rfl, hc1, o1⟩ := h1
  have hm1 := gMw_fr hm o1
  refine gx_aload_n C dL_law_171 rfl ?_
  obtain ⟨z9, ob⟩ := gMw_ob hm1
  refine gx_callV (ci := 8) (T := TX9) (N := 11) C (k9_begin l D A (X + 248) hm1) cb_L_law__X9_begin gL_law_X9_begin rfl (hG := ob) rfl rfl (Nat.le_of_ble_eq_true rfl) ⟨Nat.le_of_ble_eq_true rfl, Nat.le_of_ble_eq_true rfl⟩ dL_law_172 (gx_ki fun r2 G2 h2 => ?_)
  obtain ⟨rfl, hm2⟩ := h2
  refine gx_icmp_eq (tgt := 726) C dL_law_175 (by decide) (fun _ => ?_) (fun q => absurd rfl q)
  exact kk _ _ (gCw_fr hc1 (gMw_o hm2)) (gMw_re hm2)
set_option maxHeartbeats 600000 in
set_option maxRecDepth 100000 in
/-- send -/
theorem lc_2 {p : Program} {e : Env} {s : State} {m : MethodId} {below : List Frame} {meth : Method} {c : Code} {l : Launch} {D : gD} {A : Nat → Prop} {b L X : Nat} {xs : Nat → Int32} {nm : String} {Q : State → Prop} (C : gC p s m #[Value.ref b] meth c code ret wsL_law RL nm D A 4 X) (hX : va_X b L xs s s.heap) (hbl : b < s.heap.size) (hbA : ¬ A b) (hL : L ≤ 2048) {G : gH} {t : TS} {i : Nat} (hi : 4 * i + 4 ≤ L) (hc : gCw D G X t) (hm : gMw D G G (X + 242) t) (kk : ∀ (G1 : gH) (t1 : TS), gCw D G1 X t1 → gMw D G1 G1 (X + 242) t1 → gX p l e room_1 s m #[Value.ref b] below meth c D A 4 (X + 248) 248 7730 Q G1 [some (.ref b), some (.ref X), some (.ref (X + 242)), some (.int (nI (4 * i)))] 726 []) : gX p l e room_1 s m #[Value.ref b] below meth c D A 4 (X + 248) 248 7730 Q G [some (.ref b), some (.ref X), some (.ref (X + 242)), some (.int (nI (4 * i)))] 180 [] := by
  refine gx_aload_n C dL_law_180 rfl ?_
  refine gx_aload_n C dL_law_181 rfl ?_
  refine gx_iload_n C dL_law_182 rfl ?_
  refine gx_iconst (v := nI 1) C dL_law_183 (by decide) ?_
  refine gx_iadd C dL_law_184 ?_
  refine gx_top (nI_add _ _) ?_
  refine gx_sld C hX hbl hbA (k := 4 * i + 1) (by omega) (by omega) dL_law_185 ?_
  refine gx_callV (ci := 7) (T := TX8) (N := 4) C (k8_send l D A (X + 248) hc (xs (4 * i + 1))) cb_L_law__X8_send gL_law_X8_send rfl (hG := hc.1) rfl rfl (Nat.le_of_ble_eq_true rfl) ⟨Nat.le_of_ble_eq_true rfl, Nat.le_of_ble_eq_true rfl⟩ dL_law_186 (gx_ki fun r1 G1 h1 => ?_)
  obtain ⟨rfl, hc1, o1⟩ := h1
  have hm1 := gMw_fr hm o1
  refine gx_aload_n C dL_law_189 rfl ?_
  refine gx_aload_n C dL_law_190 rfl ?_
  refine gx_iload_n C dL_law_191 rfl ?_
  refine gx_iconst (v := nI 1) C dL_law_192 (by decide) ?_
  refine gx_iadd C dL_law_193 ?_
  refine gx_top (nI_add _ _) ?_
  refine gx_sld C hX hbl hbA (k := 4 * i + 1) (by omega) (by omega) dL_law_194 ?_
  obtain ⟨z9, ob⟩ := gMw_ob hm1
  refine gx_callV (ci := 8) (T := TX9) (N := 11) C (k9_send l D A (X + 248) hm1 (xs (4 * i + 1))) cb_L_law__X9_send gL_law_X9_send rfl (hG := ob) rfl rfl (Nat.le_of_ble_eq_true rfl) ⟨Nat.le_of_ble_eq_true rfl, Nat.le_of_ble_eq_true rfl⟩ dL_law_195 (gx_ki fun r2 G2 h2 => ?_)
  obtain ⟨rfl, hm2⟩ := h2
  refine gx_icmp_eq (tgt := 726) C dL_law_198 (by decide) (fun _ => ?_) (fun q => absurd rfl q)
  exact kk _ _ (gCw_fr hc1 (gMw_o hm2)) (gMw_re hm2)
set_option maxHeartbeats 600000 in
set_option maxRecDepth 100000 in
/-- bring -/
theorem lc_3 {p : Program} {e : Env} {s : State} {m : MethodId} {below : List Frame} {meth : Method} {c : Code} {l : Launch} {D : gD} {A : Nat → Prop} {b L X : Nat} {xs : Nat → Int32} {nm : String} {Q : State → Prop} (C : gC p s m #[Value.ref b] meth c code ret wsL_law RL nm D A 4 X) (hX : va_X b L xs s s.heap) (hbl : b < s.heap.size) (hbA : ¬ A b) (hL : L ≤ 2048) {G : gH} {t : TS} {i : Nat} (hi : 4 * i + 4 ≤ L) (hc : gCw D G X t) (hm : gMw D G G (X + 242) t) (kk : ∀ (G1 : gH) (t1 : TS), gCw D G1 X t1 → gMw D G1 G1 (X + 242) t1 → gX p l e room_1 s m #[Value.ref b] below meth c D A 4 (X + 248) 248 7730 Q G1 [some (.ref b), some (.ref X), some (.ref (X + 242)), some (.int (nI (4 * i)))] 726 []) : gX p l e room_1 s m #[Value.ref b] below meth c D A 4 (X + 248) 248 7730 Q G [some (.ref b), some (.ref X), some (.ref (X + 242)), some (.int (nI (4 * i)))] 203 [] := by
  refine gx_aload_n C dL_law_203 rfl ?_
  refine gx_aload_n C dL_law_204 rfl ?_
  refine gx_iload_n C dL_law_205 rfl ?_
  refine gx_iconst (v := nI 1) C dL_law_206 (by decide) ?_
  refine gx_iadd C dL_law_207 ?_
  refine gx_top (nI_add _ _) ?_
  refine gx_sld C hX hbl hbA (k := 4 * i + 1) (by omega) (by omega) dL_law_208 ?_
  refine gx_callV (ci := 7) (T := TX8) (N := 4) C (k8_bring l D A (X + 248) hc (xs (4 * i + 1))) cb_L_law__X8_bring gL_law_X8_bring rfl (hG := hc.1) rfl rfl (Nat.le_of_ble_eq_true rfl) ⟨Nat.le_of_ble_eq_true rfl, Nat.le_of_ble_eq_true rfl⟩ dL_law_209 (gx_ki fun r1 G1 h1 => ?_)
  obtain ⟨rfl, hc1, o1⟩ := h1
  have hm1 := gMw_fr hm o1
  refine gx_aload_n C dL_law_212 rfl ?_
  refine gx_aload_n C dL_law_213 rfl ?_
  refine gx_iload_n C dL_law_214 rfl ?_
  refine gx_iconst (v := nI 1) C dL_law_215 (by decide) ?_
  refine gx_iadd C dL_law_216 ?_
  refine gx_top (nI_add _ _) ?_
  refine gx_sld C hX hbl hbA (k := 4 * i + 1) (by omega) (by omega) dL_law_217 ?_
  obtain ⟨z9, ob⟩ := gMw_ob hm1
  refine gx_callV (ci := 8) (T := TX9) (N := 11) C (k9_bring l D A (X + 248) hm1 (xs (4 * i + 1))) cb_L_law__X9_bring gL_law_X9_bring rfl (hG := ob) rfl rfl (Nat.le_of_ble_eq_true rfl) ⟨Nat.le_of_ble_eq_true rfl, Nat.le_of_ble_eq_true rfl⟩ dL_law_218 (gx_ki fun r2 G2 h2 => ?_)
  obtain ⟨rfl, hm2⟩ := h2
  refine gx_icmp_eq (tgt := 726) C dL_law_221 (by decide) (fun _ => ?_) (fun q => absurd rfl q)
  exact kk _ _ (gCw_fr hc1 (gMw_o hm2)) (gMw_re hm2)
set_option maxHeartbeats 600000 in
set_option maxRecDepth 100000 in
/-- lose -/
theorem lc_4 {p : Program} {e : Env} {s : State} {m : MethodId} {below : List Frame} {meth : Method} {c : Code} {l : Launch} {D : gD} {A : Nat → Prop} {b L X : Nat} {xs : Nat → Int32} {nm : String} {Q : State → Prop} (C : gC p s m #[Value.ref b] meth c code ret wsL_law RL nm D A 4 X) (hX : va_X b L xs s s.heap) (hbl : b < s.heap.size) (hbA : ¬ A b) (hL : L ≤ 2048) {G : gH} {t : TS} {i : Nat} (hi : 4 * i + 4 ≤ L) (hc : gCw D G X t) (hm : gMw D G G (X + 242) t) (kk : ∀ (G1 : gH) (t1 : TS), gCw D G1 X t1 → gMw D G1 G1 (X + 242) t1 → gX p l e room_1 s m #[Value.ref b] below meth c D A 4 (X + 248) 248 7730 Q G1 [some (.ref b), some (.ref X), some (.ref (X + 242)), some (.int (nI (4 * i)))] 726 []) : gX p l e room_1 s m #[Value.ref b] below meth c D A 4 (X + 248) 248 7730 Q G [some (.ref b), some (.ref X), some (.ref (X + 242)), some (.int (nI (4 * i)))] 226 [] := by
  refine gx_aload_n C dL_law_226 rfl ?_
  refine gx_aload_n C dL_law_227 rfl ?_
  refine gx_iload_n C dL_law_228 rfl ?_
  refine gx_iconst (v := nI 1) C dL_law_229 (by decide) ?_
  refine gx_iadd C dL_law_230 ?_
  refine gx_top (nI_add _ _) ?_
  refine gx_sld C hX hbl hbA (k := 4 * i + 1) (by omega) (by omega) dL_law_231 ?_
  refine gx_callV (ci := 7) (T := TX8) (N := 4) C (k8_lose l D A (X + 248) hc (xs (4 * i + 1))) cb_L_law__X8_lose gL_law_X8_lose rfl (hG := hc.1) rfl rfl (Nat.le_of_ble_eq_true rfl) ⟨Nat.le_of_ble_eq_true rfl, Nat.le_of_ble_eq_true rfl⟩ dL_law_232 (gx_ki fun r1 G1 h1 => ?_)
  obtain ⟨rfl, hc1, o1⟩ := h1
  have hm1 := gMw_fr hm o1
  refine gx_aload_n C dL_law_235 rfl ?_
  refine gx_aload_n C dL_law_236 rfl ?_
  refine gx_iload_n C dL_law_237 rfl ?_
  refine gx_iconst (v := nI 1) C dL_law_238 (by decide) ?_
  refine gx_iadd C dL_law_239 ?_
  refine gx_top (nI_add _ _) ?_
  refine gx_sld C hX hbl hbA (k := 4 * i + 1) (by omega) (by omega) dL_law_240 ?_
  obtain ⟨z9, ob⟩ := gMw_ob hm1
  refine gx_callV (ci := 8) (T := TX9) (N := 11) C (k9_lose l D A (X + 248) hm1 (xs (4 * i + 1))) cb_L_law__X9_lose gL_law_X9_lose rfl (hG := ob) rfl rfl (Nat.le_of_ble_eq_true rfl) ⟨Nat.le_of_ble_eq_true rfl, Nat.le_of_ble_eq_true rfl⟩ dL_law_241 (gx_ki fun r2 G2 h2 => ?_)
  obtain ⟨rfl, hm2⟩ := h2
  refine gx_icmp_eq (tgt := 726) C dL_law_244 (by decide) (fun _ => ?_) (fun q => absurd rfl q)
  exact kk _ _ (gCw_fr hc1 (gMw_o hm2)) (gMw_re hm2)
set_option maxHeartbeats 600000 in
set_option maxRecDepth 100000 in
/-- find -/
theorem lc_5 {p : Program} {e : Env} {s : State} {m : MethodId} {below : List Frame} {meth : Method} {c : Code} {l : Launch} {D : gD} {A : Nat → Prop} {b L X : Nat} {xs : Nat → Int32} {nm : String} {Q : State → Prop} (C : gC p s m #[Value.ref b] meth c code ret wsL_law RL nm D A 4 X) (hX : va_X b L xs s s.heap) (hbl : b < s.heap.size) (hbA : ¬ A b) (hL : L ≤ 2048) {G : gH} {t : TS} {i : Nat} (hi : 4 * i + 4 ≤ L) (hc : gCw D G X t) (hm : gMw D G G (X + 242) t) (kk : ∀ (G1 : gH) (t1 : TS), gCw D G1 X t1 → gMw D G1 G1 (X + 242) t1 → gX p l e room_1 s m #[Value.ref b] below meth c D A 4 (X + 248) 248 7730 Q G1 [some (.ref b), some (.ref X), some (.ref (X + 242)), some (.int (nI (4 * i)))] 726 []) : gX p l e room_1 s m #[Value.ref b] below meth c D A 4 (X + 248) 248 7730 Q G [some (.ref b), some (.ref X), some (.ref (X + 242)), some (.int (nI (4 * i)))] 249 [] := by
  refine gx_aload_n C dL_law_249 rfl ?_
  refine gx_aload_n C dL_law_250 rfl ?_
  refine gx_iload_n C dL_law_251 rfl ?_
  refine gx_iconst (v := nI 1) C dL_law_252 (by decide) ?_
  refine gx_iadd C dL_law_253 ?_
  refine gx_top (nI_add _ _) ?_
  refine gx_sld C hX hbl hbA (k := 4 * i + 1) (by omega) (by omega) dL_law_254 ?_
  refine gx_callV (ci := 7) (T := TX8) (N := 4) C (k8_find l D A (X + 248) hc (xs (4 * i + 1))) cb_L_law__X8_find gL_law_X8_find rfl (hG := hc.1) rfl rfl (Nat.le_of_ble_eq_true rfl) ⟨Nat.le_of_ble_eq_true rfl, Nat.le_of_ble_eq_true rfl⟩ dL_law_255 (gx_ki fun r1 G1 h1 => ?_)
  obtain ⟨rfl, hc1, o1⟩ := h1
  have hm1 := gMw_fr hm o1
  refine gx_aload_n C dL_law_258 rfl ?_
  refine gx_aload_n C dL_law_259 rfl ?_
  refine gx_iload_n C dL_law_260 rfl ?_
  refine gx_iconst (v := nI 1) C dL_law_261 (by decide) ?_
  refine gx_iadd C dL_law_262 ?_
  refine gx_top (nI_add _ _) ?_
  refine gx_sld C hX hbl hbA (k := 4 * i + 1) (by omega) (by omega) dL_law_263 ?_
  obtain ⟨z9, ob⟩ := gMw_ob hm1
  refine gx_callV (ci := 8) (T := TX9) (N := 11) C (k9_find l D A (X + 248) hm1 (xs (4 * i + 1))) cb_L_law__X9_find gL_law_X9_find rfl (hG := ob) rfl rfl (Nat.le_of_ble_eq_true rfl) ⟨Nat.le_of_ble_eq_true rfl, Nat.le_of_ble_eq_true rfl⟩ dL_law_264 (gx_ki fun r2 G2 h2 => ?_)
  obtain ⟨rfl, hm2⟩ := h2
  refine gx_icmp_eq (tgt := 726) C dL_law_267 (by decide) (fun _ => ?_) (fun q => absurd rfl q)
  exact kk _ _ (gCw_fr hc1 (gMw_o hm2)) (gMw_re hm2)
set_option maxHeartbeats 600000 in
set_option maxRecDepth 100000 in
/-- merge -/
theorem lc_6 {p : Program} {e : Env} {s : State} {m : MethodId} {below : List Frame} {meth : Method} {c : Code} {l : Launch} {D : gD} {A : Nat → Prop} {b L X : Nat} {xs : Nat → Int32} {nm : String} {Q : State → Prop} (C : gC p s m #[Value.ref b] meth c code ret wsL_law RL nm D A 4 X) (hX : va_X b L xs s s.heap) (hbl : b < s.heap.size) (hbA : ¬ A b) (hL : L ≤ 2048) {G : gH} {t : TS} {i : Nat} (hi : 4 * i + 4 ≤ L) (hc : gCw D G X t) (hm : gMw D G G (X + 242) t) (kk : ∀ (G1 : gH) (t1 : TS), gCw D G1 X t1 → gMw D G1 G1 (X + 242) t1 → gX p l e room_1 s m #[Value.ref b] below meth c D A 4 (X + 248) 248 7730 Q G1 [some (.ref b), some (.ref X), some (.ref (X + 242)), some (.int (nI (4 * i)))] 726 []) : gX p l e room_1 s m #[Value.ref b] below meth c D A 4 (X + 248) 248 7730 Q G [some (.ref b), some (.ref X), some (.ref (X + 242)), some (.int (nI (4 * i)))] 272 [] := by
  refine gx_aload_n C dL_law_272 rfl ?_
  refine gx_aload_n C dL_law_273 rfl ?_
  refine gx_iload_n C dL_law_274 rfl ?_
  refine gx_iconst (v := nI 1) C dL_law_275 (by decide) ?_
  refine gx_iadd C dL_law_276 ?_
  refine gx_top (nI_add _ _) ?_
  refine gx_sld C hX hbl hbA (k := 4 * i + 1) (by omega) (by omega) dL_law_277 ?_
  refine gx_callV (ci := 7) (T := TX8) (N := 4) C (k8_merge l D A (X + 248) hc (xs (4 * i + 1))) cb_L_law__X8_merge gL_law_X8_merge rfl (hG := hc.1) rfl rfl (Nat.le_of_ble_eq_true rfl) ⟨Nat.le_of_ble_eq_true rfl, Nat.le_of_ble_eq_true rfl⟩ dL_law_278 (gx_ki fun r1 G1 h1 => ?_)
  obtain ⟨rfl, hc1, o1⟩ := h1
  have hm1 := gMw_fr hm o1
  refine gx_aload_n C dL_law_281 rfl ?_
  refine gx_aload_n C dL_law_282 rfl ?_
  refine gx_iload_n C dL_law_283 rfl ?_
  refine gx_iconst (v := nI 1) C dL_law_284 (by decide) ?_
  refine gx_iadd C dL_law_285 ?_
  refine gx_top (nI_add _ _) ?_
  refine gx_sld C hX hbl hbA (k := 4 * i + 1) (by omega) (by omega) dL_law_286 ?_
  obtain ⟨z9, ob⟩ := gMw_ob hm1
  refine gx_callV (ci := 8) (T := TX9) (N := 11) C (k9_merge l D A (X + 248) hm1 (xs (4 * i + 1))) cb_L_law__X9_merge gL_law_X9_merge rfl (hG := ob) rfl rfl (Nat.le_of_ble_eq_true rfl) ⟨Nat.le_of_ble_eq_true rfl, Nat.le_of_ble_eq_true rfl⟩ dL_law_287 (gx_ki fun r2 G2 h2 => ?_)
  obtain ⟨rfl, hm2⟩ := h2
  refine gx_icmp_eq (tgt := 726) C dL_law_290 (by decide) (fun _ => ?_) (fun q => absurd rfl q)
  exact kk _ _ (gCw_fr hc1 (gMw_o hm2)) (gMw_re hm2)
set_option maxHeartbeats 600000 in
set_option maxRecDepth 100000 in
/-- sheet -/
theorem lc_7 {p : Program} {e : Env} {s : State} {m : MethodId} {below : List Frame} {meth : Method} {c : Code} {l : Launch} {D : gD} {A : Nat → Prop} {b L X : Nat} {xs : Nat → Int32} {nm : String} {Q : State → Prop} (C : gC p s m #[Value.ref b] meth c code ret wsL_law RL nm D A 4 X) (hX : va_X b L xs s s.heap) (hbl : b < s.heap.size) (hbA : ¬ A b) (hL : L ≤ 2048) {G : gH} {t : TS} {i : Nat} (hi : 4 * i + 4 ≤ L) (hc : gCw D G X t) (hm : gMw D G G (X + 242) t) (kk : ∀ (G1 : gH) (t1 : TS), gCw D G1 X t1 → gMw D G1 G1 (X + 242) t1 → gX p l e room_1 s m #[Value.ref b] below meth c D A 4 (X + 248) 248 7730 Q G1 [some (.ref b), some (.ref X), some (.ref (X + 242)), some (.int (nI (4 * i)))] 726 []) : gX p l e room_1 s m #[Value.ref b] below meth c D A 4 (X + 248) 248 7730 Q G [some (.ref b), some (.ref X), some (.ref (X + 242)), some (.int (nI (4 * i)))] 295 [] := by
  refine gx_aload_n C dL_law_295 rfl ?_
  refine gx_aload_n C dL_law_296 rfl ?_
  refine gx_iload_n C dL_law_297 rfl ?_
  refine gx_iconst (v := nI 1) C dL_law_298 (by decide) ?_
  refine gx_iadd C dL_law_299 ?_
  refine gx_top (nI_add _ _) ?_
  refine gx_sld C hX hbl hbA (k := 4 * i + 1) (by omega) (by omega) dL_law_300 ?_
  refine gx_aload_n C dL_law_301 rfl ?_
  refine gx_iload_n C dL_law_302 rfl ?_
  refine gx_iconst (v := nI 2) C dL_law_303 (by decide) ?_
  refine gx_iadd C dL_law_304 ?_
  refine gx_top (nI_add _ _) ?_
  refine gx_sld C hX hbl hbA (k := 4 * i + 2) (by omega) (by omega) dL_law_305 ?_
  refine gx_callV (ci := 7) (T := TX8) (N := 4) C (k8_sheet l D A (X + 248) hc (xs (4 * i + 1)) (xs (4 * i + 2))) cb_L_law__X8_sheet gL_law_X8_sheet rfl (hG := hc.1) rfl rfl (Nat.le_of_ble_eq_true rfl) ⟨Nat.le_of_ble_eq_true rfl, Nat.le_of_ble_eq_true rfl⟩ dL_law_306 (gx_ki fun r1 G1 h1 => ?_)
  obtain ⟨rfl, hc1, o1⟩ := h1
  have hm1 := gMw_fr hm o1
  refine gx_aload_n C dL_law_309 rfl ?_
  refine gx_aload_n C dL_law_310 rfl ?_
  refine gx_iload_n C dL_law_311 rfl ?_
  refine gx_iconst (v := nI 1) C dL_law_312 (by decide) ?_
  refine gx_iadd C dL_law_313 ?_
  refine gx_top (nI_add _ _) ?_
  refine gx_sld C hX hbl hbA (k := 4 * i + 1) (by omega) (by omega) dL_law_314 ?_
  refine gx_aload_n C dL_law_315 rfl ?_
  refine gx_iload_n C dL_law_316 rfl ?_
  refine gx_iconst (v := nI 2) C dL_law_317 (by decide) ?_
  refine gx_iadd C dL_law_318 ?_
  refine gx_top (nI_add _ _) ?_
  refine gx_sld C hX hbl hbA (k := 4 * i + 2) (by omega) (by omega) dL_law_319 ?_
  obtain ⟨z9, ob⟩ := gMw_ob hm1
  refine gx_callV (ci := 8) (T := TX9) (N := 11) C (k9_sheet l D A (X + 248) hm1 (xs (4 * i + 1)) (xs (4 * i + 2))) cb_L_law__X9_sheet gL_law_X9_sheet rfl (hG := ob) rfl rfl (Nat.le_of_ble_eq_true rfl) ⟨Nat.le_of_ble_eq_true rfl, Nat.le_of_ble_eq_true rfl⟩ dL_law_320 (gx_ki fun r2 G2 h2 => ?_)
  obtain ⟨rfl, hm2⟩ := h2
  refine gx_icmp_eq (tgt := 726) C dL_law_323 (by decide) (fun _ => ?_) (fun q => absurd rfl q)
  exact kk _ _ (gCw_fr hc1 (gMw_o hm2)) (gMw_re hm2)
set_option maxHeartbeats 600000 in
set_option maxRecDepth 100000 in
/-- written -/
theorem lc_8 {p : Program} {e : Env} {s : State} {m : MethodId} {below : List Frame} {meth : Method} {c : Code} {l : Launch} {D : gD} {A : Nat → Prop} {b L X : Nat} {xs : Nat → Int32} {nm : String} {Q : State → Prop} (C : gC p s m #[Value.ref b] meth c code ret wsL_law RL nm D A 4 X) (hX : va_X b L xs s s.heap) (hbl : b < s.heap.size) (hbA : ¬ A b) (hL : L ≤ 2048) {G : gH} {t : TS} {i : Nat} (hi : 4 * i + 4 ≤ L) (hc : gCw D G X t) (hm : gMw D G G (X + 242) t) (kk : ∀ (G1 : gH) (t1 : TS), gCw D G1 X t1 → gMw D G1 G1 (X + 242) t1 → gX p l e room_1 s m #[Value.ref b] below meth c D A 4 (X + 248) 248 7730 Q G1 [some (.ref b), some (.ref X), some (.ref (X + 242)), some (.int (nI (4 * i)))] 726 []) : gX p l e room_1 s m #[Value.ref b] below meth c D A 4 (X + 248) 248 7730 Q G [some (.ref b), some (.ref X), some (.ref (X + 242)), some (.int (nI (4 * i)))] 328 [] := by
  refine gx_aload_n C dL_law_328 rfl ?_
  refine gx_aload_n C dL_law_329 rfl ?_
  refine gx_iload_n C dL_law_330 rfl ?_
  refine gx_iconst (v := nI 1) C dL_law_331 (by decide) ?_
  refine gx_iadd C dL_law_332 ?_
  refine gx_top (nI_add _ _) ?_
  refine gx_sld C hX hbl hbA (k := 4 * i + 1) (by omega) (by omega) dL_law_333 ?_
  refine gx_aload_n C dL_law_334 rfl ?_
  refine gx_iload_n C dL_law_335 rfl ?_
  refine gx_iconst (v := nI 2) C dL_law_336 (by decide) ?_
  refine gx_iadd C dL_law_337 ?_
  refine gx_top (nI_add _ _) ?_
  refine gx_sld C hX hbl hbA (k := 4 * i + 2) (by omega) (by omega) dL_law_338 ?_
  refine gx_aload_n C dL_law_339 rfl ?_
  refine gx_iload_n C dL_law_340 rfl ?_
  refine gx_iconst (v := nI 3) C dL_law_341 (by decide) ?_
  refine gx_iadd C dL_law_342 ?_
  refine gx_top (nI_add _ _) ?_
  refine gx_sld C hX hbl hbA (k := 4 * i + 3) (by omega) (by omega) dL_law_343 ?_
  refine gx_callV (ci := 7) (T := TX8) (N := 4) C (k8_written l D A (X + 248) hc (xs (4 * i + 1)) (xs (4 * i + 2)) (xs (4 * i + 3))) cb_L_law__X8_written gL_law_X8_written rfl (hG := hc.1) rfl rfl (Nat.le_of_ble_eq_true rfl) ⟨Nat.le_of_ble_eq_true rfl, Nat.le_of_ble_eq_true rfl⟩ dL_law_344 (gx_ki fun r1 G1 h1 => ?_)
  obtain ⟨rfl, hc1, o1⟩ := h1
  have hm1 := gMw_fr hm o1
  refine gx_aload_n C dL_law_347 rfl ?_
  refine gx_aload_n C dL_law_348 rfl ?_
  refine gx_iload_n C dL_law_349 rfl ?_
  refine gx_iconst (v := nI 1) C dL_law_350 (by decide) ?_
  refine gx_iadd C dL_law_351 ?_
  refine gx_top (nI_add _ _) ?_
  refine gx_sld C hX hbl hbA (k := 4 * i + 1) (by omega) (by omega) dL_law_352 ?_
  refine gx_aload_n C dL_law_353 rfl ?_
  refine gx_iload_n C dL_law_354 rfl ?_
  refine gx_iconst (v := nI 2) C dL_law_355 (by decide) ?_
  refine gx_iadd C dL_law_356 ?_
  refine gx_top (nI_add _ _) ?_
  refine gx_sld C hX hbl hbA (k := 4 * i + 2) (by omega) (by omega) dL_law_357 ?_
  refine gx_aload_n C dL_law_358 rfl ?_
  refine gx_iload_n C dL_law_359 rfl ?_
  refine gx_iconst (v := nI 3) C dL_law_360 (by decide) ?_
  refine gx_iadd C dL_law_361 ?_
  refine gx_top (nI_add _ _) ?_
  refine gx_sld C hX hbl hbA (k := 4 * i + 3) (by omega) (by omega) dL_law_362 ?_
  obtain ⟨z9, ob⟩ := gMw_ob hm1
  refine gx_callV (ci := 8) (T := TX9) (N := 11) C (k9_written l D A (X + 248) hm1 (xs (4 * i + 1)) (xs (4 * i + 2)) (xs (4 * i + 3))) cb_L_law__X9_written gL_law_X9_written rfl (hG := ob) rfl rfl (Nat.le_of_ble_eq_true rfl) ⟨Nat.le_of_ble_eq_true rfl, Nat.le_of_ble_eq_true rfl⟩ dL_law_363 (gx_ki fun r2 G2 h2 => ?_)
  obtain ⟨rfl, hm2⟩ := h2
  refine gx_icmp_eq (tgt := 726) C dL_law_366 (by decide) (fun _ => ?_) (fun q => absurd rfl q)
  exact kk _ _ (gCw_fr hc1 (gMw_o hm2)) (gMw_re hm2)
set_option maxHeartbeats 600000 in
set_option maxRecDepth 100000 in
/-- undo -/
theorem lc_9 {p : Program} {e : Env} {s : State} {m : MethodId} {below : List Frame} {meth : Method} {c : Code} {l : Launch} {D : gD} {A : Nat → Prop} {b L X : Nat} {xs : Nat → Int32} {nm : String} {Q : State → Prop} (C : gC p s m #[Value.ref b] meth c code ret wsL_law RL nm D A 4 X) (hX : va_X b L xs s s.heap) (hbl : b < s.heap.size) (hbA : ¬ A b) (hL : L ≤ 2048) {G : gH} {t : TS} {i : Nat} (hi : 4 * i + 4 ≤ L) (hc : gCw D G X t) (hm : gMw D G G (X + 242) t) (kk : ∀ (G1 : gH) (t1 : TS), gCw D G1 X t1 → gMw D G1 G1 (X + 242) t1 → gX p l e room_1 s m #[Value.ref b] below meth c D A 4 (X + 248) 248 7730 Q G1 [some (.ref b), some (.ref X), some (.ref (X + 242)), some (.int (nI (4 * i)))] 726 []) : gX p l e room_1 s m #[Value.ref b] below meth c D A 4 (X + 248) 248 7730 Q G [some (.ref b), some (.ref X), some (.ref (X + 242)), some (.int (nI (4 * i)))] 371 [] := by
  refine gx_aload_n C dL_law_371 rfl ?_
  refine gx_callV (ci := 7) (T := TX8) (N := 4) C (k8_undo l D A (X + 248) hc) cb_L_law__X8_undo gL_law_X8_undo rfl (hG := hc.1) rfl rfl (Nat.le_of_ble_eq_true rfl) ⟨Nat.le_of_ble_eq_true rfl, Nat.le_of_ble_eq_true rfl⟩ dL_law_372 (gx_ki fun r1 G1 h1 => ?_)
  obtain ⟨rfl, hc1, o1⟩ := h1
  have hm1 := gMw_fr hm o1
  refine gx_aload_n C dL_law_375 rfl ?_
  obtain ⟨z9, ob⟩ := gMw_ob hm1
  refine gx_callV (ci := 8) (T := TX9) (N := 11) C (k9_undo l D A (X + 248) hm1) cb_L_law__X9_undo gL_law_X9_undo rfl (hG := ob) rfl rfl (Nat.le_of_ble_eq_true rfl) ⟨Nat.le_of_ble_eq_true rfl, Nat.le_of_ble_eq_true rfl⟩ dL_law_376 (gx_ki fun r2 G2 h2 => ?_)
  obtain ⟨rfl, hm2⟩ := h2
  refine gx_icmp_eq (tgt := 726) C dL_law_379 (by decide) (fun _ => ?_) (fun q => absurd rfl q)
  exact kk _ _ (gCw_fr hc1 (gMw_o hm2)) (gMw_re hm2)
set_option maxHeartbeats 600000 in
set_option maxRecDepth 100000 in
/-- count -/
theorem lc_10 {p : Program} {e : Env} {s : State} {m : MethodId} {below : List Frame} {meth : Method} {c : Code} {l : Launch} {D : gD} {A : Nat → Prop} {b L X : Nat} {xs : Nat → Int32} {nm : String} {Q : State → Prop} (C : gC p s m #[Value.ref b] meth c code ret wsL_law RL nm D A 4 X) (hX : va_X b L xs s s.heap) (hbl : b < s.heap.size) (hbA : ¬ A b) (hL : L ≤ 2048) {G : gH} {t : TS} {i : Nat} (hi : 4 * i + 4 ≤ L) (hc : gCw D G X t) (hm : gMw D G G (X + 242) t) (kk : ∀ (G1 : gH) (t1 : TS), gCw D G1 X t1 → gMw D G1 G1 (X + 242) t1 → gX p l e room_1 s m #[Value.ref b] below meth c D A 4 (X + 248) 248 7730 Q G1 [some (.ref b), some (.ref X), some (.ref (X + 242)), some (.int (nI (4 * i)))] 726 []) : gX p l e room_1 s m #[Value.ref b] below meth c D A 4 (X + 248) 248 7730 Q G [some (.ref b), some (.ref X), some (.ref (X + 242)), some (.int (nI (4 * i)))] 384 [] := by
  refine gx_aload_n C dL_law_384 rfl ?_
  refine gx_aload_n C dL_law_385 rfl ?_
  refine gx_iload_n C dL_law_386 rfl ?_
  refine gx_iconst (v := nI 1) C dL_law_387 (by decide) ?_
  refine gx_iadd C dL_law_388 ?_
  refine gx_top (nI_add _ _) ?_
  refine gx_sld C hX hbl hbA (k := 4 * i + 1) (by omega) (by omega) dL_law_389 ?_
  refine gx_callV (ci := 7) (T := TX8) (N := 4) C (k8_count l D A (X + 248) hc (xs (4 * i + 1))) cb_L_law__X8_count gL_law_X8_count rfl (hG := hc.1) rfl rfl (Nat.le_of_ble_eq_true rfl) ⟨Nat.le_of_ble_eq_true rfl, Nat.le_of_ble_eq_true rfl⟩ dL_law_390 (gx_ki fun r1 G1 h1 => ?_)
  obtain ⟨rfl, hc1, o1⟩ := h1
  have hm1 := gMw_fr hm o1
  refine gx_aload_n C dL_law_393 rfl ?_
  refine gx_aload_n C dL_law_394 rfl ?_
  refine gx_iload_n C dL_law_395 rfl ?_
  refine gx_iconst (v := nI 1) C dL_law_396 (by decide) ?_
  refine gx_iadd C dL_law_397 ?_
  refine gx_top (nI_add _ _) ?_
  refine gx_sld C hX hbl hbA (k := 4 * i + 1) (by omega) (by omega) dL_law_398 ?_
  obtain ⟨z9, ob⟩ := gMw_ob hm1
  refine gx_callV (ci := 8) (T := TX9) (N := 11) C (k9_count l D A (X + 248) hm1 (xs (4 * i + 1))) cb_L_law__X9_count gL_law_X9_count rfl (hG := ob) rfl rfl (Nat.le_of_ble_eq_true rfl) ⟨Nat.le_of_ble_eq_true rfl, Nat.le_of_ble_eq_true rfl⟩ dL_law_399 (gx_ki fun r2 G2 h2 => ?_)
  obtain ⟨rfl, hm2⟩ := h2
  refine gx_icmp_eq (tgt := 726) C dL_law_402 (by decide) (fun _ => ?_) (fun q => absurd rfl q)
  exact kk _ _ (gCw_fr hc1 (gMw_o hm2)) (gMw_re hm2)
set_option maxHeartbeats 600000 in
set_option maxRecDepth 100000 in
/-- at -/
theorem lc_11 {p : Program} {e : Env} {s : State} {m : MethodId} {below : List Frame} {meth : Method} {c : Code} {l : Launch} {D : gD} {A : Nat → Prop} {b L X : Nat} {xs : Nat → Int32} {nm : String} {Q : State → Prop} (C : gC p s m #[Value.ref b] meth c code ret wsL_law RL nm D A 4 X) (hX : va_X b L xs s s.heap) (hbl : b < s.heap.size) (hbA : ¬ A b) (hL : L ≤ 2048) {G : gH} {t : TS} {i : Nat} (hi : 4 * i + 4 ≤ L) (hc : gCw D G X t) (hm : gMw D G G (X + 242) t) (kk : ∀ (G1 : gH) (t1 : TS), gCw D G1 X t1 → gMw D G1 G1 (X + 242) t1 → gX p l e room_1 s m #[Value.ref b] below meth c D A 4 (X + 248) 248 7730 Q G1 [some (.ref b), some (.ref X), some (.ref (X + 242)), some (.int (nI (4 * i)))] 726 []) : gX p l e room_1 s m #[Value.ref b] below meth c D A 4 (X + 248) 248 7730 Q G [some (.ref b), some (.ref X), some (.ref (X + 242)), some (.int (nI (4 * i)))] 407 [] := by
  refine gx_aload_n C dL_law_407 rfl ?_
  refine gx_aload_n C dL_law_408 rfl ?_
  refine gx_iload_n C dL_law_409 rfl ?_
  refine gx_iconst (v := nI 1) C dL_law_410 (by decide) ?_
  refine gx_iadd C dL_law_411 ?_
  refine gx_top (nI_add _ _) ?_
  refine gx_sld C hX hbl hbA (k := 4 * i + 1) (by omega) (by omega) dL_law_412 ?_
  refine gx_callV (ci := 7) (T := TX8) (N := 4) C (k8_at l D A (X + 248) hc (xs (4 * i + 1))) cb_L_law__X8_at gL_law_X8_at rfl (hG := hc.1) rfl rfl (Nat.le_of_ble_eq_true rfl) ⟨Nat.le_of_ble_eq_true rfl, Nat.le_of_ble_eq_true rfl⟩ dL_law_413 (gx_ki fun r1 G1 h1 => ?_)
  obtain ⟨rfl, hc1, o1⟩ := h1
  have hm1 := gMw_fr hm o1
  refine gx_aload_n C dL_law_416 rfl ?_
  refine gx_aload_n C dL_law_417 rfl ?_
  refine gx_iload_n C dL_law_418 rfl ?_
  refine gx_iconst (v := nI 1) C dL_law_419 (by decide) ?_
  refine gx_iadd C dL_law_420 ?_
  refine gx_top (nI_add _ _) ?_
  refine gx_sld C hX hbl hbA (k := 4 * i + 1) (by omega) (by omega) dL_law_421 ?_
  obtain ⟨st, pa, ty, md, rd, w, hM, hR, hH, hT⟩ := id hm1
  refine gx_callV (ci := 8) (T := TX9) (N := 11) C (k9_at l D A (X + 248) hM.2.1 hM.2.2.1 hR (xs (4 * i + 1))) cb_L_law__X9_at gL_law_X9_at rfl (hG := hM.2.1) rfl rfl (Nat.le_of_ble_eq_true rfl) ⟨Nat.le_of_ble_eq_true rfl, Nat.le_of_ble_eq_true rfl⟩ dL_law_422 (gx_ki fun r2 G2 h2 => ?_)
  obtain ⟨rfl, e2⟩ := h2
  rw [e2]
  refine gx_icmp_eq (tgt := 726) C dL_law_425 (by decide) (fun _ => ?_) (fun q => absurd rfl q)
  exact kk _ _ hc1 hm1
set_option maxHeartbeats 600000 in
set_option maxRecDepth 100000 in
/-- mark -/
theorem lc_12 {p : Program} {e : Env} {s : State} {m : MethodId} {below : List Frame} {meth : Method} {c : Code} {l : Launch} {D : gD} {A : Nat → Prop} {b L X : Nat} {xs : Nat → Int32} {nm : String} {Q : State → Prop} (C : gC p s m #[Value.ref b] meth c code ret wsL_law RL nm D A 4 X) (hX : va_X b L xs s s.heap) (hbl : b < s.heap.size) (hbA : ¬ A b) (hL : L ≤ 2048) {G : gH} {t : TS} {i : Nat} (hi : 4 * i + 4 ≤ L) (hc : gCw D G X t) (hm : gMw D G G (X + 242) t) (kk : ∀ (G1 : gH) (t1 : TS), gCw D G1 X t1 → gMw D G1 G1 (X + 242) t1 → gX p l e room_1 s m #[Value.ref b] below meth c D A 4 (X + 248) 248 7730 Q G1 [some (.ref b), some (.ref X), some (.ref (X + 242)), some (.int (nI (4 * i)))] 726 []) : gX p l e room_1 s m #[Value.ref b] below meth c D A 4 (X + 248) 248 7730 Q G [some (.ref b), some (.ref X), some (.ref (X + 242)), some (.int (nI (4 * i)))] 430 [] := by
  refine gx_aload_n C dL_law_430 rfl ?_
  refine gx_aload_n C dL_law_431 rfl ?_
  refine gx_iload_n C dL_law_432 rfl ?_
  refine gx_iconst (v := nI 1) C dL_law_433 (by decide) ?_
  refine gx_iadd C dL_law_434 ?_
  refine gx_top (nI_add _ _) ?_
  refine gx_sld C hX hbl hbA (k := 4 * i + 1) (by omega) (by omega) dL_law_435 ?_
  refine gx_aload_n C dL_law_436 rfl ?_
  refine gx_iload_n C dL_law_437 rfl ?_
  refine gx_iconst (v := nI 2) C dL_law_438 (by decide) ?_
  refine gx_iadd C dL_law_439 ?_
  refine gx_top (nI_add _ _) ?_
  refine gx_sld C hX hbl hbA (k := 4 * i + 2) (by omega) (by omega) dL_law_440 ?_
  refine gx_callV (ci := 7) (T := TX8) (N := 4) C (k8_mark l D A (X + 248) hc (xs (4 * i + 1)) (xs (4 * i + 2))) cb_L_law__X8_mark gL_law_X8_mark rfl (hG := hc.1) rfl rfl (Nat.le_of_ble_eq_true rfl) ⟨Nat.le_of_ble_eq_true rfl, Nat.le_of_ble_eq_true rfl⟩ dL_law_441 (gx_ki fun r1 G1 h1 => ?_)
  obtain ⟨rfl, hc1, o1⟩ := h1
  have hm1 := gMw_fr hm o1
  refine gx_aload_n C dL_law_444 rfl ?_
  refine gx_aload_n C dL_law_445 rfl ?_
  refine gx_iload_n C dL_law_446 rfl ?_
  refine gx_iconst (v := nI 1) C dL_law_447 (by decide) ?_
  refine gx_iadd C dL_law_448 ?_
  refine gx_top (nI_add _ _) ?_
  refine gx_sld C hX hbl hbA (k := 4 * i + 1) (by omega) (by omega) dL_law_449 ?_
  refine gx_aload_n C dL_law_450 rfl ?_
  refine gx_iload_n C dL_law_451 rfl ?_
  refine gx_iconst (v := nI 2) C dL_law_452 (by decide) ?_
  refine gx_iadd C dL_law_453 ?_
  refine gx_top (nI_add _ _) ?_
  refine gx_sld C hX hbl hbA (k := 4 * i + 2) (by omega) (by omega) dL_law_454 ?_
  obtain ⟨z9, ob⟩ := gMw_ob hm1
  refine gx_callV (ci := 8) (T := TX9) (N := 11) C (k9_mark l D A (X + 248) hm1 (xs (4 * i + 1)) (xs (4 * i + 2))) cb_L_law__X9_mark gL_law_X9_mark rfl (hG := ob) rfl rfl (Nat.le_of_ble_eq_true rfl) ⟨Nat.le_of_ble_eq_true rfl, Nat.le_of_ble_eq_true rfl⟩ dL_law_455 (gx_ki fun r2 G2 h2 => ?_)
  obtain ⟨rfl, hm2⟩ := h2
  refine gx_icmp_eq (tgt := 726) C dL_law_458 (by decide) (fun _ => ?_) (fun q => absurd rfl q)
  exact kk _ _ (gCw_fr hc1 (gMw_o hm2)) (gMw_re hm2)
set_option maxHeartbeats 600000 in
set_option maxRecDepth 100000 in
/-- answer -/
theorem lc_13 {p : Program} {e : Env} {s : State} {m : MethodId} {below : List Frame} {meth : Method} {c : Code} {l : Launch} {D : gD} {A : Nat → Prop} {b L X : Nat} {xs : Nat → Int32} {nm : String} {Q : State → Prop} (C : gC p s m #[Value.ref b] meth c code ret wsL_law RL nm D A 4 X) (hX : va_X b L xs s s.heap) (hbl : b < s.heap.size) (hbA : ¬ A b) (hL : L ≤ 2048) {G : gH} {t : TS} {i : Nat} (hi : 4 * i + 4 ≤ L) (hc : gCw D G X t) (hm : gMw D G G (X + 242) t) (kk : ∀ (G1 : gH) (t1 : TS), gCw D G1 X t1 → gMw D G1 G1 (X + 242) t1 → gX p l e room_1 s m #[Value.ref b] below meth c D A 4 (X + 248) 248 7730 Q G1 [some (.ref b), some (.ref X), some (.ref (X + 242)), some (.int (nI (4 * i)))] 726 []) : gX p l e room_1 s m #[Value.ref b] below meth c D A 4 (X + 248) 248 7730 Q G [some (.ref b), some (.ref X), some (.ref (X + 242)), some (.int (nI (4 * i)))] 463 [] := by
  refine gx_aload_n C dL_law_463 rfl ?_
  refine gx_aload_n C dL_law_464 rfl ?_
  refine gx_iload_n C dL_law_465 rfl ?_
  refine gx_iconst (v := nI 1) C dL_law_466 (by decide) ?_
  refine gx_iadd C dL_law_467 ?_
  refine gx_top (nI_add _ _) ?_
  refine gx_sld C hX hbl hbA (k := 4 * i + 1) (by omega) (by omega) dL_law_468 ?_
  refine gx_aload_n C dL_law_469 rfl ?_
  refine gx_iload_n C dL_law_470 rfl ?_
  refine gx_iconst (v := nI 2) C dL_law_471 (by decide) ?_
  refine gx_iadd C dL_law_472 ?_
  refine gx_top (nI_add _ _) ?_
  refine gx_sld C hX hbl hbA (k := 4 * i + 2) (by omega) (by omega) dL_law_473 ?_
  refine gx_callV (ci := 7) (T := TX8) (N := 4) C (k8_answer l D A (X + 248) hc (xs (4 * i + 1)) (xs (4 * i + 2))) cb_L_law__X8_answer gL_law_X8_answer rfl (hG := hc.1) rfl rfl (Nat.le_of_ble_eq_true rfl) ⟨Nat.le_of_ble_eq_true rfl, Nat.le_of_ble_eq_true rfl⟩ dL_law_474 (gx_ki fun r1 G1 h1 => ?_)
  obtain ⟨rfl, hc1, o1⟩ := h1
  have hm1 := gMw_fr hm o1
  refine gx_aload_n C dL_law_477 rfl ?_
  refine gx_aload_n C dL_law_478 rfl ?_
  refine gx_iload_n C dL_law_479 rfl ?_
  refine gx_iconst (v := nI 1) C dL_law_480 (by decide) ?_
  refine gx_iadd C dL_law_481 ?_
  refine gx_top (nI_add _ _) ?_
  refine gx_sld C hX hbl hbA (k := 4 * i + 1) (by omega) (by omega) dL_law_482 ?_
  refine gx_aload_n C dL_law_483 rfl ?_
  refine gx_iload_n C dL_law_484 rfl ?_
  refine gx_iconst (v := nI 2) C dL_law_485 (by decide) ?_
  refine gx_iadd C dL_law_486 ?_
  refine gx_top (nI_add _ _) ?_
  refine gx_sld C hX hbl hbA (k := 4 * i + 2) (by omega) (by omega) dL_law_487 ?_
  obtain ⟨z9, ob⟩ := gMw_ob hm1
  refine gx_callV (ci := 8) (T := TX9) (N := 11) C (k9_answer l D A (X + 248) hm1 (xs (4 * i + 1)) (xs (4 * i + 2))) cb_L_law__X9_answer gL_law_X9_answer rfl (hG := ob) rfl rfl (Nat.le_of_ble_eq_true rfl) ⟨Nat.le_of_ble_eq_true rfl, Nat.le_of_ble_eq_true rfl⟩ dL_law_488 (gx_ki fun r2 G2 h2 => ?_)
  obtain ⟨rfl, hm2⟩ := h2
  refine gx_icmp_eq (tgt := 726) C dL_law_491 (by decide) (fun _ => ?_) (fun q => absurd rfl q)
  exact kk _ _ (gCw_fr hc1 (gMw_o hm2)) (gMw_re hm2)
set_option maxHeartbeats 600000 in
set_option maxRecDepth 100000 in
/-- against -/
theorem lc_14 {p : Program} {e : Env} {s : State} {m : MethodId} {below : List Frame} {meth : Method} {c : Code} {l : Launch} {D : gD} {A : Nat → Prop} {b L X : Nat} {xs : Nat → Int32} {nm : String} {Q : State → Prop} (C : gC p s m #[Value.ref b] meth c code ret wsL_law RL nm D A 4 X) (hX : va_X b L xs s s.heap) (hbl : b < s.heap.size) (hbA : ¬ A b) (hL : L ≤ 2048) {G : gH} {t : TS} {i : Nat} (hi : 4 * i + 4 ≤ L) (hc : gCw D G X t) (hm : gMw D G G (X + 242) t) (kk : ∀ (G1 : gH) (t1 : TS), gCw D G1 X t1 → gMw D G1 G1 (X + 242) t1 → gX p l e room_1 s m #[Value.ref b] below meth c D A 4 (X + 248) 248 7730 Q G1 [some (.ref b), some (.ref X), some (.ref (X + 242)), some (.int (nI (4 * i)))] 726 []) : gX p l e room_1 s m #[Value.ref b] below meth c D A 4 (X + 248) 248 7730 Q G [some (.ref b), some (.ref X), some (.ref (X + 242)), some (.int (nI (4 * i)))] 496 [] := by
  refine gx_aload_n C dL_law_496 rfl ?_
  refine gx_aload_n C dL_law_497 rfl ?_
  refine gx_iload_n C dL_law_498 rfl ?_
  refine gx_iconst (v := nI 1) C dL_law_499 (by decide) ?_
  refine gx_iadd C dL_law_500 ?_
  refine gx_top (nI_add _ _) ?_
  refine gx_sld C hX hbl hbA (k := 4 * i + 1) (by omega) (by omega) dL_law_501 ?_
  refine gx_aload_n C dL_law_502 rfl ?_
  refine gx_iload_n C dL_law_503 rfl ?_
  refine gx_iconst (v := nI 2) C dL_law_504 (by decide) ?_
  refine gx_iadd C dL_law_505 ?_
  refine gx_top (nI_add _ _) ?_
  refine gx_sld C hX hbl hbA (k := 4 * i + 2) (by omega) (by omega) dL_law_506 ?_
  refine gx_callV (ci := 7) (T := TX8) (N := 4) C (k8_against l D A (X + 248) hc (xs (4 * i + 1)) (xs (4 * i + 2))) cb_L_law__X8_against gL_law_X8_against rfl (hG := hc.1) rfl rfl (Nat.le_of_ble_eq_true rfl) ⟨Nat.le_of_ble_eq_true rfl, Nat.le_of_ble_eq_true rfl⟩ dL_law_507 (gx_ki fun r1 G1 h1 => ?_)
  obtain ⟨rfl, hc1, o1⟩ := h1
  have hm1 := gMw_fr hm o1
  refine gx_aload_n C dL_law_510 rfl ?_
  refine gx_aload_n C dL_law_511 rfl ?_
  refine gx_iload_n C dL_law_512 rfl ?_
  refine gx_iconst (v := nI 1) C dL_law_513 (by decide) ?_
  refine gx_iadd C dL_law_514 ?_
  refine gx_top (nI_add _ _) ?_
  refine gx_sld C hX hbl hbA (k := 4 * i + 1) (by omega) (by omega) dL_law_515 ?_
  refine gx_aload_n C dL_law_516 rfl ?_
  refine gx_iload_n C dL_law_517 rfl ?_
  refine gx_iconst (v := nI 2) C dL_law_518 (by decide) ?_
  refine gx_iadd C dL_law_519 ?_
  refine gx_top (nI_add _ _) ?_
  refine gx_sld C hX hbl hbA (k := 4 * i + 2) (by omega) (by omega) dL_law_520 ?_
  obtain ⟨z9, ob⟩ := gMw_ob hm1
  refine gx_callV (ci := 8) (T := TX9) (N := 11) C (k9_against l D A (X + 248) hm1 (xs (4 * i + 1)) (xs (4 * i + 2))) cb_L_law__X9_against gL_law_X9_against rfl (hG := ob) rfl rfl (Nat.le_of_ble_eq_true rfl) ⟨Nat.le_of_ble_eq_true rfl, Nat.le_of_ble_eq_true rfl⟩ dL_law_521 (gx_ki fun r2 G2 h2 => ?_)
  obtain ⟨rfl, hm2⟩ := h2
  refine gx_icmp_eq (tgt := 726) C dL_law_524 (by decide) (fun _ => ?_) (fun q => absurd rfl q)
  exact kk _ _ (gCw_fr hc1 (gMw_o hm2)) (gMw_re hm2)
set_option maxHeartbeats 600000 in
set_option maxRecDepth 100000 in
/-- next -/
theorem lc_15 {p : Program} {e : Env} {s : State} {m : MethodId} {below : List Frame} {meth : Method} {c : Code} {l : Launch} {D : gD} {A : Nat → Prop} {b L X : Nat} {xs : Nat → Int32} {nm : String} {Q : State → Prop} (C : gC p s m #[Value.ref b] meth c code ret wsL_law RL nm D A 4 X) (hX : va_X b L xs s s.heap) (hbl : b < s.heap.size) (hbA : ¬ A b) (hL : L ≤ 2048) {G : gH} {t : TS} {i : Nat} (hi : 4 * i + 4 ≤ L) (hc : gCw D G X t) (hm : gMw D G G (X + 242) t) (kk : ∀ (G1 : gH) (t1 : TS), gCw D G1 X t1 → gMw D G1 G1 (X + 242) t1 → gX p l e room_1 s m #[Value.ref b] below meth c D A 4 (X + 248) 248 7730 Q G1 [some (.ref b), some (.ref X), some (.ref (X + 242)), some (.int (nI (4 * i)))] 726 []) : gX p l e room_1 s m #[Value.ref b] below meth c D A 4 (X + 248) 248 7730 Q G [some (.ref b), some (.ref X), some (.ref (X + 242)), some (.int (nI (4 * i)))] 529 [] := by
  refine gx_aload_n C dL_law_529 rfl ?_
  refine gx_callV (ci := 7) (T := TX8) (N := 4) C (k8_next l D A (X + 248) hc) cb_L_law__X8_next gL_law_X8_next rfl (hG := hc.1) rfl rfl (Nat.le_of_ble_eq_true rfl) ⟨Nat.le_of_ble_eq_true rfl, Nat.le_of_ble_eq_true rfl⟩ dL_law_530 (gx_ki fun r1 G1 h1 => ?_)
  obtain ⟨rfl, hc1, o1⟩ := h1
  have hm1 := gMw_fr hm o1
  refine gx_aload_n C dL_law_533 rfl ?_
  obtain ⟨z9, ob⟩ := gMw_ob hm1
  refine gx_callV (ci := 8) (T := TX9) (N := 11) C (k9_next l D A (X + 248) hm1) cb_L_law__X9_next gL_law_X9_next rfl (hG := ob) rfl rfl (Nat.le_of_ble_eq_true rfl) ⟨Nat.le_of_ble_eq_true rfl, Nat.le_of_ble_eq_true rfl⟩ dL_law_534 (gx_ki fun r2 G2 h2 => ?_)
  obtain ⟨rfl, hm2⟩ := h2
  refine gx_icmp_eq (tgt := 726) C dL_law_537 (by decide) (fun _ => ?_) (fun q => absurd rfl q)
  exact kk _ _ (gCw_fr hc1 (gMw_o hm2)) (gMw_re hm2)
set_option maxHeartbeats 600000 in
set_option maxRecDepth 100000 in
/-- finish -/
theorem lc_16 {p : Program} {e : Env} {s : State} {m : MethodId} {below : List Frame} {meth : Method} {c : Code} {l : Launch} {D : gD} {A : Nat → Prop} {b L X : Nat} {xs : Nat → Int32} {nm : String} {Q : State → Prop} (C : gC p s m #[Value.ref b] meth c code ret wsL_law RL nm D A 4 X) (hX : va_X b L xs s s.heap) (hbl : b < s.heap.size) (hbA : ¬ A b) (hL : L ≤ 2048) {G : gH} {t : TS} {i : Nat} (hi : 4 * i + 4 ≤ L) (hc : gCw D G X t) (hm : gMw D G G (X + 242) t) (kk : ∀ (G1 : gH) (t1 : TS), gCw D G1 X t1 → gMw D G1 G1 (X + 242) t1 → gX p l e room_1 s m #[Value.ref b] below meth c D A 4 (X + 248) 248 7730 Q G1 [some (.ref b), some (.ref X), some (.ref (X + 242)), some (.int (nI (4 * i)))] 726 []) : gX p l e room_1 s m #[Value.ref b] below meth c D A 4 (X + 248) 248 7730 Q G [some (.ref b), some (.ref X), some (.ref (X + 242)), some (.int (nI (4 * i)))] 542 [] := by
  refine gx_aload_n C dL_law_542 rfl ?_
  refine gx_callV (ci := 7) (T := TX8) (N := 4) C (k8_finish l D A (X + 248) hc) cb_L_law__X8_finish gL_law_X8_finish rfl (hG := hc.1) rfl rfl (Nat.le_of_ble_eq_true rfl) ⟨Nat.le_of_ble_eq_true rfl, Nat.le_of_ble_eq_true rfl⟩ dL_law_543 (gx_ki fun r1 G1 h1 => ?_)
  obtain ⟨rfl, hc1, o1⟩ := h1
  have hm1 := gMw_fr hm o1
  refine gx_aload_n C dL_law_546 rfl ?_
  obtain ⟨z9, ob⟩ := gMw_ob hm1
  refine gx_callV (ci := 8) (T := TX9) (N := 11) C (k9_finish l D A (X + 248) hm1) cb_L_law__X9_finish gL_law_X9_finish rfl (hG := ob) rfl rfl (Nat.le_of_ble_eq_true rfl) ⟨Nat.le_of_ble_eq_true rfl, Nat.le_of_ble_eq_true rfl⟩ dL_law_547 (gx_ki fun r2 G2 h2 => ?_)
  obtain ⟨rfl, hm2⟩ := h2
  refine gx_icmp_eq (tgt := 726) C dL_law_550 (by decide) (fun _ => ?_) (fun q => absurd rfl q)
  exact kk _ _ (gCw_fr hc1 (gMw_o hm2)) (gMw_re hm2)
set_option maxHeartbeats 600000 in
set_option maxRecDepth 100000 in
/-- would -/
theorem lc_17 {p : Program} {e : Env} {s : State} {m : MethodId} {below : List Frame} {meth : Method} {c : Code} {l : Launch} {D : gD} {A : Nat → Prop} {b L X : Nat} {xs : Nat → Int32} {nm : String} {Q : State → Prop} (C : gC p s m #[Value.ref b] meth c code ret wsL_law RL nm D A 4 X) (hX : va_X b L xs s s.heap) (hbl : b < s.heap.size) (hbA : ¬ A b) (hL : L ≤ 2048) {G : gH} {t : TS} {i : Nat} (hi : 4 * i + 4 ≤ L) (hc : gCw D G X t) (hm : gMw D G G (X + 242) t) (kk : ∀ (G1 : gH) (t1 : TS), gCw D G1 X t1 → gMw D G1 G1 (X + 242) t1 → gX p l e room_1 s m #[Value.ref b] below meth c D A 4 (X + 248) 248 7730 Q G1 [some (.ref b), some (.ref X), some (.ref (X + 242)), some (.int (nI (4 * i)))] 726 []) : gX p l e room_1 s m #[Value.ref b] below meth c D A 4 (X + 248) 248 7730 Q G [some (.ref b), some (.ref X), some (.ref (X + 242)), some (.int (nI (4 * i)))] 555 [] := by
  refine gx_aload_n C dL_law_555 rfl ?_
  refine gx_aload_n C dL_law_556 rfl ?_
  refine gx_iload_n C dL_law_557 rfl ?_
  refine gx_iconst (v := nI 1) C dL_law_558 (by decide) ?_
  refine gx_iadd C dL_law_559 ?_
  refine gx_top (nI_add _ _) ?_
  refine gx_sld C hX hbl hbA (k := 4 * i + 1) (by omega) (by omega) dL_law_560 ?_
  refine gx_callV (ci := 7) (T := TX8) (N := 4) C (k8_would l D A (X + 248) hc (xs (4 * i + 1))) cb_L_law__X8_would gL_law_X8_would rfl (hG := hc.1) rfl rfl (Nat.le_of_ble_eq_true rfl) ⟨Nat.le_of_ble_eq_true rfl, Nat.le_of_ble_eq_true rfl⟩ dL_law_561 (gx_ki fun r1 G1 h1 => ?_)
  obtain ⟨rfl, hc1, o1⟩ := h1
  have hm1 := gMw_fr hm o1
  refine gx_aload_n C dL_law_564 rfl ?_
  refine gx_aload_n C dL_law_565 rfl ?_
  refine gx_iload_n C dL_law_566 rfl ?_
  refine gx_iconst (v := nI 1) C dL_law_567 (by decide) ?_
  refine gx_iadd C dL_law_568 ?_
  refine gx_top (nI_add _ _) ?_
  refine gx_sld C hX hbl hbA (k := 4 * i + 1) (by omega) (by omega) dL_law_569 ?_
  obtain ⟨z9, ob⟩ := gMw_ob hm1
  refine gx_callV (ci := 8) (T := TX9) (N := 11) C (k9_would l D A (X + 248) hm1 (xs (4 * i + 1))) cb_L_law__X9_would gL_law_X9_would rfl (hG := ob) rfl rfl (Nat.le_of_ble_eq_true rfl) ⟨Nat.le_of_ble_eq_true rfl, Nat.le_of_ble_eq_true rfl⟩ dL_law_570 (gx_ki fun r2 G2 h2 => ?_)
  obtain ⟨rfl, hm2⟩ := h2
  refine gx_icmp_eq (tgt := 726) C dL_law_573 (by decide) (fun _ => ?_) (fun q => absurd rfl q)
  exact kk _ _ (gCw_fr hc1 (gMw_o hm2)) (gMw_re hm2)
set_option maxHeartbeats 600000 in
set_option maxRecDepth 100000 in
/-- again -/
theorem lc_18 {p : Program} {e : Env} {s : State} {m : MethodId} {below : List Frame} {meth : Method} {c : Code} {l : Launch} {D : gD} {A : Nat → Prop} {b L X : Nat} {xs : Nat → Int32} {nm : String} {Q : State → Prop} (C : gC p s m #[Value.ref b] meth c code ret wsL_law RL nm D A 4 X) (hX : va_X b L xs s s.heap) (hbl : b < s.heap.size) (hbA : ¬ A b) (hL : L ≤ 2048) {G : gH} {t : TS} {i : Nat} (hi : 4 * i + 4 ≤ L) (hc : gCw D G X t) (hm : gMw D G G (X + 242) t) (kk : ∀ (G1 : gH) (t1 : TS), gCw D G1 X t1 → gMw D G1 G1 (X + 242) t1 → gX p l e room_1 s m #[Value.ref b] below meth c D A 4 (X + 248) 248 7730 Q G1 [some (.ref b), some (.ref X), some (.ref (X + 242)), some (.int (nI (4 * i)))] 726 []) : gX p l e room_1 s m #[Value.ref b] below meth c D A 4 (X + 248) 248 7730 Q G [some (.ref b), some (.ref X), some (.ref (X + 242)), some (.int (nI (4 * i)))] 578 [] := by
  refine gx_aload_n C dL_law_578 rfl ?_
  refine gx_aload_n C dL_law_579 rfl ?_
  refine gx_iload_n C dL_law_580 rfl ?_
  refine gx_iconst (v := nI 1) C dL_law_581 (by decide) ?_
  refine gx_iadd C dL_law_582 ?_
  refine gx_top (nI_add _ _) ?_
  refine gx_sld C hX hbl hbA (k := 4 * i + 1) (by omega) (by omega) dL_law_583 ?_
  refine gx_callV (ci := 7) (T := TX8) (N := 4) C (k8_again l D A (X + 248) hc (xs (4 * i + 1))) cb_L_law__X8_again gL_law_X8_again rfl (hG := hc.1) rfl rfl (Nat.le_of_ble_eq_true rfl) ⟨Nat.le_of_ble_eq_true rfl, Nat.le_of_ble_eq_true rfl⟩ dL_law_584 (gx_ki fun r1 G1 h1 => ?_)
  obtain ⟨rfl, hc1, o1⟩ := h1
  have hm1 := gMw_fr hm o1
  refine gx_aload_n C dL_law_587 rfl ?_
  refine gx_aload_n C dL_law_588 rfl ?_
  refine gx_iload_n C dL_law_589 rfl ?_
  refine gx_iconst (v := nI 1) C dL_law_590 (by decide) ?_
  refine gx_iadd C dL_law_591 ?_
  refine gx_top (nI_add _ _) ?_
  refine gx_sld C hX hbl hbA (k := 4 * i + 1) (by omega) (by omega) dL_law_592 ?_
  obtain ⟨z9, ob⟩ := gMw_ob hm1
  refine gx_callV (ci := 8) (T := TX9) (N := 11) C (k9_again l D A (X + 248) hm1 (xs (4 * i + 1))) cb_L_law__X9_again gL_law_X9_again rfl (hG := ob) rfl rfl (Nat.le_of_ble_eq_true rfl) ⟨Nat.le_of_ble_eq_true rfl, Nat.le_of_ble_eq_true rfl⟩ dL_law_593 (gx_ki fun r2 G2 h2 => ?_)
  obtain ⟨rfl, hm2⟩ := h2
  refine gx_icmp_eq (tgt := 726) C dL_law_596 (by decide) (fun _ => ?_) (fun q => absurd rfl q)
  exact kk _ _ (gCw_fr hc1 (gMw_o hm2)) (gMw_re hm2)
set_option maxHeartbeats 600000 in
set_option maxRecDepth 100000 in
/-- reader -/
theorem lc_19 {p : Program} {e : Env} {s : State} {m : MethodId} {below : List Frame} {meth : Method} {c : Code} {l : Launch} {D : gD} {A : Nat → Prop} {b L X : Nat} {xs : Nat → Int32} {nm : String} {Q : State → Prop} (C : gC p s m #[Value.ref b] meth c code ret wsL_law RL nm D A 4 X) (hX : va_X b L xs s s.heap) (hbl : b < s.heap.size) (hbA : ¬ A b) (hL : L ≤ 2048) {G : gH} {t : TS} {i : Nat} (hi : 4 * i + 4 ≤ L) (hc : gCw D G X t) (hm : gMw D G G (X + 242) t) (kk : ∀ (G1 : gH) (t1 : TS), gCw D G1 X t1 → gMw D G1 G1 (X + 242) t1 → gX p l e room_1 s m #[Value.ref b] below meth c D A 4 (X + 248) 248 7730 Q G1 [some (.ref b), some (.ref X), some (.ref (X + 242)), some (.int (nI (4 * i)))] 726 []) : gX p l e room_1 s m #[Value.ref b] below meth c D A 4 (X + 248) 248 7730 Q G [some (.ref b), some (.ref X), some (.ref (X + 242)), some (.int (nI (4 * i)))] 601 [] := by
  refine gx_aload_n C dL_law_601 rfl ?_
  refine gx_aload_n C dL_law_602 rfl ?_
  refine gx_iload_n C dL_law_603 rfl ?_
  refine gx_iconst (v := nI 1) C dL_law_604 (by decide) ?_
  refine gx_iadd C dL_law_605 ?_
  refine gx_top (nI_add _ _) ?_
  refine gx_sld C hX hbl hbA (k := 4 * i + 1) (by omega) (by omega) dL_law_606 ?_
  refine gx_aload_n C dL_law_607 rfl ?_
  refine gx_iload_n C dL_law_608 rfl ?_
  refine gx_iconst (v := nI 2) C dL_law_609 (by decide) ?_
  refine gx_iadd C dL_law_610 ?_
  refine gx_top (nI_add _ _) ?_
  refine gx_sld C hX hbl hbA (k := 4 * i + 2) (by omega) (by omega) dL_law_611 ?_
  refine gx_callV (ci := 7) (T := TX8) (N := 4) C (k8_reader l D A (X + 248) hc (xs (4 * i + 1)) (xs (4 * i + 2))) cb_L_law__X8_reader gL_law_X8_reader rfl (hG := hc.1) rfl rfl (Nat.le_of_ble_eq_true rfl) ⟨Nat.le_of_ble_eq_true rfl, Nat.le_of_ble_eq_true rfl⟩ dL_law_612 (gx_ki fun r1 G1 h1 => ?_)
  obtain ⟨rfl, hc1, o1⟩ := h1
  have hm1 := gMw_fr hm o1
  refine gx_aload_n C dL_law_615 rfl ?_
  refine gx_aload_n C dL_law_616 rfl ?_
  refine gx_iload_n C dL_law_617 rfl ?_
  refine gx_iconst (v := nI 1) C dL_law_618 (by decide) ?_
  refine gx_iadd C dL_law_619 ?_
  refine gx_top (nI_add _ _) ?_
  refine gx_sld C hX hbl hbA (k := 4 * i + 1) (by omega) (by omega) dL_law_620 ?_
  refine gx_aload_n C dL_law_621 rfl ?_
  refine gx_iload_n C dL_law_622 rfl ?_
  refine gx_iconst (v := nI 2) C dL_law_623 (by decide) ?_
  refine gx_iadd C dL_law_624 ?_
  refine gx_top (nI_add _ _) ?_
  refine gx_sld C hX hbl hbA (k := 4 * i + 2) (by omega) (by omega) dL_law_625 ?_
  obtain ⟨z9, ob⟩ := gMw_ob hm1
  refine gx_callV (ci := 8) (T := TX9) (N := 11) C (k9_reader l D A (X + 248) hm1 (xs (4 * i + 1)) (xs (4 * i + 2))) cb_L_law__X9_reader gL_law_X9_reader rfl (hG := ob) rfl rfl (Nat.le_of_ble_eq_true rfl) ⟨Nat.le_of_ble_eq_true rfl, Nat.le_of_ble_eq_true rfl⟩ dL_law_626 (gx_ki fun r2 G2 h2 => ?_)
  obtain ⟨rfl, hm2⟩ := h2
  refine gx_icmp_eq (tgt := 726) C dL_law_629 (by decide) (fun _ => ?_) (fun q => absurd rfl q)
  exact kk _ _ (gCw_fr hc1 (gMw_o hm2)) (gMw_re hm2)
set_option maxHeartbeats 600000 in
set_option maxRecDepth 100000 in
/-- type -/
theorem lc_20 {p : Program} {e : Env} {s : State} {m : MethodId} {below : List Frame} {meth : Method} {c : Code} {l : Launch} {D : gD} {A : Nat → Prop} {b L X : Nat} {xs : Nat → Int32} {nm : String} {Q : State → Prop} (C : gC p s m #[Value.ref b] meth c code ret wsL_law RL nm D A 4 X) (hX : va_X b L xs s s.heap) (hbl : b < s.heap.size) (hbA : ¬ A b) (hL : L ≤ 2048) {G : gH} {t : TS} {i : Nat} (hi : 4 * i + 4 ≤ L) (hc : gCw D G X t) (hm : gMw D G G (X + 242) t) (kk : ∀ (G1 : gH) (t1 : TS), gCw D G1 X t1 → gMw D G1 G1 (X + 242) t1 → gX p l e room_1 s m #[Value.ref b] below meth c D A 4 (X + 248) 248 7730 Q G1 [some (.ref b), some (.ref X), some (.ref (X + 242)), some (.int (nI (4 * i)))] 726 []) : gX p l e room_1 s m #[Value.ref b] below meth c D A 4 (X + 248) 248 7730 Q G [some (.ref b), some (.ref X), some (.ref (X + 242)), some (.int (nI (4 * i)))] 634 [] := by
  refine gx_aload_n C dL_law_634 rfl ?_
  refine gx_aload_n C dL_law_635 rfl ?_
  refine gx_iload_n C dL_law_636 rfl ?_
  refine gx_iconst (v := nI 1) C dL_law_637 (by decide) ?_
  refine gx_iadd C dL_law_638 ?_
  refine gx_top (nI_add _ _) ?_
  refine gx_sld C hX hbl hbA (k := 4 * i + 1) (by omega) (by omega) dL_law_639 ?_
  refine gx_callV (ci := 7) (T := TX8) (N := 4) C (k8_type l D A (X + 248) hc (xs (4 * i + 1))) cb_L_law__X8_type gL_law_X8_type rfl (hG := hc.1) rfl rfl (Nat.le_of_ble_eq_true rfl) ⟨Nat.le_of_ble_eq_true rfl, Nat.le_of_ble_eq_true rfl⟩ dL_law_640 (gx_ki fun r1 G1 h1 => ?_)
  obtain ⟨rfl, hc1, o1⟩ := h1
  have hm1 := gMw_fr hm o1
  refine gx_aload_n C dL_law_643 rfl ?_
  refine gx_aload_n C dL_law_644 rfl ?_
  refine gx_iload_n C dL_law_645 rfl ?_
  refine gx_iconst (v := nI 1) C dL_law_646 (by decide) ?_
  refine gx_iadd C dL_law_647 ?_
  refine gx_top (nI_add _ _) ?_
  refine gx_sld C hX hbl hbA (k := 4 * i + 1) (by omega) (by omega) dL_law_648 ?_
  obtain ⟨z9, ob⟩ := gMw_ob hm1
  refine gx_callV (ci := 8) (T := TX9) (N := 11) C (k9_type l D A (X + 248) hm1 (xs (4 * i + 1))) cb_L_law__X9_type gL_law_X9_type rfl (hG := ob) rfl rfl (Nat.le_of_ble_eq_true rfl) ⟨Nat.le_of_ble_eq_true rfl, Nat.le_of_ble_eq_true rfl⟩ dL_law_649 (gx_ki fun r2 G2 h2 => ?_)
  obtain ⟨rfl, hm2⟩ := h2
  refine gx_icmp_eq (tgt := 726) C dL_law_652 (by decide) (fun _ => ?_) (fun q => absurd rfl q)
  exact kk _ _ (gCw_fr hc1 (gMw_o hm2)) (gMw_re hm2)
set_option maxHeartbeats 600000 in
set_option maxRecDepth 100000 in
/-- clearText -/
theorem lc_21 {p : Program} {e : Env} {s : State} {m : MethodId} {below : List Frame} {meth : Method} {c : Code} {l : Launch} {D : gD} {A : Nat → Prop} {b L X : Nat} {xs : Nat → Int32} {nm : String} {Q : State → Prop} (C : gC p s m #[Value.ref b] meth c code ret wsL_law RL nm D A 4 X) (hX : va_X b L xs s s.heap) (hbl : b < s.heap.size) (hbA : ¬ A b) (hL : L ≤ 2048) {G : gH} {t : TS} {i : Nat} (hi : 4 * i + 4 ≤ L) (hc : gCw D G X t) (hm : gMw D G G (X + 242) t) (kk : ∀ (G1 : gH) (t1 : TS), gCw D G1 X t1 → gMw D G1 G1 (X + 242) t1 → gX p l e room_1 s m #[Value.ref b] below meth c D A 4 (X + 248) 248 7730 Q G1 [some (.ref b), some (.ref X), some (.ref (X + 242)), some (.int (nI (4 * i)))] 726 []) : gX p l e room_1 s m #[Value.ref b] below meth c D A 4 (X + 248) 248 7730 Q G [some (.ref b), some (.ref X), some (.ref (X + 242)), some (.int (nI (4 * i)))] 657 [] := by
  refine gx_aload_n C dL_law_657 rfl ?_
  refine gx_callV (ci := 7) (T := TX8) (N := 4) C (k8_clearText l D A (X + 248) hc) cb_L_law__X8_clearText gL_law_X8_clearText rfl (hG := hc.1) rfl rfl (Nat.le_of_ble_eq_true rfl) ⟨Nat.le_of_ble_eq_true rfl, Nat.le_of_ble_eq_true rfl⟩ dL_law_658 (gx_ki fun r1 G1 h1 => ?_)
  obtain ⟨rfl, hc1, o1⟩ := h1
  have hm1 := gMw_fr hm o1
  refine gx_aload_n C dL_law_661 rfl ?_
  obtain ⟨z9, ob⟩ := gMw_ob hm1
  refine gx_callV (ci := 8) (T := TX9) (N := 11) C (k9_clearText l D A (X + 248) hm1) cb_L_law__X9_clearText gL_law_X9_clearText rfl (hG := ob) rfl rfl (Nat.le_of_ble_eq_true rfl) ⟨Nat.le_of_ble_eq_true rfl, Nat.le_of_ble_eq_true rfl⟩ dL_law_662 (gx_ki fun r2 G2 h2 => ?_)
  obtain ⟨rfl, hm2⟩ := h2
  refine gx_icmp_eq (tgt := 726) C dL_law_665 (by decide) (fun _ => ?_) (fun q => absurd rfl q)
  exact kk _ _ (gCw_fr hc1 (gMw_o hm2)) (gMw_re hm2)
set_option maxHeartbeats 600000 in
set_option maxRecDepth 100000 in
/-- fault -/
theorem lc_22 {p : Program} {e : Env} {s : State} {m : MethodId} {below : List Frame} {meth : Method} {c : Code} {l : Launch} {D : gD} {A : Nat → Prop} {b L X : Nat} {xs : Nat → Int32} {nm : String} {Q : State → Prop} (C : gC p s m #[Value.ref b] meth c code ret wsL_law RL nm D A 4 X) (hX : va_X b L xs s s.heap) (hbl : b < s.heap.size) (hbA : ¬ A b) (hL : L ≤ 2048) {G : gH} {t : TS} {i : Nat} (hi : 4 * i + 4 ≤ L) (hc : gCw D G X t) (hm : gMw D G G (X + 242) t) (kk : ∀ (G1 : gH) (t1 : TS), gCw D G1 X t1 → gMw D G1 G1 (X + 242) t1 → gX p l e room_1 s m #[Value.ref b] below meth c D A 4 (X + 248) 248 7730 Q G1 [some (.ref b), some (.ref X), some (.ref (X + 242)), some (.int (nI (4 * i)))] 726 []) : gX p l e room_1 s m #[Value.ref b] below meth c D A 4 (X + 248) 248 7730 Q G [some (.ref b), some (.ref X), some (.ref (X + 242)), some (.int (nI (4 * i)))] 670 [] := by
  refine gx_aload_n C dL_law_670 rfl ?_
  refine gx_aload_n C dL_law_671 rfl ?_
  refine gx_iload_n C dL_law_672 rfl ?_
  refine gx_iconst (v := nI 1) C dL_law_673 (by decide) ?_
  refine gx_iadd C dL_law_674 ?_
  refine gx_top (nI_add _ _) ?_
  refine gx_sld C hX hbl hbA (k := 4 * i + 1) (by omega) (by omega) dL_law_675 ?_
  refine gx_aload_n C dL_law_676 rfl ?_
  refine gx_iload_n C dL_law_677 rfl ?_
  refine gx_iconst (v := nI 2) C dL_law_678 (by decide) ?_
  refine gx_iadd C dL_law_679 ?_
  refine gx_top (nI_add _ _) ?_
  refine gx_sld C hX hbl hbA (k := 4 * i + 2) (by omega) (by omega) dL_law_680 ?_
  refine gx_callV (ci := 7) (T := TX8) (N := 4) C (k8_fault l D A (X + 248) hc (xs (4 * i + 1)) (xs (4 * i + 2))) cb_L_law__X8_fault gL_law_X8_fault rfl (hG := hc.1) rfl rfl (Nat.le_of_ble_eq_true rfl) ⟨Nat.le_of_ble_eq_true rfl, Nat.le_of_ble_eq_true rfl⟩ dL_law_681 (gx_ki fun r1 G1 h1 => ?_)
  obtain ⟨rfl, hc1, o1⟩ := h1
  have hm1 := gMw_fr hm o1
  refine gx_aload_n C dL_law_684 rfl ?_
  refine gx_aload_n C dL_law_685 rfl ?_
  refine gx_iload_n C dL_law_686 rfl ?_
  refine gx_iconst (v := nI 1) C dL_law_687 (by decide) ?_
  refine gx_iadd C dL_law_688 ?_
  refine gx_top (nI_add _ _) ?_
  refine gx_sld C hX hbl hbA (k := 4 * i + 1) (by omega) (by omega) dL_law_689 ?_
  refine gx_aload_n C dL_law_690 rfl ?_
  refine gx_iload_n C dL_law_691 rfl ?_
  refine gx_iconst (v := nI 2) C dL_law_692 (by decide) ?_
  refine gx_iadd C dL_law_693 ?_
  refine gx_top (nI_add _ _) ?_
  refine gx_sld C hX hbl hbA (k := 4 * i + 2) (by omega) (by omega) dL_law_694 ?_
  obtain ⟨z9, ob⟩ := gMw_ob hm1
  refine gx_callV (ci := 8) (T := TX9) (N := 11) C (k9_fault l D A (X + 248) hm1 (xs (4 * i + 1)) (xs (4 * i + 2))) cb_L_law__X9_fault gL_law_X9_fault rfl (hG := ob) rfl rfl (Nat.le_of_ble_eq_true rfl) ⟨Nat.le_of_ble_eq_true rfl, Nat.le_of_ble_eq_true rfl⟩ dL_law_695 (gx_ki fun r2 G2 h2 => ?_)
  obtain ⟨rfl, hm2⟩ := h2
  refine gx_icmp_eq (tgt := 726) C dL_law_698 (by decide) (fun _ => ?_) (fun q => absurd rfl q)
  exact kk _ _ (gCw_fr hc1 (gMw_o hm2)) (gMw_re hm2)
set_option maxHeartbeats 600000 in
set_option maxRecDepth 100000 in
/-- write -/
theorem lc_23 {p : Program} {e : Env} {s : State} {m : MethodId} {below : List Frame} {meth : Method} {c : Code} {l : Launch} {D : gD} {A : Nat → Prop} {b L X : Nat} {xs : Nat → Int32} {nm : String} {Q : State → Prop} (C : gC p s m #[Value.ref b] meth c code ret wsL_law RL nm D A 4 X) (hX : va_X b L xs s s.heap) (hbl : b < s.heap.size) (hbA : ¬ A b) (hL : L ≤ 2048) {G : gH} {t : TS} {i : Nat} (hi : 4 * i + 4 ≤ L) (hc : gCw D G X t) (hm : gMw D G G (X + 242) t) (kk : ∀ (G1 : gH) (t1 : TS), gCw D G1 X t1 → gMw D G1 G1 (X + 242) t1 → gX p l e room_1 s m #[Value.ref b] below meth c D A 4 (X + 248) 248 7730 Q G1 [some (.ref b), some (.ref X), some (.ref (X + 242)), some (.int (nI (4 * i)))] 726 []) : gX p l e room_1 s m #[Value.ref b] below meth c D A 4 (X + 248) 248 7730 Q G [some (.ref b), some (.ref X), some (.ref (X + 242)), some (.int (nI (4 * i)))] 703 [] := by
  refine gx_aload_n C dL_law_703 rfl ?_
  refine gx_aload_n C dL_law_704 rfl ?_
  refine gx_iload_n C dL_law_705 rfl ?_
  refine gx_iconst (v := nI 1) C dL_law_706 (by decide) ?_
  refine gx_iadd C dL_law_707 ?_
  refine gx_top (nI_add _ _) ?_
  refine gx_sld C hX hbl hbA (k := 4 * i + 1) (by omega) (by omega) dL_law_708 ?_
  refine gx_callV (ci := 7) (T := TX8) (N := 4) C (k8_write l D A (X + 248) hc (xs (4 * i + 1))) cb_L_law__X8_write gL_law_X8_write rfl (hG := hc.1) rfl rfl (Nat.le_of_ble_eq_true rfl) ⟨Nat.le_of_ble_eq_true rfl, Nat.le_of_ble_eq_true rfl⟩ dL_law_709 (gx_ki fun r1 G1 h1 => ?_)
  obtain ⟨rfl, hc1, o1⟩ := h1
  have hm1 := gMw_fr hm o1
  refine gx_aload_n C dL_law_712 rfl ?_
  refine gx_aload_n C dL_law_713 rfl ?_
  refine gx_iload_n C dL_law_714 rfl ?_
  refine gx_iconst (v := nI 1) C dL_law_715 (by decide) ?_
  refine gx_iadd C dL_law_716 ?_
  refine gx_top (nI_add _ _) ?_
  refine gx_sld C hX hbl hbA (k := 4 * i + 1) (by omega) (by omega) dL_law_717 ?_
  obtain ⟨z9, ob⟩ := gMw_ob hm1
  refine gx_callV (ci := 8) (T := TX9) (N := 11) C (k9_write l D A (X + 248) hm1 (xs (4 * i + 1))) cb_L_law__X9_write gL_law_X9_write rfl (hG := ob) rfl rfl (Nat.le_of_ble_eq_true rfl) ⟨Nat.le_of_ble_eq_true rfl, Nat.le_of_ble_eq_true rfl⟩ dL_law_718 (gx_ki fun r2 G2 h2 => ?_)
  obtain ⟨rfl, hm2⟩ := h2
  refine gx_icmp_eq (tgt := 726) C dL_law_721 (by decide) (fun _ => ?_) (fun q => absurd rfl q)
  exact kk _ _ (gCw_fr hc1 (gMw_o hm2)) (gMw_re hm2)
set_option maxHeartbeats 1000000 in
set_option maxRecDepth 100000 in
/-- the law's loop -/
theorem law_loop {p : Program} {e : Env} {s : State} {m : MethodId} {below : List Frame} {meth : Method} {c : Code} {l : Launch} {D : gD} {A : Nat → Prop} {b L X : Nat} {xs : Nat → Int32} {nm : String} {Q : State → Prop} (C : gC p s m #[Value.ref b] meth c code ret wsL_law RL nm D A 4 X) (hX : va_X b L xs s s.heap) (hbl : b < s.heap.size) (hbA : ¬ A b) (hL : L ≤ 2048) (hend : ∀ (G1 : gH) (V : List (Option Value)), gX p l e room_1 s m #[Value.ref b] below meth c D A 4 (X + 248) 248 7730 Q G1 V 733 [.int 1]) : ∀ (n i : Nat) (G : gH) (t : TS), L < 4 * i + n → 4 * i ≤ L → gCw D G X t → gMw D G G (X + 242) t → gX p l e room_1 s m #[Value.ref b] below meth c D A 4 (X + 248) 248 7730 Q G [some (.ref b), some (.ref X), some (.ref (X + 242)), some (.int (nI (4 * i)))] 18 [] := by
  intro n
  induction n with
  | zero => intro i G t h1 h2 hc hm; omega
  | succ n ih =>
    intro i G t h1 h2 hc hm
    refine gx_iload_n C dL_law_18 rfl ?_
    refine gx_aload_n C dL_law_19 rfl ?_
    refine gx_slen C hX hbl hbA dL_law_20 ?_
    refine gx_iconst (v := nI 4) C dL_law_21 (by decide) ?_
    refine gx_isub C dL_law_22 ?_
    refine gx_icmp_gt (tgt := 732) C dL_law_23 (by decide) (fun c_23 => ?_) (fun c_23 => ?_)
    · refine gx_iconst (v := 1) C dL_law_732 (by decide) ?_
      exact hend _ _
    · have hi : 4 * i + 4 ≤ L := Decidable.not_not.mp (fun q => c_23 ((rg_b (by omega) (by omega) (by omega)).mpr q))
      have kk : ∀ (G1 : gH) (t1 : TS), gCw D G1 X t1 → gMw D G1 G1 (X + 242) t1 → gX p l e room_1 s m #[Value.ref b] below meth c D A 4 (X + 248) 248 7730 Q G1 [some (.ref b), some (.ref X), some (.ref (X + 242)), some (.int (nI (4 * i)))] 726 [] := by
        intro G1 t1 hc1 hm1
        refine gx_iinc (v := nI (4 * (i + 1))) C dL_law_726 rfl (nI_add (4 * i) 4) (by decide) ?_
        refine gx_goto (tgt := 18) C dL_law_729 (by decide) ?_
        exact ih (i + 1) G1 t1 (by omega) (by omega) hc1 hm1
      refine gx_aload_n C dL_law_26 rfl ?_
      refine gx_iload_n C dL_law_27 rfl ?_
      refine gx_sld C hX hbl hbA (k := 4 * i) (by omega) (by omega) dL_law_28 ?_
      refine gx_bipush (v := 31) C dL_law_29 (by decide) ?_
      refine gx_iand C dL_law_31 ?_
      obtain ⟨q, hq, e⟩ := pk_andE (xs (4 * i)) (m := 31) 5 (by decide)
      refine gx_top e ?_
      rcases (show q = 0 ∨ q = 1 ∨ q = 2 ∨ q = 3 ∨ q = 4 ∨ q = 5 ∨ q = 6 ∨ q = 7 ∨ q = 8 ∨ q = 9 ∨ q = 10 ∨ q = 11 ∨ q = 12 ∨ q = 13 ∨ q = 14 ∨ q = 15 ∨ q = 16 ∨ q = 17 ∨ q = 18 ∨ q = 19 ∨ q = 20 ∨ q = 21 ∨ q = 22 ∨ q = 23 ∨ 24 ≤ q by omega) with rfl | rfl | rfl | rfl | rfl | rfl | rfl | rfl | rfl | rfl | rfl | rfl | rfl | rfl | rfl | rfl | rfl | rfl | rfl | rfl | rfl | rfl | rfl | rfl | h24
      · refine gx_tableIn (off := 112) (tgt := 144) C dL_law_32 (by decide) (by decide) rfl (by decide) ?_
        exact lc_0 C hX hbl hbA hL hi hc hm kk
      · refine gx_tableIn (off := 135) (tgt := 167) C dL_law_32 (by decide) (by decide) rfl (by decide) ?_
        exact lc_1 C hX hbl hbA hL hi hc hm kk
      · refine gx_tableIn (off := 148) (tgt := 180) C dL_law_32 (by decide) (by decide) rfl (by decide) ?_
        exact lc_2 C hX hbl hbA hL hi hc hm kk
      · refine gx_tableIn (off := 171) (tgt := 203) C dL_law_32 (by decide) (by decide) rfl (by decide) ?_
        exact lc_3 C hX hbl hbA hL hi hc hm kk
      · refine gx_tableIn (off := 194) (tgt := 226) C dL_law_32 (by decide) (by decide) rfl (by decide) ?_
        exact lc_4 C hX hbl hbA hL hi hc hm kk
      · refine gx_tableIn (off := 217) (tgt := 249) C dL_law_32 (by decide) (by decide) rfl (by decide) ?_
        exact lc_5 C hX hbl hbA hL hi hc hm kk
      · refine gx_tableIn (off := 240) (tgt := 272) C dL_law_32 (by decide) (by decide) rfl (by decide) ?_
        exact lc_6 C hX hbl hbA hL hi hc hm kk
      · refine gx_tableIn (off := 263) (tgt := 295) C dL_law_32 (by decide) (by decide) rfl (by decide) ?_
        exact lc_7 C hX hbl hbA hL hi hc hm kk
      · refine gx_tableIn (off := 296) (tgt := 328) C dL_law_32 (by decide) (by decide) rfl (by decide) ?_
        exact lc_8 C hX hbl hbA hL hi hc hm kk
      · refine gx_tableIn (off := 339) (tgt := 371) C dL_law_32 (by decide) (by decide) rfl (by decide) ?_
        exact lc_9 C hX hbl hbA hL hi hc hm kk
      · refine gx_tableIn (off := 352) (tgt := 384) C dL_law_32 (by decide) (by decide) rfl (by decide) ?_
        exact lc_10 C hX hbl hbA hL hi hc hm kk
      · refine gx_tableIn (off := 375) (tgt := 407) C dL_law_32 (by decide) (by decide) rfl (by decide) ?_
        exact lc_11 C hX hbl hbA hL hi hc hm kk
      · refine gx_tableIn (off := 398) (tgt := 430) C dL_law_32 (by decide) (by decide) rfl (by decide) ?_
        exact lc_12 C hX hbl hbA hL hi hc hm kk
      · refine gx_tableIn (off := 431) (tgt := 463) C dL_law_32 (by decide) (by decide) rfl (by decide) ?_
        exact lc_13 C hX hbl hbA hL hi hc hm kk
      · refine gx_tableIn (off := 464) (tgt := 496) C dL_law_32 (by decide) (by decide) rfl (by decide) ?_
        exact lc_14 C hX hbl hbA hL hi hc hm kk
      · refine gx_tableIn (off := 497) (tgt := 529) C dL_law_32 (by decide) (by decide) rfl (by decide) ?_
        exact lc_15 C hX hbl hbA hL hi hc hm kk
      · refine gx_tableIn (off := 510) (tgt := 542) C dL_law_32 (by decide) (by decide) rfl (by decide) ?_
        exact lc_16 C hX hbl hbA hL hi hc hm kk
      · refine gx_tableIn (off := 523) (tgt := 555) C dL_law_32 (by decide) (by decide) rfl (by decide) ?_
        exact lc_17 C hX hbl hbA hL hi hc hm kk
      · refine gx_tableIn (off := 546) (tgt := 578) C dL_law_32 (by decide) (by decide) rfl (by decide) ?_
        exact lc_18 C hX hbl hbA hL hi hc hm kk
      · refine gx_tableIn (off := 569) (tgt := 601) C dL_law_32 (by decide) (by decide) rfl (by decide) ?_
        exact lc_19 C hX hbl hbA hL hi hc hm kk
      · refine gx_tableIn (off := 602) (tgt := 634) C dL_law_32 (by decide) (by decide) rfl (by decide) ?_
        exact lc_20 C hX hbl hbA hL hi hc hm kk
      · refine gx_tableIn (off := 625) (tgt := 657) C dL_law_32 (by decide) (by decide) rfl (by decide) ?_
        exact lc_21 C hX hbl hbA hL hi hc hm kk
      · refine gx_tableIn (off := 638) (tgt := 670) C dL_law_32 (by decide) (by decide) rfl (by decide) ?_
        exact lc_22 C hX hbl hbA hL hi hc hm kk
      · refine gx_tableIn (off := 671) (tgt := 703) C dL_law_32 (by decide) (by decide) rfl (by decide) ?_
        exact lc_23 C hX hbl hbA hL hi hc hm kk
      · refine gx_tableOut (tgt := 726) C dL_law_32 (Or.inr (by rw [nI_toInt (by omega)]; omega)) (by decide) ?_
        exact kk G t hc hm
set_option maxHeartbeats 1000000 in
set_option maxRecDepth 100000 in
/-- the law, from its entry -/
theorem law_main {p : Program} {e : Env} {s : State} {m : MethodId} {below : List Frame} {meth : Method} {c : Code} {l : Launch} {D : gD} {A : Nat → Prop} {b L X : Nat} {xs : Nat → Int32} {nm : String} {Q : State → Prop} (C : gC p s m #[Value.ref b] meth c code ret wsL_law RL nm D A 4 X) (hX : va_X b L xs s s.heap) (hbl : b < s.heap.size) (hbA : ¬ A b) (hL : L ≤ 2048) (hA : ∀ q, X ≤ q → A q) (hend : ∀ (G1 : gH) (V : List (Option Value)), gX p l e room_1 s m #[Value.ref b] below meth c D A 4 (X + 248) 248 7730 Q G1 V 733 [.int 1]) : gX p l e room_1 s m #[Value.ref b] below meth c D A 4 X 0 0 Q (fun _ => none) [some (.ref b), none, none, none] 0 [] := by
  refine gx_newG (ci := 7) (T := TX8) (N := 4) (fs := [.null, .null, .null, .null]) C inlX8 rfl tyX8_ok mm_L_law_cl7 mm_L_law_itX8 mm_L_law_iniX8 hA df_X8 (Nat.le_of_ble_eq_true rfl) (Nat.le_of_ble_eq_true rfl) dL_law_0 (fun G0 n0 o0 => ?_)
  refine gx_dup C dL_law_3 rfl ?_
  refine gx_callI C (k8_init l D A (fun q hq => hA q (by omega)) n0) cb_L_law__X8_init gL_law_X8_init mm_L_law_ml9 mm_L_law_iniX8 mm_L_law_imX8 rfl rfl rfl (Nat.le_of_ble_eq_true rfl) ⟨Nat.le_of_ble_eq_true rfl, Nat.le_of_ble_eq_true rfl⟩ dL_law_4 (gx_kv fun G4 h4 => ?_)
  obtain ⟨hc, o4⟩ := h4
  refine gx_hs (hs' := X + 242) (cells' := 242) (slots' := 3158) (by omega) rfl rfl ?_
  refine gx_astore_n C dL_law_7 (by decide) ?_
  refine gx_newG (ci := 8) (T := TX9) (N := 11) (fs := [.null, .null, .int 0, .null, .int 0, .null, .int 0, .int 0, .int 0, .null, .int 0]) C inlX9 rfl tyX9_ok mm_L_law_cl10 mm_L_law_itX9 mm_L_law_iniX9 hA df_X9 (Nat.le_of_ble_eq_true rfl) (Nat.le_of_ble_eq_true rfl) dL_law_8 (fun G8 n8 o8 => ?_)
  have hc := gCw_fr hc o8
  refine gx_dup C dL_law_11 rfl ?_
  refine gx_callI C (k9_init l D A (fun q hq => hA q (by omega)) n8) cb_L_law__X9_init gL_law_X9_init mm_L_law_ml12 mm_L_law_iniX9 mm_L_law_imX9 rfl rfl rfl (Nat.le_of_ble_eq_true rfl) ⟨Nat.le_of_ble_eq_true rfl, Nat.le_of_ble_eq_true rfl⟩ dL_law_12 (gx_kv fun G12 hm => ?_)
  have hc := gCw_fr hc (gMw_o hm)
  have hm := gMw_re hm
  refine gx_hs (hs' := X + 248) (cells' := 248) (slots' := 7730) (by omega) rfl rfl ?_
  refine gx_astore_n C dL_law_15 (by decide) ?_
  refine gx_iconst (v := nI (4 * 0)) C dL_law_16 (by decide) ?_
  refine gx_istore_n C dL_law_17 (by decide) ?_
  exact law_loop C hX hbl hbA hL hend (L + 1) 0 G12 _ (by omega) (by omega) hc hm
