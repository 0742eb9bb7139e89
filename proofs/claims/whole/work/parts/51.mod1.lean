/-! THE MODEL: its cells, and what they say of plain values -/
section GMD
variable {p : Program} {l : Launch} {e : Env} {R : Room} {s : State} {m : MethodId} {args : Array Value} {below : List Frame} {meth : Method} {c : Code} {cc : ByteArray} {ret : Option FieldType} {Ts : List Cond} {own nm : String} {D : gD} {A : Nat → Prop} {nL hs0 hs cells slots : Nat} {Q : State → Prop} {G : gH} {V : List (Option Value)} {pc : Nat} {rest : List Value} {a n k : Nat} {f : Nat → Int32}
theorem gx_ialdN (C : gC p s m args meth c cc ret Ts own nm D A nL hs0) (hG : G a = some (.inl (D.1.1 100, n, .inl f))) (hk : k < n) (hn : n < 2 ^ 31) (hdg : decode cc pc = .ok (.iaload, 1))
    (kk : gX p l e R s m args below meth c D A nL hs cells slots Q G V (pc + 1) (.int (f k) :: rest)) : gX p l e R s m args below meth c D A nL hs cells slots Q G V pc (.int (nI k) :: .ref a :: rest) :=
  gx_iald C hG (vp_in_nI hk hn) hdg (by rw [nI_clamp (by omega)]; exact kk)
theorem gx_iastN (C : gC p s m args meth c cc ret Ts own nm D A nL hs0) {x : Int32} (hG : G a = some (.inl (D.1.1 100, n, .inl f))) (hk : k < n) (hn : n < 2 ^ 31) (hdg : decode cc pc = .ok (.iastore, 1))
    (kk : gX p l e R s m args below meth c D A nL hs cells slots Q (gU G a (.inl (D.1.1 100, n, .inl (upd f k x)))) V (pc + 1) rest) : gX p l e R s m args below meth c D A nL hs cells slots Q G V pc (.int x :: .int (nI k) :: .ref a :: rest) :=
  gx_iast C hG (vp_in_nI hk hn) hdg (by rw [nI_clamp (by omega)]; exact kk)
end GMD
abbrev MI : Type := Int32 × Int32 × Int32 × Int32 × Int32 × Int32
/-- the object at a: past count, length of the mark text, made, from, spot, read -/
def gMob (G : gH) (a : Nat) (z : MI) : Prop := G a = some (.inr (8, [.ref (a + 1), .ref (a + 2), .int z.1, .ref (a + 3), .int z.2.1, .ref (a + 4), .int z.2.2.1, .int z.2.2.2.1, .int z.2.2.2.2.1, .ref (a + 5), .int z.2.2.2.2.2]))
def gMst (D : gD) (G : gH) (a n : Nat) (f : Nat → Int32) : Prop := G a = some (.inl (D.1.1 100, n, .inl f))
def mkR (st : Nat → Int32) (p : Nat) (z : Int32) : Prop := st p = pKind z ∧ st (p + 1) = pFirst z ∧ st (p + 2) = pSecond z ∧ st (p + 3) = pSign z
def iOk0 (z : Int32) (n : Nat) : Prop := (pKind z = 0 ∧ pF z < pS z ∧ pS z ≤ n) ∨ (pKind z = 1 ∧ pF z ≤ n) ∨ (pKind z = 2 ∧ pF z < n) ∨ (pKind z = 3 ∧ pF z + 1 < n) ∨ (pKind z = 4 ∧ pF z < n) ∨ (pKind z = 5 ∧ pF z < n)
/-- a mark as the sheets may have it: its places lie in a text of n characters, its character can be printed -/
def iOk (z : Int32) (n : Nat) : Prop := iOk0 z n ∧ (pKind z = 1 ∨ pKind z = 2 → 32 ≤ pSign z ∧ pSign z ≤ 126)
def loR (x y : Int32) : Prop := ∃ (q b : Nat), x = nI q ∧ q < 64 ∧ y = nI b ∧ b < 6 ∧ q.testBit b = true ∧ ∀ j : Nat, j < b → q.testBit j = false
def shR (st : Nat → Int32) (p : Nat) (c : SH) (n : Nat) : Prop := st p = c.1 ∧ st (p + 1) = c.2.1 ∧ st (p + 2) = nI c.2.2.length ∧ c.2.2.length ≤ 8 ∧ (∃ r : Nat, r < 6 ∧ c.1 = nI r) ∧ (∃ q : Nat, q < 4 ∧ c.2.1 = nI q) ∧ ∀ k : Nat, k < c.2.2.length → mkR st (p + 3 + 4 * k) (c.2.2.getD k 0) ∧ iOk (c.2.2.getD k 0) n
def sTx (st : Nat → Int32) (tx : List Int32) : Prop := st 0 = nI tx.length ∧ tx.length ≤ 100 ∧ ∀ i : Nat, i < tx.length → st (27 + i) = tx.getD i 0 ∧ 32 ≤ tx.getD i 0 ∧ tx.getD i 0 ≤ 126
def sSh (st : Nat → Int32) (sh : List SH) (n : Nat) : Prop := st 2 = nI sh.length ∧ sh.length ≤ 8 ∧ ∀ i : Nat, i < sh.length → shR st (127 + 35 * i) (sh.getD i shD) n
def sLi (st : Nat → Int32) (li : ML) (n : Nat) : Prop := st 3 = nI li.1.length ∧ li.1.length ≤ 64 ∧ li.2.1.length = li.1.length ∧ li.2.2.1.length = li.1.length ∧ li.2.2.2.length = li.1.length ∧ li.1.Nodup ∧
  ∀ k : Nat, k < li.1.length → mkR st (407 + 7 * k) (li.1.getD k 0) ∧ iOk (li.1.getD k 0) n ∧ st (407 + 7 * k + 4) = li.2.1.getD k 0 ∧ (∃ q : Nat, q < 3 ∧ li.2.1.getD k 0 = nI q) ∧ st (407 + 7 * k + 5) = li.2.2.1.getD k 0 ∧ loR (st (407 + 7 * k + 6)) (li.2.2.2.getD k 0)
def sAc (st : Nat → Int32) (ac : ML) : Prop := ac.1.length = 5 ∧ ac.2.1.length = 6 ∧ ac.2.2.1.length = 6 ∧ ac.2.2.2.length = 6 ∧ (∀ k : Nat, k < 5 → st (4 + k) = ac.1.getD k 0) ∧ ∀ r : Nat, r < 6 → st (9 + 3 * r) = ac.2.1.getD r 0 ∧ st (9 + 3 * r + 1) = ac.2.2.1.getD r 0 ∧ st (9 + 3 * r + 2) = ac.2.2.2.getD r 0
/-- accepted marks do not stand against each other; the list is no longer than its merged sheets allow -/
def sAp (li : ML) : Prop := ∀ i j : Nat, i < li.1.length → j < li.1.length → li.2.1.getD i 0 = 1 → li.2.1.getD j 0 = 1 → pOpp (li.1.getD i 0) (li.1.getD j 0) = 0
def sSz (sh : List SH) (li : ML) : Prop := li.1.length ≤ 8 * pShN sh 3 sh.length
def sR (st : Nat → Int32) (v : SV) : Prop := sTx st v.1 ∧ st 1 = v.2.1 ∧ sSh st v.2.2.1 v.1.length ∧ sLi st v.2.2.2.1 v.1.length ∧ sAc st v.2.2.2.2 ∧ sAp v.2.2.2.1 ∧ sSz v.2.2.1 v.2.2.2.1
theorem pI1 {c : Prop} [Decidable c] (h : c) : (if c then (1 : Int32) else 0) = 1 := if_pos h
theorem pI0 {c : Prop} [Decidable c] (h : ¬ c) : (if c then (1 : Int32) else 0) = 0 := if_neg h
theorem pPart_eq {a b : Int32} (h0 : pKind a = pKind b) (h1 : pFirst a = pFirst b) (h2 : pSecond a = pSecond b) (h3 : pSign a = pSign b) : a = b := by
  have s0 : ((24 : Int32) &&& 31) = 24 := by decide
  have s1 : ((16 : Int32) &&& 31) = 16 := by decide
  have s2 : ((8 : Int32) &&& 31) = 8 := by decide
  have k0 : ∀ x : Int32, (pKind x).toInt = x.toInt / 2 ^ 24 := by
    intro x
    have := pk_shr x ((24 : Int32) &&& 31) 24 (by decide)
    rw [pKind, this, Int.shiftRight_eq_div_pow]
    rfl
  have kk : ∀ (x y : Int32) (q : Nat), (y.toBitVec.smod 32).toNat = q → (x >>> y).toInt = x.toInt / 2 ^ q := by
    intro x y q hq
    rw [pk_shr x y q hq, Int.shiftRight_eq_div_pow]
    rfl
  have ka : ∀ x : Int32, (x &&& 255).toInt = x.toInt % 256 := by
    intro x
    have h := pk_and x (m := 255) 8 (by decide)
    rw [h, nI_toInt (by omega)]
    have e : x.toInt = x.toBitVec.toInt := rfl
    rw [e, BitVec.toInt_eq_toNat_bmod, Int.bmod_def]
    split <;> omega
  have e0 := congrArg Int32.toInt h0
  have e1 := congrArg Int32.toInt h1
  have e2 := congrArg Int32.toInt h2
  have e3 := congrArg Int32.toInt h3
  rw [k0, k0] at e0
  unfold pFirst at e1
  unfold pSecond at e2
  unfold pSign at e3
  rw [ka, ka, kk _ _ 16 (by decide), kk _ _ 16 (by decide)] at e1
  rw [ka, ka, kk _ _ 8 (by decide), kk _ _ 8 (by decide)] at e2
  rw [ka, ka] at e3
  refine Int32.toInt_inj.mp ?_
  omega
theorem gz_b1 {x : Int32} (h : x = 0 ∨ x = 1) : narrow .boolean (.int (1 - x)) = .int (1 - x) := by
  rcases h with rfl | rfl <;> rfl
theorem pAny_s {f : Nat → Bool} {j : Nat} (x : Int32) (h : x = if (List.range j).any f = true ∨ f j = true then 1 else 0) : x = if (List.range (j + 1)).any f = true then 1 else 0 := by
  rw [h, List.range_succ, List.any_append]
  simp
theorem pAny_1 {f : Nat → Bool} {j : Nat} (h : ¬ (if (List.range j).any f = true then (1 : Int32) else 0) = 0) : (List.range j).any f = true := by
  by_cases q : (List.range j).any f = true
  · exact q
  · exact absurd (if_neg q) h
theorem pAny_0 {f : Nat → Bool} {j : Nat} (h : (if (List.range j).any f = true then (1 : Int32) else 0) = 0) : ¬ (List.range j).any f = true := fun q => by
  rw [if_pos q] at h
  exact absurd h (by decide)
theorem pAll_s {f : Nat → Bool} {j : Nat} (x : Int32) (h : x = if (List.range j).all f = true ∧ f j = true then 1 else 0) : x = if (List.range (j + 1)).all f = true then 1 else 0 := by
  rw [h, List.range_succ, List.all_append]
  simp
theorem pAll_1 {f : Nat → Bool} {j : Nat} (h : ¬ (if (List.range j).all f = true then (1 : Int32) else 0) = 0) : (List.range j).all f = true := by
  by_cases q : (List.range j).all f = true
  · exact q
  · exact absurd (if_neg q) h
theorem pAll_0 {f : Nat → Bool} {j : Nat} (h : (if (List.range j).all f = true then (1 : Int32) else 0) = 0) : ¬ (List.range j).all f = true := fun q => by
  rw [if_pos q] at h
  exact absurd h (by decide)
theorem mk_like {st : Nat → Int32} {p1 q1 : Nat} {x1 y1 : Int32} (hp : mkR st p1 x1) (hq : mkR st q1 y1) : (List.range 4).all (fun i => decide (st (p1 + i) = st (q1 + i))) = true ↔ x1 = y1 := by
  rw [List.all_eq_true]
  constructor
  · intro h
    have h0 := h 0 (by decide)
    have h1 := h 1 (by decide)
    have h2 := h 2 (by decide)
    have h3 := h 3 (by decide)
    simp only [decide_eq_true_eq] at h0 h1 h2 h3
    exact pPart_eq (hp.1.symm.trans (h0.trans hq.1)) (hp.2.1.symm.trans (h1.trans hq.2.1)) (hp.2.2.1.symm.trans (h2.trans hq.2.2.1)) (hp.2.2.2.symm.trans (h3.trans hq.2.2.2))
  · rintro rfl i hi
    have := List.mem_range.mp hi
    simp only [decide_eq_true_eq]
    rcases (show i = 0 ∨ i = 1 ∨ i = 2 ∨ i = 3 by omega) with rfl | rfl | rfl | rfl
    · exact hp.1.trans hq.1.symm
    · exact hp.2.1.trans hq.2.1.symm
    · exact hp.2.2.1.trans hq.2.2.1.symm
    · exact hp.2.2.2.trans hq.2.2.2.symm
theorem cb_X9_isReader__X9_in : gCb yX9_in cX9_in 3 (some .boolean) wsX9_in (gR 0) (gR 1) 0 0 3 := ⟨rfl, rfl, rfl, by decide +kernel, by decide⟩
set_option maxRecDepth 20000 in
theorem in_X9_of_X9 : ∀ w ∈ wsX90, w ∈ wsX9_of := by decide +kernel
set_option maxRecDepth 20000 in
theorem fd_X9_of_7 : gFd wsX9_of RX9 7 8 RX9 TX9 11 0 := ⟨in_X9_of_X9, rfl, by decide, by decide +kernel⟩
set_option maxRecDepth 20000 in
theorem in_X9_isSheet_X9 : ∀ w ∈ wsX90, w ∈ wsX9_isSheet := by decide +kernel
set_option maxRecDepth 20000 in
theorem fd_X9_isSheet_7 : gFd wsX9_isSheet RX9 7 8 RX9 TX9 11 0 := ⟨in_X9_isSheet_X9, rfl, by decide, by decide +kernel⟩
theorem cb_X9_isSheet__X9_in : gCb yX9_in cX9_in 3 (some .boolean) wsX9_in (gR 0) (gR 1) 0 0 3 := ⟨rfl, rfl, rfl, by decide +kernel, by decide⟩
set_option maxRecDepth 20000 in
theorem in_X9_isMark_X9 : ∀ w ∈ wsX90, w ∈ wsX9_isMark := by decide +kernel
set_option maxRecDepth 20000 in
theorem fd_X9_isMark_7 : gFd wsX9_isMark RX9 7 8 RX9 TX9 11 0 := ⟨in_X9_isMark_X9, rfl, by decide, by decide +kernel⟩
theorem cb_X9_isMark__X9_in : gCb yX9_in cX9_in 3 (some .boolean) wsX9_in (gR 0) (gR 1) 0 0 3 := ⟨rfl, rfl, rfl, by decide +kernel, by decide⟩
set_option maxRecDepth 20000 in
theorem in_X9_inState_X9 : ∀ w ∈ wsX90, w ∈ wsX9_inState := by decide +kernel
set_option maxRecDepth 20000 in
theorem fd_X9_inState_7 : gFd wsX9_inState RX9 7 8 RX9 TX9 11 0 := ⟨in_X9_inState_X9, rfl, by decide, by decide +kernel⟩
theorem cb_X9_inState__X9_of : gCb yX9_of cX9_of 3 (some .int) wsX9_of (gR 0) (gR 1) 0 0 2 := ⟨rfl, rfl, rfl, by decide +kernel, by decide⟩
set_option maxRecDepth 20000 in
theorem in_X9_isBusy_X9 : ∀ w ∈ wsX90, w ∈ wsX9_isBusy := by decide +kernel
set_option maxRecDepth 20000 in
theorem fd_X9_isBusy_7 : gFd wsX9_isBusy RX9 7 8 RX9 TX9 11 0 := ⟨in_X9_isBusy_X9, rfl, by decide, by decide +kernel⟩
theorem cb_X9_isBusy__X9_of : gCb yX9_of cX9_of 3 (some .int) wsX9_of (gR 0) (gR 1) 0 0 2 := ⟨rfl, rfl, rfl, by decide +kernel, by decide⟩
set_option maxRecDepth 20000 in
theorem in_X9_areLike_X9 : ∀ w ∈ wsX90, w ∈ wsX9_areLike := by decide +kernel
set_option maxRecDepth 20000 in
theorem fd_X9_areLike_7 : gFd wsX9_areLike RX9 7 8 RX9 TX9 11 0 := ⟨in_X9_areLike_X9, rfl, by decide, by decide +kernel⟩
set_option maxRecDepth 20000 in
theorem in_X9_behind_X9 : ∀ w ∈ wsX90, w ∈ wsX9_behind := by decide +kernel
set_option maxRecDepth 20000 in
theorem fd_X9_behind_7 : gFd wsX9_behind RX9 7 8 RX9 TX9 11 0 := ⟨in_X9_behind_X9, rfl, by decide, by decide +kernel⟩
set_option maxHeartbeats 600000 in
set_option maxRecDepth 100000 in
/-- X9_in -/
theorem k9_in (l : Launch) (D : gD) (A : Nat → Prop) (hs : Nat) {G : gH} (z a b : Int32) : gM l yX9_in wsX9_in (gR 0) D A hs 0 0 [.int z, .int a, .int b] G (gPi fun x G' => x = 1 - pOut z a b ∧ G' = G) := by
  refine gM_intro (by decide) rfl rfl (Nat.le_of_ble_eq_true rfl) ?_
  intro p e s m args below meth c C
  refine gx_iload_n C dX9_in_0 rfl ?_
  refine gx_iload_n C dX9_in_1 rfl ?_
  refine gx_icmp_lt (tgt := 14) C dX9_in_2 (by decide) (fun c_2 => ?_) (fun c_2 => ?_)
  · refine gx_iconst (v := 0) C dX9_in_14 (by decide) ?_
    refine gx_zret (mc := 0) C rfl ?_ dX9_in_15
    exact ⟨_, rfl, by first | (simp [pOut, gz_le, gz_lt, c_2]; done) | (simp [pOut, gz_le, gz_lt, c_2]; exact fun h => (Int32.lt_irrefl (Int32.lt_of_lt_of_le h (by assumption))).elim), rfl⟩
  · refine gx_iload_n C dX9_in_5 rfl ?_
    refine gx_iload_n C dX9_in_6 rfl ?_
    refine gx_icmp_gt (tgt := 14) C dX9_in_7 (by decide) (fun c_7 => ?_) (fun c_7 => ?_)
    · refine gx_iconst (v := 0) C dX9_in_14 (by decide) ?_
      refine gx_zret (mc := 0) C rfl ?_ dX9_in_15
      exact ⟨_, rfl, by first | (simp [pOut, gz_le, gz_lt, c_2, c_7]; done) | (simp [pOut, gz_le, gz_lt, c_2, c_7]; exact fun h => (Int32.lt_irrefl (Int32.lt_of_lt_of_le h (by assumption))).elim), rfl⟩
    · refine gx_iconst (v := 1) C dX9_in_10 (by decide) ?_
      refine gx_goto (tgt := 15) C dX9_in_11 (by decide) ?_
      refine gx_zret (mc := 0) C rfl ?_ dX9_in_15
      exact ⟨_, rfl, by first | (simp [pOut, gz_le, gz_lt, c_2, c_7]; done) | (simp [pOut, gz_le, gz_lt, c_2, c_7]; exact fun h => (Int32.lt_irrefl (Int32.lt_of_lt_of_le h (by assumption))).elim), rfl⟩
set_option maxHeartbeats 600000 in
set_option maxRecDepth 100000 in
/-- X9_sheetAt -/
theorem k9_sheetAt (l : Launch) (D : gD) (A : Nat → Prop) (hs : Nat) {G : gH} (s1 : Nat) : gM l yX9_sheetAt wsX9_sheetAt (gR 0) D A hs 0 0 [.int (nI s1)] G (gPi fun x G' => x = nI (127 + 35 * s1) ∧ G' = G) := by
  refine gM_intro (by decide) rfl rfl (Nat.le_of_ble_eq_true rfl) ?_
  intro p e s m args below meth c C
  refine gx_bipush (v := nI 127) C dX9_sheetAt_0 (by decide) ?_
  refine gx_bipush (v := nI 35) C dX9_sheetAt_2 (by decide) ?_
  refine gx_iload_n C dX9_sheetAt_4 rfl ?_
  refine gx_imul C dX9_sheetAt_5 ?_
  first | refine gx_top (pk_mul _ _) ?_ | skip
  refine gx_iadd C dX9_sheetAt_6 ?_
  first | refine gx_top (nI_add _ _) ?_ | skip
  refine gx_zret (mc := 0) C rfl ?_ dX9_sheetAt_7
  exact ⟨_, rfl, rfl, rfl⟩
set_option maxHeartbeats 600000 in
set_option maxRecDepth 100000 in
/-- X9_listed -/
theorem k9_listed (l : Launch) (D : gD) (A : Nat → Prop) (hs : Nat) {G : gH} (k : Nat) : gM l yX9_listed wsX9_listed (gR 0) D A hs 0 0 [.int (nI k)] G (gPi fun x G' => x = nI (407 + 7 * k) ∧ G' = G) := by
  refine gM_intro (by decide) rfl rfl (Nat.le_of_ble_eq_true rfl) ?_
  intro p e s m args below meth c C
  refine gx_sipush (v := nI 407) C dX9_listed_0 (by decide) ?_
  refine gx_bipush (v := nI 7) C dX9_listed_3 (by decide) ?_
  refine gx_iload_n C dX9_listed_5 rfl ?_
  refine gx_imul C dX9_listed_6 ?_
  first | refine gx_top (pk_mul _ _) ?_ | skip
  refine gx_iadd C dX9_listed_7 ?_
  first | refine gx_top (nI_add _ _) ?_ | skip
  refine gx_zret (mc := 0) C rfl ?_ dX9_listed_8
  exact ⟨_, rfl, rfl, rfl⟩
set_option maxHeartbeats 600000 in
set_option maxRecDepth 100000 in
/-- X9_markOf -/
theorem k9_markOf (l : Launch) (D : gD) (A : Nat → Prop) (hs : Nat) {G : gH} (s1 k : Nat) : gM l yX9_markOf wsX9_markOf (gR 0) D A hs 0 0 [.int (nI s1), .int (nI k)] G (gPi fun x G' => x = nI (127 + 35 * s1 + 3 + 4 * k) ∧ G' = G) := by
  refine gM_intro (by decide) rfl rfl (Nat.le_of_ble_eq_true rfl) ?_
  intro p e s m args below meth c C
  refine gx_bipush (v := nI 127) C dX9_markOf_0 (by decide) ?_
  refine gx_bipush (v := nI 35) C dX9_markOf_2 (by decide) ?_
  refine gx_iload_n C dX9_markOf_4 rfl ?_
  refine gx_imul C dX9_markOf_5 ?_
  first | refine gx_top (pk_mul _ _) ?_ | skip
  refine gx_iadd C dX9_markOf_6 ?_
  first | refine gx_top (nI_add _ _) ?_ | skip
  refine gx_iconst (v := nI 3) C dX9_markOf_7 (by decide) ?_
  refine gx_iadd C dX9_markOf_8 ?_
  first | refine gx_top (nI_add _ _) ?_ | skip
  refine gx_iconst (v := nI 4) C dX9_markOf_9 (by decide) ?_
  refine gx_iload_n C dX9_markOf_10 rfl ?_
  refine gx_imul C dX9_markOf_11 ?_
  first | refine gx_top (pk_mul _ _) ?_ | skip
  refine gx_iadd C dX9_markOf_12 ?_
  first | refine gx_top (nI_add _ _) ?_ | skip
  refine gx_zret (mc := 0) C rfl ?_ dX9_markOf_13
  exact ⟨_, rfl, rfl, rfl⟩
set_option maxHeartbeats 600000 in
set_option maxRecDepth 100000 in
/-- X9_isReader -/
theorem k9_isReader (l : Launch) (D : gD) (A : Nat → Prop) (hs : Nat) {G : gH} (z : Int32) : gM l yX9_isReader wsX9_isReader (gR 1) D A hs 0 0 [.int z] G (gPi fun x G' => x = 1 - pOut z 0 5 ∧ G' = G) := by
  refine gM_intro (by decide) rfl rfl (Nat.le_of_ble_eq_true rfl) ?_
  intro p e s m args below meth c C
  refine gx_iload_n C dX9_isReader_0 rfl ?_
  refine gx_iconst (v := 0) C dX9_isReader_1 (by decide) ?_
  refine gx_iconst (v := 5) C dX9_isReader_2 (by decide) ?_
  refine gx_callS C (k9_in l D A hs z 0 5) cb_X9_isReader__X9_in gX9_isReader_X9_in rfl rfl (Nat.le_of_ble_eq_true rfl) ⟨Nat.le_refl _, Nat.le_refl _⟩ dX9_isReader_3 (gx_ki fun r_3 G_3 h_3 => ?_)
  obtain ⟨rfl, rfl⟩ := h_3
  refine gx_zret (mc := 0) C (gz_b1 pOut_b) ?_ dX9_isReader_6
  exact ⟨_, rfl, rfl, rfl⟩
set_option maxHeartbeats 600000 in
set_option maxRecDepth 100000 in
/-- X9_of -/
theorem k9_of (l : Launch) (D : gD) (A : Nat → Prop) (hs : Nat) {G : gH} {a : Nat} {z : MI} {st : Nat → Int32} (ho : gMob G a z) (hs1 : gMst D G (a + 1) 855 st) (s1 w : Nat) (hb : 127 + 35 * s1 + w < 855) : gM l yX9_of wsX9_of (gR 0) D A hs 0 0 [.ref a, .int (nI s1), .int (nI w)] G (gPi fun x G' => x = st (127 + 35 * s1 + w) ∧ G' = G) := by
  refine gM_intro (by decide) rfl rfl (Nat.le_of_ble_eq_true rfl) ?_
  intro p e s m args below meth c C
  refine gx_aload_n C dX9_of_0 rfl ?_
  refine gx_get C fd_X9_of_7 (hG := ho) (hv := by rfl) dX9_of_1 ?_
  refine gx_bipush (v := nI 127) C dX9_of_4 (by decide) ?_
  refine gx_bipush (v := nI 35) C dX9_of_6 (by decide) ?_
  refine gx_iload_n C dX9_of_8 rfl ?_
  refine gx_imul C dX9_of_9 ?_
  first | refine gx_top (pk_mul _ _) ?_ | skip
  refine gx_iadd C dX9_of_10 ?_
  first | refine gx_top (nI_add _ _) ?_ | skip
  refine gx_iload_n C dX9_of_11 rfl ?_
  refine gx_iadd C dX9_of_12 ?_
  first | refine gx_top (nI_add _ _) ?_ | skip
  refine gx_ialdN C (hG := hs1) (hk := by omega) (hn := by omega) dX9_of_13 ?_
  refine gx_zret (mc := 0) C rfl ?_ dX9_of_14
  exact ⟨_, rfl, rfl, rfl⟩
set_option maxHeartbeats 600000 in
set_option maxRecDepth 100000 in
/-- X9_isSheet -/
theorem k9_isSheet (l : Launch) (D : gD) (A : Nat → Prop) (hs : Nat) {G : gH} {a : Nat} {z : MI} {st : Nat → Int32} (ho : gMob G a z) (hs1 : gMst D G (a + 1) 855 st) {v : SV} (hR : sR st v) (i : Int32) : gM l yX9_isSheet wsX9_isSheet (gR 1) D A hs 0 0 [.ref a, .int i] G (gPi fun x G' => x = (if gIn i v.2.2.1.length = true then 1 else 0) ∧ G' = G) := by
  refine gM_intro (by decide) rfl rfl (Nat.le_of_ble_eq_true rfl) ?_
  intro p e s m args below meth c C
  have r2 := hR.2.2.1.1
  have b2 := hR.2.2.1.2.1
  refine gx_iload_n C dX9_isSheet_0 rfl ?_
  refine gx_iconst (v := 0) C dX9_isSheet_1 (by decide) ?_
  refine gx_aload_n C dX9_isSheet_2 rfl ?_
  refine gx_get C fd_X9_isSheet_7 (hG := ho) (hv := by rfl) dX9_isSheet_3 ?_
  refine gx_iconst (v := nI 2) C dX9_isSheet_6 (by decide) ?_
  refine gx_ialdN C (hG := hs1) (hk := by omega) (hn := by omega) dX9_isSheet_7 ?_
  rw [r2]
  refine gx_iconst (v := 1) C dX9_isSheet_8 (by decide) ?_
  refine gx_isub C dX9_isSheet_9 ?_
  refine gx_callS C (k9_in l D A hs i 0 (nI v.2.2.1.length - 1)) cb_X9_isSheet__X9_in gX9_isSheet_X9_in rfl rfl (Nat.le_of_ble_eq_true rfl) ⟨Nat.le_refl _, Nat.le_refl _⟩ dX9_isSheet_10 (gx_ki fun r_10 G_10 h_10 => ?_)
  obtain ⟨rfl, rfl⟩ := h_10
  refine gx_zret (mc := 0) C (gz_b1 pOut_b) ?_ dX9_isSheet_13
  exact ⟨_, rfl, by rw [pOut_in (by omega)]; split <;> rfl, rfl⟩
set_option maxHeartbeats 600000 in
set_option maxRecDepth 100000 in
/-- X9_isMark -/
theorem k9_isMark (l : Launch) (D : gD) (A : Nat → Prop) (hs : Nat) {G : gH} {a : Nat} {z : MI} {st : Nat → Int32} (ho : gMob G a z) (hs1 : gMst D G (a + 1) 855 st) {v : SV} (hR : sR st v) (i : Int32) : gM l yX9_isMark wsX9_isMark (gR 1) D A hs 0 0 [.ref a, .int i] G (gPi fun x G' => x = (if gIn i v.2.2.2.1.1.length = true then 1 else 0) ∧ G' = G) := by
  refine gM_intro (by decide) rfl rfl (Nat.le_of_ble_eq_true rfl) ?_
  intro p e s m args below meth c C
  have r2 := hR.2.2.2.1.1
  have b2 := hR.2.2.2.1.2.1
  refine gx_iload_n C dX9_isMark_0 rfl ?_
  refine gx_iconst (v := 0) C dX9_isMark_1 (by decide) ?_
  refine gx_aload_n C dX9_isMark_2 rfl ?_
  refine gx_get C fd_X9_isMark_7 (hG := ho) (hv := by rfl) dX9_isMark_3 ?_
  refine gx_iconst (v := nI 3) C dX9_isMark_6 (by decide) ?_
  refine gx_ialdN C (hG := hs1) (hk := by omega) (hn := by omega) dX9_isMark_7 ?_
  rw [r2]
  refine gx_iconst (v := 1) C dX9_isMark_8 (by decide) ?_
  refine gx_isub C dX9_isMark_9 ?_
  refine gx_callS C (k9_in l D A hs i 0 (nI v.2.2.2.1.1.length - 1)) cb_X9_isMark__X9_in gX9_isMark_X9_in rfl rfl (Nat.le_of_ble_eq_true rfl) ⟨Nat.le_refl _, Nat.le_refl _⟩ dX9_isMark_10 (gx_ki fun r_10 G_10 h_10 => ?_)
  obtain ⟨rfl, rfl⟩ := h_10
  refine gx_zret (mc := 0) C (gz_b1 pOut_b) ?_ dX9_isMark_13
  exact ⟨_, rfl, by rw [pOut_in (by omega)]; split <;> rfl, rfl⟩
set_option maxHeartbeats 600000 in
set_option maxRecDepth 100000 in
/-- X9_inState -/
theorem k9_inState (l : Launch) (D : gD) (A : Nat → Prop) (hs : Nat) {G : gH} {a : Nat} {z : MI} {st : Nat → Int32} (ho : gMob G a z) (hs1 : gMst D G (a + 1) 855 st) {v : SV} (hR : sR st v) (w : Int32) : gM l yX9_inState wsX9_inState (gR 1) D A hs 0 0 [.ref a, .int w] G (gPi fun x G' => x = nI (pShN v.2.2.1 w v.2.2.1.length) ∧ G' = G) := by
  refine gM_intro (by decide) rfl rfl (Nat.le_of_ble_eq_true rfl) ?_
  intro p e s m args below meth c C
  have r2 := hR.2.2.1.1
  have b2 := hR.2.2.1.2.1
  have hloop : ∀ (n j : Nat) , v.2.2.1.length < j + n → j ≤ v.2.2.1.length → gX p l e (gR 1) s m args below meth c D A 4 hs 0 0 (MQ below (gQ D A hs 0 (gPi fun x G' => x = nI (pShN v.2.2.1 w v.2.2.1.length) ∧ G' = G)) args s 0 0 A) G [some (.ref a), some (.int w), some (.int (nI (pShN v.2.2.1 w j))), some (.int (nI j))] 4 [] := by
    intro n
    induction n with
    | zero => intro j hm hj0; exact absurd hm (by omega)
    | succ n ih =>
      intro j hm hj0
      refine gx_iload_n C dX9_inState_4 rfl ?_
      refine gx_aload_n C dX9_inState_5 rfl ?_
      refine gx_get C fd_X9_inState_7 (hG := ho) (hv := by rfl) dX9_inState_6 ?_
      refine gx_iconst (v := nI 2) C dX9_inState_9 (by decide) ?_
      refine gx_ialdN C (hG := hs1) (hk := by omega) (hn := by omega) dX9_inState_10 ?_
      rw [r2]
      refine gx_icmp_ge (tgt := 38) C dX9_inState_11 (by decide) (fun c_11 => ?_) (fun c_11 => ?_)
      · have hj : ¬ j < v.2.2.1.length := fun q => nI_ge q (by omega) c_11
        refine gx_iload_n C dX9_inState_38 rfl ?_
        refine gx_zret (mc := 0) C rfl ?_ dX9_inState_39
        have e : j = v.2.2.1.length := by omega
        subst e
        exact ⟨_, rfl, rfl, rfl⟩
      · have hj : j < v.2.2.1.length := by
          rcases Nat.lt_or_ge (j) (v.2.2.1.length) with q | q
          · exact q
          · exact absurd (nI_le q (by omega)) c_11
        have sj := hR.2.2.1.2.2 j hj
        refine gx_iload_n C dX9_inState_14 rfl ?_
        refine gx_aload_n C dX9_inState_15 rfl ?_
        refine gx_iload_n C dX9_inState_16 rfl ?_
        refine gx_iconst (v := nI 1) C dX9_inState_17 (by decide) ?_
        refine gx_callV (ci := 8) (T := TX9) (N := 11) C (k9_of l D A hs ho hs1 j 1 (by omega)) cb_X9_inState__X9_of gX9_inState_X9_of rfl (hG := ho) rfl rfl (Nat.le_of_ble_eq_true rfl) ⟨Nat.le_refl _, Nat.le_refl _⟩ dX9_inState_18 (gx_ki fun r_18 G_18 h_18 => ?_)
        obtain ⟨rfl, rfl⟩ := h_18
        rw [sj.2.1]
        refine gx_iload_n C dX9_inState_21 rfl ?_
        refine gx_icmp_ne (tgt := 29) C dX9_inState_22 (by decide) (fun c_22 => ?_) (fun c_22 => ?_)
        · have hx : pShN v.2.2.1 w (j + 1) = pShN v.2.2.1 w j := (pC_n (f := fun i => decide ((v.2.2.1.getD i shD).2.1 = w)) (n := j) (by simpa using c_22)).symm
          refine gx_iconst (v := nI 0) C dX9_inState_29 (by decide) ?_
          refine gx_iadd C dX9_inState_30 ?_
          first | refine gx_top (nI_add _ _) ?_ | skip
          refine gx_istore_n C dX9_inState_31 (by decide) ?_
          first | refine gx_iincN C dX9_inState_32 rfl (by decide) ?_ | refine gx_iinc1 C dX9_inState_32 rfl (by decide) ?_
          refine gx_goto (tgt := 4) C dX9_inState_35 (by decide) ?_
          refine gx_V ?_ (ih (j + 1) (by omega) (by omega))
          rw [hx]
          rfl
        · have hx : pShN v.2.2.1 w (j + 1) = pShN v.2.2.1 w j + 1 := (pC_s (f := fun i => decide ((v.2.2.1.getD i shD).2.1 = w)) (n := j) (by simpa using c_22)).symm
          refine gx_iconst (v := nI 1) C dX9_inState_25 (by decide) ?_
          refine gx_goto (tgt := 30) C dX9_inState_26 (by decide) ?_
          refine gx_iadd C dX9_inState_30 ?_
          first | refine gx_top (nI_add _ _) ?_ | skip
          refine gx_istore_n C dX9_inState_31 (by decide) ?_
          first | refine gx_iincN C dX9_inState_32 rfl (by decide) ?_ | refine gx_iinc1 C dX9_inState_32 rfl (by decide) ?_
          refine gx_goto (tgt := 4) C dX9_inState_35 (by decide) ?_
          refine gx_V ?_ (ih (j + 1) (by omega) (by omega))
          rw [hx]
          rfl
  refine gx_iconst (v := 0) C dX9_inState_0 (by decide) ?_
  refine gx_istore_n C dX9_inState_1 (by decide) ?_
  refine gx_iconst (v := 0) C dX9_inState_2 (by decide) ?_
  refine gx_istore_n C dX9_inState_3 (by decide) ?_
  exact hloop (v.2.2.1.length + 1) 0 (by omega) (by omega)
set_option maxHeartbeats 600000 in
set_option maxRecDepth 100000 in
/-- X9_isBusy -/
theorem k9_isBusy (l : Launch) (D : gD) (A : Nat → Prop) (hs : Nat) {G : gH} {a : Nat} {z : MI} {st : Nat → Int32} (ho : gMob G a z) (hs1 : gMst D G (a + 1) 855 st) {v : SV} (hR : sR st v) (w : Int32) : gM l yX9_isBusy wsX9_isBusy (gR 1) D A hs 0 0 [.ref a, .int w] G (gPi fun x G' => x = (if pBusy v.2.2.1 w = true then 1 else 0) ∧ G' = G) := by
  refine gM_intro (by decide) rfl rfl (Nat.le_of_ble_eq_true rfl) ?_
  intro p e s m args below meth c C
  have r2 := hR.2.2.1.1
  have b2 := hR.2.2.1.2.1
  have hloop : ∀ (n j : Nat) , v.2.2.1.length < j + n → j ≤ v.2.2.1.length → gX p l e (gR 1) s m args below meth c D A 4 hs 0 0 (MQ below (gQ D A hs 0 (gPi fun x G' => x = (if pBusy v.2.2.1 w = true then 1 else 0) ∧ G' = G)) args s 0 0 A) G [some (.ref a), some (.int w), some (.int (if (List.range j).any (fun i => decide ((v.2.2.1.getD i shD).1 = w) && decide ((v.2.2.1.getD i shD).2.1 = 0)) = true then 1 else 0)), some (.int (nI j))] 4 [] := by
    intro n
    induction n with
    | zero => intro j hm hj0; exact absurd hm (by omega)
    | succ n ih =>
      intro j hm hj0
      refine gx_iload_n C dX9_isBusy_4 rfl ?_
      refine gx_aload_n C dX9_isBusy_5 rfl ?_
      refine gx_get C fd_X9_isBusy_7 (hG := ho) (hv := by rfl) dX9_isBusy_6 ?_
      refine gx_iconst (v := nI 2) C dX9_isBusy_9 (by decide) ?_
      refine gx_ialdN C (hG := hs1) (hk := by omega) (hn := by omega) dX9_isBusy_10 ?_
      rw [r2]
      refine gx_icmp_ge (tgt := 49) C dX9_isBusy_11 (by decide) (fun c_11 => ?_) (fun c_11 => ?_)
      · have hj : ¬ j < v.2.2.1.length := fun q => nI_ge q (by omega) c_11
        refine gx_iload_n C dX9_isBusy_49 rfl ?_
        refine gx_zret (mc := 0) C (gz_b (by split <;> simp)) ?_ dX9_isBusy_50
        have e : j = v.2.2.1.length := by omega
        subst e
        exact ⟨_, rfl, rfl, rfl⟩
      · have hj : j < v.2.2.1.length := by
          rcases Nat.lt_or_ge (j) (v.2.2.1.length) with q | q
          · exact q
          · exact absurd (nI_le q (by omega)) c_11
        have sj := hR.2.2.1.2.2 j hj
        refine gx_iload_n C dX9_isBusy_14 rfl ?_
        refine gx_if_ne (tgt := 37) C dX9_isBusy_15 (by decide) (fun c_15 => ?_) (fun c_15 => ?_)
        · have hy := pI1 (c := (List.range j).any (fun i => decide ((v.2.2.1.getD i shD).1 = w) && decide ((v.2.2.1.getD i shD).2.1 = 0)) = true ∨ (fun i => decide ((v.2.2.1.getD i shD).1 = w) && decide ((v.2.2.1.getD i shD).2.1 = 0)) j = true) (Or.inl (pAny_1 c_15))
          refine gx_iconst (v := 1) C dX9_isBusy_37 (by decide) ?_
          refine gx_goto (tgt := 42) C dX9_isBusy_38 (by decide) ?_
          refine gx_istore_n C dX9_isBusy_42 (by decide) ?_
          first | refine gx_iincN C dX9_isBusy_43 rfl (by decide) ?_ | refine gx_iinc1 C dX9_isBusy_43 rfl (by decide) ?_
          refine gx_goto (tgt := 4) C dX9_isBusy_46 (by decide) ?_
          refine gx_V ?_ (ih (j + 1) (by omega) (by omega))
          rw [← pAny_s (f := (fun i => decide ((v.2.2.1.getD i shD).1 = w) && decide ((v.2.2.1.getD i shD).2.1 = 0))) (j := j) _ hy.symm]
          rfl
        · refine gx_aload_n C dX9_isBusy_18 rfl ?_
          refine gx_iload_n C dX9_isBusy_19 rfl ?_
          refine gx_iconst (v := nI 0) C dX9_isBusy_20 (by decide) ?_
          refine gx_callV (ci := 8) (T := TX9) (N := 11) C (k9_of l D A hs ho hs1 j 0 (by omega)) cb_X9_isBusy__X9_of gX9_isBusy_X9_of rfl (hG := ho) rfl rfl (Nat.le_of_ble_eq_true rfl) ⟨Nat.le_refl _, Nat.le_refl _⟩ dX9_isBusy_21 (gx_ki fun r_21 G_21 h_21 => ?_)
          obtain ⟨rfl, rfl⟩ := h_21
          rw [show st (127 + 35 * j + 0) = _ from sj.1]
          refine gx_iload_n C dX9_isBusy_24 rfl ?_
          refine gx_icmp_ne (tgt := 41) C dX9_isBusy_25 (by decide) (fun c_25 => ?_) (fun c_25 => ?_)
          · have hy := pI0 (c := (List.range j).any (fun i => decide ((v.2.2.1.getD i shD).1 = w) && decide ((v.2.2.1.getD i shD).2.1 = 0)) = true ∨ (fun i => decide ((v.2.2.1.getD i shD).1 = w) && decide ((v.2.2.1.getD i shD).2.1 = 0)) j = true) (fun q => q.elim (pAny_0 c_15) (fun q => by simp only [Bool.and_eq_true, decide_eq_true_eq] at q; exact c_25 q.1))
            refine gx_iconst (v := 0) C dX9_isBusy_41 (by decide) ?_
            refine gx_istore_n C dX9_isBusy_42 (by decide) ?_
            first | refine gx_iincN C dX9_isBusy_43 rfl (by decide) ?_ | refine gx_iinc1 C dX9_isBusy_43 rfl (by decide) ?_
            refine gx_goto (tgt := 4) C dX9_isBusy_46 (by decide) ?_
            refine gx_V ?_ (ih (j + 1) (by omega) (by omega))
            rw [← pAny_s (f := (fun i => decide ((v.2.2.1.getD i shD).1 = w) && decide ((v.2.2.1.getD i shD).2.1 = 0))) (j := j) _ hy.symm]
            rfl
          · refine gx_aload_n C dX9_isBusy_28 rfl ?_
            refine gx_iload_n C dX9_isBusy_29 rfl ?_
            refine gx_iconst (v := nI 1) C dX9_isBusy_30 (by decide) ?_
            refine gx_callV (ci := 8) (T := TX9) (N := 11) C (k9_of l D A hs ho hs1 j 1 (by omega)) cb_X9_isBusy__X9_of gX9_isBusy_X9_of rfl (hG := ho) rfl rfl (Nat.le_of_ble_eq_true rfl) ⟨Nat.le_refl _, Nat.le_refl _⟩ dX9_isBusy_31 (gx_ki fun r_31 G_31 h_31 => ?_)
            obtain ⟨rfl, rfl⟩ := h_31
            rw [sj.2.1]
            refine gx_if_ne (tgt := 41) C dX9_isBusy_34 (by decide) (fun c_34 => ?_) (fun c_34 => ?_)
            · have hy := pI0 (c := (List.range j).any (fun i => decide ((v.2.2.1.getD i shD).1 = w) && decide ((v.2.2.1.getD i shD).2.1 = 0)) = true ∨ (fun i => decide ((v.2.2.1.getD i shD).1 = w) && decide ((v.2.2.1.getD i shD).2.1 = 0)) j = true) (fun q => q.elim (pAny_0 c_15) (fun q => by simp only [Bool.and_eq_true, decide_eq_true_eq] at q; exact c_34 q.2))
              refine gx_iconst (v := 0) C dX9_isBusy_41 (by decide) ?_
              refine gx_istore_n C dX9_isBusy_42 (by decide) ?_
              first | refine gx_iincN C dX9_isBusy_43 rfl (by decide) ?_ | refine gx_iinc1 C dX9_isBusy_43 rfl (by decide) ?_
              refine gx_goto (tgt := 4) C dX9_isBusy_46 (by decide) ?_
              refine gx_V ?_ (ih (j + 1) (by omega) (by omega))
              rw [← pAny_s (f := (fun i => decide ((v.2.2.1.getD i shD).1 = w) && decide ((v.2.2.1.getD i shD).2.1 = 0))) (j := j) _ hy.symm]
              rfl
            · have hy := pI1 (c := (List.range j).any (fun i => decide ((v.2.2.1.getD i shD).1 = w) && decide ((v.2.2.1.getD i shD).2.1 = 0)) = true ∨ (fun i => decide ((v.2.2.1.getD i shD).1 = w) && decide ((v.2.2.1.getD i shD).2.1 = 0)) j = true) (Or.inr (by simp only [Bool.and_eq_true, decide_eq_true_eq]; exact ⟨c_25, c_34⟩))
              refine gx_iconst (v := 1) C dX9_isBusy_37 (by decide) ?_
              refine gx_goto (tgt := 42) C dX9_isBusy_38 (by decide) ?_
              refine gx_istore_n C dX9_isBusy_42 (by decide) ?_
              first | refine gx_iincN C dX9_isBusy_43 rfl (by decide) ?_ | refine gx_iinc1 C dX9_isBusy_43 rfl (by decide) ?_
              refine gx_goto (tgt := 4) C dX9_isBusy_46 (by decide) ?_
              refine gx_V ?_ (ih (j + 1) (by omega) (by omega))
              rw [← pAny_s (f := (fun i => decide ((v.2.2.1.getD i shD).1 = w) && decide ((v.2.2.1.getD i shD).2.1 = 0))) (j := j) _ hy.symm]
              rfl
  refine gx_iconst (v := 0) C dX9_isBusy_0 (by decide) ?_
  refine gx_istore_n C dX9_isBusy_1 (by decide) ?_
  refine gx_iconst (v := 0) C dX9_isBusy_2 (by decide) ?_
  refine gx_istore_n C dX9_isBusy_3 (by decide) ?_
  exact hloop (v.2.2.1.length + 1) 0 (by omega) (by omega)
set_option maxHeartbeats 600000 in
set_option maxRecDepth 100000 in
/-- X9_areLike -/
theorem k9_areLike (l : Launch) (D : gD) (A : Nat → Prop) (hs : Nat) {G : gH} {a : Nat} {z : MI} {st : Nat → Int32} (ho : gMob G a z) (hs1 : gMst D G (a + 1) 855 st) {p1 q1 : Nat} {x1 y1 : Int32} (hp : mkR st p1 x1) (hq : mkR st q1 y1) (hp8 : p1 + 3 < 855) (hq8 : q1 + 3 < 855) : gM l yX9_areLike wsX9_areLike (gR 0) D A hs 0 0 [.ref a, .int (nI p1), .int (nI q1)] G (gPi fun x G' => x = (if x1 = y1 then 1 else 0) ∧ G' = G) := by
  refine gM_intro (by decide) rfl rfl (Nat.le_of_ble_eq_true rfl) ?_
  intro p e s m args below meth c C
  have hloop : ∀ (n j : Nat) , 4 < j + n → j ≤ 4 → gX p l e (gR 0) s m args below meth c D A 5 hs 0 0 (MQ below (gQ D A hs 0 (gPi fun x G' => x = (if x1 = y1 then 1 else 0) ∧ G' = G)) args s 0 0 A) G [some (.ref a), some (.int (nI p1)), some (.int (nI q1)), some (.int (if (List.range j).all (fun i => decide (st (p1 + i) = st (q1 + i))) = true then 1 else 0)), some (.int (nI j))] 5 [] := by
    intro n
    induction n with
    | zero => intro j hm hj0; exact absurd hm (by omega)
    | succ n ih =>
      intro j hm hj0
      refine gx_iload C dX9_areLike_5 rfl ?_
      refine gx_iconst (v := 3) C dX9_areLike_7 (by decide) ?_
      refine gx_icmp_gt (tgt := 48) C dX9_areLike_8 (by decide) (fun c_8 => ?_) (fun c_8 => ?_)
      · have hj : ¬ j ≤ 3 := fun q => nI_nlt q (by omega) c_8
        refine gx_iload_n C dX9_areLike_48 rfl ?_
        refine gx_zret (mc := 0) C (gz_b (by split <;> simp)) ?_ dX9_areLike_49
        have e : j = 4 := by omega
        subst e
        exact ⟨_, rfl, by simp only [mk_like hp hq], rfl⟩
      · have hj : j ≤ 3 := by
          rcases Nat.lt_or_ge 3 j with q | q
          · exact absurd (nI_lt q (by omega)) c_8
          · exact q
        refine gx_iload_n C dX9_areLike_11 rfl ?_
        refine gx_if_eq (tgt := 40) C dX9_areLike_12 (by decide) (fun c_12 => ?_) (fun c_12 => ?_)
        · have hy := pI0 (c := (List.range j).all (fun i => decide (st (p1 + i) = st (q1 + i))) = true ∧ (fun i => decide (st (p1 + i) = st (q1 + i))) j = true) (fun q => pAll_0 c_12 q.1)
          refine gx_iconst (v := 0) C dX9_areLike_40 (by decide) ?_
          refine gx_istore_n C dX9_areLike_41 (by decide) ?_
          first | refine gx_iincN C dX9_areLike_42 rfl (by decide) ?_ | refine gx_iinc1 C dX9_areLike_42 rfl (by decide) ?_
          refine gx_goto (tgt := 5) C dX9_areLike_45 (by decide) ?_
          refine gx_V ?_ (ih (j + 1) (by omega) (by omega))
          rw [← pAll_s (f := (fun i => decide (st (p1 + i) = st (q1 + i)))) (j := j) _ hy.symm]
          rfl
        · refine gx_aload_n C dX9_areLike_15 rfl ?_
          refine gx_get C fd_X9_areLike_7 (hG := ho) (hv := by rfl) dX9_areLike_16 ?_
          refine gx_iload_n C dX9_areLike_19 rfl ?_
          refine gx_iload C dX9_areLike_20 rfl ?_
          refine gx_iadd C dX9_areLike_22 ?_
          first | refine gx_top (nI_add _ _) ?_ | skip
          refine gx_ialdN C (hG := hs1) (hk := by omega) (hn := by omega) dX9_areLike_23 ?_
          refine gx_aload_n C dX9_areLike_24 rfl ?_
          refine gx_get C fd_X9_areLike_7 (hG := ho) (hv := by rfl) dX9_areLike_25 ?_
          refine gx_iload_n C dX9_areLike_28 rfl ?_
          refine gx_iload C dX9_areLike_29 rfl ?_
          refine gx_iadd C dX9_areLike_31 ?_
          first | refine gx_top (nI_add _ _) ?_ | skip
          refine gx_ialdN C (hG := hs1) (hk := by omega) (hn := by omega) dX9_areLike_32 ?_
          refine gx_icmp_ne (tgt := 40) C dX9_areLike_33 (by decide) (fun c_33 => ?_) (fun c_33 => ?_)
          · have hy := pI0 (c := (List.range j).all (fun i => decide (st (p1 + i) = st (q1 + i))) = true ∧ (fun i => decide (st (p1 + i) = st (q1 + i))) j = true) (fun q => by have q2 := q.2; simp only [decide_eq_true_eq] at q2; exact c_33 q2)
            refine gx_iconst (v := 0) C dX9_areLike_40 (by decide) ?_
            refine gx_istore_n C dX9_areLike_41 (by decide) ?_
            first | refine gx_iincN C dX9_areLike_42 rfl (by decide) ?_ | refine gx_iinc1 C dX9_areLike_42 rfl (by decide) ?_
            refine gx_goto (tgt := 5) C dX9_areLike_45 (by decide) ?_
            refine gx_V ?_ (ih (j + 1) (by omega) (by omega))
            rw [← pAll_s (f := (fun i => decide (st (p1 + i) = st (q1 + i)))) (j := j) _ hy.symm]
            rfl
          · have hy := pI1 (c := (List.range j).all (fun i => decide (st (p1 + i) = st (q1 + i))) = true ∧ (fun i => decide (st (p1 + i) = st (q1 + i))) j = true) ⟨pAll_1 c_12, by simp only [decide_eq_true_eq]; exact c_33⟩
            refine gx_iconst (v := 1) C dX9_areLike_36 (by decide) ?_
            refine gx_goto (tgt := 41) C dX9_areLike_37 (by decide) ?_
            refine gx_istore_n C dX9_areLike_41 (by decide) ?_
            first | refine gx_iincN C dX9_areLike_42 rfl (by decide) ?_ | refine gx_iinc1 C dX9_areLike_42 rfl (by decide) ?_
            refine gx_goto (tgt := 5) C dX9_areLike_45 (by decide) ?_
            refine gx_V ?_ (ih (j + 1) (by omega) (by omega))
            rw [← pAll_s (f := (fun i => decide (st (p1 + i) = st (q1 + i)))) (j := j) _ hy.symm]
            rfl
  refine gx_iconst (v := 1) C dX9_areLike_0 (by decide) ?_
  refine gx_istore_n C dX9_areLike_1 (by decide) ?_
  refine gx_iconst (v := 0) C dX9_areLike_2 (by decide) ?_
  refine gx_istore C dX9_areLike_3 (by decide) ?_
  exact hloop 5 0 (by omega) (by omega)
set_option maxHeartbeats 600000 in
set_option maxRecDepth 100000 in
/-- X9_behind -/
theorem k9_behind (l : Launch) (D : gD) (A : Nat → Prop) (hs : Nat) {G : gH} {a : Nat} {z : MI} {st : Nat → Int32} (ho : gMob G a z) (hs1 : gMst D G (a + 1) 855 st) {p1 : Nat} {x1 : Int32} (hp : mkR st p1 x1) (hp8 : p1 + 3 < 855) : gM l yX9_behind wsX9_behind (gR 0) D A hs 0 0 [.ref a, .int (nI p1)] G (gPi fun x G' => x = pEnd x1 ∧ G' = G) := by
  refine gM_intro (by decide) rfl rfl (Nat.le_of_ble_eq_true rfl) ?_
  intro p e s m args below meth c C
  refine gx_aload_n C dX9_behind_0 rfl ?_
  refine gx_get C fd_X9_behind_7 (hG := ho) (hv := by rfl) dX9_behind_1 ?_
  refine gx_iload_n C dX9_behind_4 rfl ?_
  refine gx_iconst (v := nI 1) C dX9_behind_5 (by decide) ?_
  refine gx_iadd C dX9_behind_6 ?_
  first | refine gx_top (nI_add _ _) ?_ | skip
  refine gx_ialdN C (hG := hs1) (hk := by omega) (hn := by omega) dX9_behind_7 ?_
  rw [hp.2.1]
  refine gx_istore_n C dX9_behind_8 (by decide) ?_
  refine gx_aload_n C dX9_behind_9 rfl ?_
  refine gx_get C fd_X9_behind_7 (hG := ho) (hv := by rfl) dX9_behind_10 ?_
  refine gx_iload_n C dX9_behind_13 rfl ?_
  refine gx_iconst (v := nI 0) C dX9_behind_14 (by decide) ?_
  refine gx_iadd C dX9_behind_15 ?_
  first | refine gx_top (nI_add _ _) ?_ | skip
  refine gx_ialdN C (hG := hs1) (hk := by omega) (hn := by omega) dX9_behind_16 ?_
  rw [show st (p1 + 0) = _ from hp.1]
  refine gx_split 0 (fun c_17_0 => ?_) (fun c_17_0 => ?_)
  · refine gx_tableIn (off := 31) (tgt := 48) C dX9_behind_17 (by rw [c_17_0]; decide) (by rw [c_17_0]; decide) (by rw [c_17_0]; rfl) (by decide) ?_
    refine gx_aload_n C dX9_behind_48 rfl ?_
    refine gx_get C fd_X9_behind_7 (hG := ho) (hv := by rfl) dX9_behind_49 ?_
    refine gx_iload_n C dX9_behind_52 rfl ?_
    refine gx_iconst (v := nI 2) C dX9_behind_53 (by decide) ?_
    refine gx_iadd C dX9_behind_54 ?_
    first | refine gx_top (nI_add _ _) ?_ | skip
    refine gx_ialdN C (hG := hs1) (hk := by omega) (hn := by omega) dX9_behind_55 ?_
    rw [hp.2.2.1]
    refine gx_zret (mc := 0) C rfl ?_ dX9_behind_56
    exact ⟨_, rfl, by simp only [pEnd, c_17_0, if_true, if_false] <;> rfl, rfl⟩
  -- else
  refine gx_split 1 (fun c_17_1 => ?_) (fun c_17_1 => ?_)
  · refine gx_tableIn (off := 40) (tgt := 57) C dX9_behind_17 (by rw [c_17_1]; decide) (by rw [c_17_1]; decide) (by rw [c_17_1]; rfl) (by decide) ?_
    refine gx_iload_n C dX9_behind_57 rfl ?_
    refine gx_zret (mc := 0) C rfl ?_ dX9_behind_58
    exact ⟨_, rfl, by simp only [pEnd, c_17_0, c_17_1, if_true, if_false] <;> rfl, rfl⟩
  -- else
  refine gx_split 2 (fun c_17_2 => ?_) (fun c_17_2 => ?_)
  · refine gx_tableIn (off := 46) (tgt := 63) C dX9_behind_17 (by rw [c_17_2]; decide) (by rw [c_17_2]; decide) (by rw [c_17_2]; rfl) (by decide) ?_
    refine gx_iload_n C dX9_behind_63 rfl ?_
    refine gx_iconst (v := nI 1) C dX9_behind_64 (by decide) ?_
    refine gx_iadd C dX9_behind_65 ?_
    first | refine gx_top (nI_add _ _) ?_ | skip
    refine gx_zret (mc := 0) C rfl ?_ dX9_behind_66
    exact ⟨_, rfl, by simp only [pEnd, c_17_0, c_17_1, c_17_2, if_true, if_false] <;> rfl, rfl⟩
  -- else
  refine gx_split 3 (fun c_17_3 => ?_) (fun c_17_3 => ?_)
  · refine gx_tableIn (off := 42) (tgt := 59) C dX9_behind_17 (by rw [c_17_3]; decide) (by rw [c_17_3]; decide) (by rw [c_17_3]; rfl) (by decide) ?_
    refine gx_iload_n C dX9_behind_59 rfl ?_
    refine gx_iconst (v := nI 2) C dX9_behind_60 (by decide) ?_
    refine gx_iadd C dX9_behind_61 ?_
    first | refine gx_top (nI_add _ _) ?_ | skip
    refine gx_zret (mc := 0) C rfl ?_ dX9_behind_62
    exact ⟨_, rfl, by simp only [pEnd, c_17_0, c_17_1, c_17_2, c_17_3, if_true, if_false] <;> rfl, rfl⟩
  -- else
  refine gx_tableOut (tgt := 63) C dX9_behind_17 (by have q_0 := gz_ne (n := 0) (by decide) c_17_0; have q_1 := gz_ne (n := 1) (by decide) c_17_1; have q_2 := gz_ne (n := 2) (by decide) c_17_2; have q_3 := gz_ne (n := 3) (by decide) c_17_3; omega) (by decide) ?_
  refine gx_iload_n C dX9_behind_63 rfl ?_
  refine gx_iconst (v := nI 1) C dX9_behind_64 (by decide) ?_
  refine gx_iadd C dX9_behind_65 ?_
  first | refine gx_top (nI_add _ _) ?_ | skip
  refine gx_zret (mc := 0) C rfl ?_ dX9_behind_66
  exact ⟨_, rfl, by simp only [pEnd, c_17_0, c_17_1, c_17_2, c_17_3, if_true, if_false] <;> rfl, rfl⟩
