/-! THE MODEL: what changes; its history -/
/-- the model at a since the world G0 -/
def gMa (D : gD) (G0 G : gH) (a : Nat) (z : MI) (st pa ty md rd : Nat → Int32) : Prop := gOut a 6 G0 G ∧ gMob G a z ∧ gMst D G (a + 1) 855 st ∧ gMst D G (a + 2) 3420 pa ∧ gMst D G (a + 3) 80 ty ∧ gMst D G (a + 4) 170 md ∧ gMst D G (a + 5) 36 rd
theorem gMob_fr {G : gH} {a b : Nat} {z : MI} {e : va_E} (h : gMob G a z) (hd : a ≠ b) : gMob (gU G b e) a z := by
  unfold gMob
  rw [gU_n hd]
  exact h
theorem gMst_fr {D : gD} {G : gH} {a b n : Nat} {f : Nat → Int32} {e : va_E} (h : gMst D G a n f) (hd : a ≠ b) : gMst D (gU G b e) a n f := by
  unfold gMst
  rw [gU_n hd]
  exact h
section GMA
variable {D : gD} {G0 G : gH} {a : Nat} {z z' : MI} {st pa ty md rd f : Nat → Int32} {e : va_E}
theorem gMa_ob (h : gMa D G0 G a z st pa ty md rd) (he : e = .inr (8, [.ref (a + 1), .ref (a + 2), .int z'.1, .ref (a + 3), .int z'.2.1, .ref (a + 4), .int z'.2.2.1, .int z'.2.2.2.1, .int z'.2.2.2.2.1, .ref (a + 5), .int z'.2.2.2.2.2])) : gMa D G0 (gU G a e) a z' st pa ty md rd := by
  obtain ⟨h0, h1, h2, h3, h4, h5, h6⟩ := h
  refine ⟨gOut_up h0 (by omega), ?_, gMst_fr h2 (by omega), gMst_fr h3 (by omega), gMst_fr h4 (by omega), gMst_fr h5 (by omega), gMst_fr h6 (by omega)⟩
  unfold gMob
  rw [gU_s, he]
theorem gMa_st (h : gMa D G0 G a z st pa ty md rd) : gMa D G0 (gU G (a + 1) (.inl (D.1.1 100, 855, .inl f))) a z f pa ty md rd := by
  obtain ⟨h0, h1, h2, h3, h4, h5, h6⟩ := h
  exact ⟨gOut_up h0 (by omega), gMob_fr h1 (by omega), gU_s, gMst_fr h3 (by omega), gMst_fr h4 (by omega), gMst_fr h5 (by omega), gMst_fr h6 (by omega)⟩
theorem gMa_pa (h : gMa D G0 G a z st pa ty md rd) : gMa D G0 (gU G (a + 2) (.inl (D.1.1 100, 3420, .inl f))) a z st f ty md rd := by
  obtain ⟨h0, h1, h2, h3, h4, h5, h6⟩ := h
  exact ⟨gOut_up h0 (by omega), gMob_fr h1 (by omega), gMst_fr h2 (by omega), gU_s, gMst_fr h4 (by omega), gMst_fr h5 (by omega), gMst_fr h6 (by omega)⟩
theorem gMa_ty (h : gMa D G0 G a z st pa ty md rd) : gMa D G0 (gU G (a + 3) (.inl (D.1.1 100, 80, .inl f))) a z st pa f md rd := by
  obtain ⟨h0, h1, h2, h3, h4, h5, h6⟩ := h
  exact ⟨gOut_up h0 (by omega), gMob_fr h1 (by omega), gMst_fr h2 (by omega), gMst_fr h3 (by omega), gU_s, gMst_fr h5 (by omega), gMst_fr h6 (by omega)⟩
theorem gMa_md (h : gMa D G0 G a z st pa ty md rd) : gMa D G0 (gU G (a + 4) (.inl (D.1.1 100, 170, .inl f))) a z st pa ty f rd := by
  obtain ⟨h0, h1, h2, h3, h4, h5, h6⟩ := h
  exact ⟨gOut_up h0 (by omega), gMob_fr h1 (by omega), gMst_fr h2 (by omega), gMst_fr h3 (by omega), gMst_fr h4 (by omega), gU_s, gMst_fr h6 (by omega)⟩
theorem gMa_rd (h : gMa D G0 G a z st pa ty md rd) : gMa D G0 (gU G (a + 5) (.inl (D.1.1 100, 36, .inl f))) a z st pa ty md f := by
  obtain ⟨h0, h1, h2, h3, h4, h5, h6⟩ := h
  exact ⟨gOut_up h0 (by omega), gMob_fr h1 (by omega), gMst_fr h2 (by omega), gMst_fr h3 (by omega), gMst_fr h4 (by omega), gMst_fr h5 (by omega), gU_s⟩
end GMA
section GMX
variable {p : Program} {l : Launch} {e : Env} {R : Room} {s : State} {m : MethodId} {args : Array Value} {below : List Frame} {meth : Method} {D : gD} {A : Nat → Prop} {nL hs cells slots : Nat} {Q : State → Prop} {G0 G : gH} {V : List (Option Value)} {pc : Nat} {rest : List Value} {c : Code} {a : Nat} {z : MI} {st pa ty md rd f : Nat → Int32}
theorem gx_stM (hM : gMa D G0 G a z st pa ty md rd) (kk : gMa D G0 (gU G (a + 1) (.inl (D.1.1 100, 855, .inl f))) a z f pa ty md rd → gX p l e R s m args below meth c D A nL hs cells slots Q (gU G (a + 1) (.inl (D.1.1 100, 855, .inl f))) V pc rest) : gX p l e R s m args below meth c D A nL hs cells slots Q (gU G (a + 1) (.inl (D.1.1 100, 855, .inl f))) V pc rest := kk (gMa_st hM)
theorem gx_paM (hM : gMa D G0 G a z st pa ty md rd) (kk : gMa D G0 (gU G (a + 2) (.inl (D.1.1 100, 3420, .inl f))) a z st f ty md rd → gX p l e R s m args below meth c D A nL hs cells slots Q (gU G (a + 2) (.inl (D.1.1 100, 3420, .inl f))) V pc rest) : gX p l e R s m args below meth c D A nL hs cells slots Q (gU G (a + 2) (.inl (D.1.1 100, 3420, .inl f))) V pc rest := kk (gMa_pa hM)
theorem gx_tyM (hM : gMa D G0 G a z st pa ty md rd) (kk : gMa D G0 (gU G (a + 3) (.inl (D.1.1 100, 80, .inl f))) a z st pa f md rd → gX p l e R s m args below meth c D A nL hs cells slots Q (gU G (a + 3) (.inl (D.1.1 100, 80, .inl f))) V pc rest) : gX p l e R s m args below meth c D A nL hs cells slots Q (gU G (a + 3) (.inl (D.1.1 100, 80, .inl f))) V pc rest := kk (gMa_ty hM)
theorem gx_mdM (hM : gMa D G0 G a z st pa ty md rd) (kk : gMa D G0 (gU G (a + 4) (.inl (D.1.1 100, 170, .inl f))) a z st pa ty f rd → gX p l e R s m args below meth c D A nL hs cells slots Q (gU G (a + 4) (.inl (D.1.1 100, 170, .inl f))) V pc rest) : gX p l e R s m args below meth c D A nL hs cells slots Q (gU G (a + 4) (.inl (D.1.1 100, 170, .inl f))) V pc rest := kk (gMa_md hM)
theorem gx_rdM (hM : gMa D G0 G a z st pa ty md rd) (kk : gMa D G0 (gU G (a + 5) (.inl (D.1.1 100, 36, .inl f))) a z st pa ty md f → gX p l e R s m args below meth c D A nL hs cells slots Q (gU G (a + 5) (.inl (D.1.1 100, 36, .inl f))) V pc rest) : gX p l e R s m args below meth c D A nL hs cells slots Q (gU G (a + 5) (.inl (D.1.1 100, 36, .inl f))) V pc rest := kk (gMa_rd hM)
end GMX
theorem iOk_mono {z : Int32} {n k : Nat} (h : iOk z n) (hk : n ≤ k) : iOk z k := by
  refine ⟨?_, h.2⟩
  rcases h.1 with ⟨h0, h1, h2⟩ | ⟨h0, h1⟩ | ⟨h0, h1⟩ | ⟨h0, h1⟩ | ⟨h0, h1⟩ | ⟨h0, h1⟩
  · exact Or.inl ⟨h0, h1, by omega⟩
  · exact Or.inr (Or.inl ⟨h0, by omega⟩)
  · exact Or.inr (Or.inr (Or.inl ⟨h0, by omega⟩))
  · exact Or.inr (Or.inr (Or.inr (Or.inl ⟨h0, by omega⟩)))
  · exact Or.inr (Or.inr (Or.inr (Or.inr (Or.inl ⟨h0, by omega⟩))))
  · exact Or.inr (Or.inr (Or.inr (Or.inr (Or.inr ⟨h0, by omega⟩))))
theorem mkR_cg {st f : Nat → Int32} {p : Nat} {z : Int32} (h : mkR st p z) (e : ∀ i : Nat, i < 4 → f (p + i) = st (p + i)) : mkR f p z := by
  obtain ⟨h0, h1, h2, h3⟩ := h
  refine ⟨?_, ?_, ?_, ?_⟩
  · rw [← h0]; exact e 0 (by decide)
  · rw [← h1]; exact e 1 (by decide)
  · rw [← h2]; exact e 2 (by decide)
  · rw [← h3]; exact e 3 (by decide)
theorem shR_cg {st f : Nat → Int32} {p n k : Nat} {c : SH} (h : shR st p c n) (hk : n ≤ k) (e : ∀ i : Nat, i < 35 → f (p + i) = st (p + i)) : shR f p c k := by
  obtain ⟨h0, h1, h2, h3, h4, h5, h6⟩ := h
  refine ⟨by rw [← h0]; exact e 0 (by decide), by rw [← h1]; exact e 1 (by decide), by rw [← h2]; exact e 2 (by decide), h3, h4, h5, fun i hi => ⟨mkR_cg (h6 i hi).1 ?_, iOk_mono (h6 i hi).2 hk⟩⟩
  intro j hj
  have := e (3 + 4 * i + j) (by omega)
  rw [show p + (3 + 4 * i + j) = p + 3 + 4 * i + j by omega] at this
  exact this
theorem sTx_cg {st f : Nat → Int32} {tx : List Int32} (h : sTx st tx) (e : ∀ q : Nat, q < 855 → q = 0 ∨ (27 ≤ q ∧ q < 127) → f q = st q) : sTx f tx := by
  obtain ⟨h0, h1, h2⟩ := h
  exact ⟨by rw [e 0 (by omega) (by omega)]; exact h0, h1, fun i hi => by rw [e (27 + i) (by omega) (by omega)]; exact h2 i hi⟩
theorem sSh_cg {st f : Nat → Int32} {sh : List SH} {n k : Nat} (h : sSh st sh n) (hk : n ≤ k) (e : ∀ q : Nat, q < 855 → q = 2 ∨ (127 ≤ q ∧ q < 407) → f q = st q) : sSh f sh k := by
  obtain ⟨h0, h1, h2⟩ := h
  exact ⟨by rw [e 2 (by omega) (by omega)]; exact h0, h1, fun i hi => shR_cg (h2 i hi) hk (fun j hj => e _ (by omega) (by omega))⟩
theorem sLi_cg {st f : Nat → Int32} {li : ML} {n k : Nat} (h : sLi st li n) (hk : n ≤ k) (e : ∀ q : Nat, q < 855 → q = 3 ∨ (407 ≤ q ∧ q < 855) → f q = st q) : sLi f li k := by
  obtain ⟨h0, h1, h2, h3, h4, h5, h6⟩ := h
  refine ⟨by rw [e 3 (by omega) (by omega)]; exact h0, h1, h2, h3, h4, h5, fun i hi => ?_⟩
  obtain ⟨g0, g1, g2, g3, g4, g5⟩ := h6 i hi
  refine ⟨mkR_cg g0 (fun j hj => e _ (by omega) (by omega)), iOk_mono g1 hk, ?_, g3, ?_, ?_⟩
  · rw [e _ (by omega) (by omega)]; exact g2
  · rw [e _ (by omega) (by omega)]; exact g4
  · rw [e _ (by omega) (by omega)]; exact g5
theorem sAc_cg {st f : Nat → Int32} {ac : ML} (h : sAc st ac) (e : ∀ q : Nat, q < 855 → 4 ≤ q ∧ q < 27 → f q = st q) : sAc f ac := by
  obtain ⟨h0, h1, h2, h3, h4, h5⟩ := h
  refine ⟨h0, h1, h2, h3, fun i hi => ?_, fun i hi => ?_⟩
  · rw [e _ (by omega) (by omega)]; exact h4 i hi
  · obtain ⟨g0, g1, g2⟩ := h5 i hi
    exact ⟨by rw [e _ (by omega) (by omega)]; exact g0, by rw [e _ (by omega) (by omega)]; exact g1, by rw [e _ (by omega) (by omega)]; exact g2⟩
theorem sR_cg {st f : Nat → Int32} {v : SV} (h : sR st v) (e : ∀ q : Nat, q < 855 → f q = st q) : sR f v := by
  obtain ⟨h0, h1, h2, h3, h4, h5, h6⟩ := h
  exact ⟨sTx_cg h0 (fun q hq _ => e q hq), by rw [e 1 (by omega)]; exact h1, sSh_cg h2 (Nat.le_refl _) (fun q hq _ => e q hq), sLi_cg h3 (Nat.le_refl _) (fun q hq _ => e q hq), sAc_cg h4 (fun q hq _ => e q hq), h5, h6⟩
def svD : SV := ([], 0, [], ([], [], [], []), ([], [], [], []))
def hiR (pa : Nat → Int32) (hi : List SV) : Prop := hi.length ≤ 4 ∧ ∀ i : Nat, i < hi.length → sR (fun q => pa (855 * i + q)) (hi.getD i svD)
def sft (pa : Nat → Int32) (j : Nat) : Nat → Int32 := fun q => if q < j then pa (q + 855) else pa q
def cpy (pa st : Nat → Int32) (b j : Nat) : Nat → Int32 := fun q => if b ≤ q ∧ q < b + j then st (q - b) else pa q
theorem sft_s {pa : Nat → Int32} {j : Nat} : upd (sft pa j) j (sft pa j (j + 855)) = sft pa (j + 1) := by
  funext q
  by_cases h : q = j
  · subst h
    rw [pk_us]
    unfold sft
    rw [if_neg (by omega), if_pos (by omega)]
  · rw [pk_un h]
    unfold sft
    by_cases h2 : q < j
    · rw [if_pos h2, if_pos (by omega)]
    · rw [if_neg h2, if_neg (by omega)]
theorem cpy_s {pa st : Nat → Int32} {b j : Nat} : upd (cpy pa st b j) (b + j) (st j) = cpy pa st b (j + 1) := by
  funext q
  by_cases h : q = b + j
  · subst h
    rw [pk_us]
    unfold cpy
    rw [if_pos (by omega), show b + j - b = j by omega]
  · rw [pk_un h]
    unfold cpy
    by_cases h2 : b ≤ q ∧ q < b + j
    · rw [if_pos h2, if_pos (by omega)]
    · rw [if_neg h2, if_neg (by omega)]
theorem cpy_0 {pa st : Nat → Int32} {b : Nat} : cpy pa st b 0 = pa := by
  funext q
  unfold cpy
  rw [if_neg (by omega)]
theorem sft_0 {pa : Nat → Int32} : sft pa 0 = pa := by
  funext q
  unfold sft
  rw [if_neg (by omega)]
theorem hiR_rec {pa st : Nat → Int32} {ho : List SV} {v : SV} {n : Nat} (h : hiR pa ho) (hn : n = ho.length) (h4 : n < 4) (hR : sR st v) : hiR (cpy pa st (855 * n) 855) (ho ++ [v]) := by
  subst hn
  refine ⟨by rw [List.length_append]; show ho.length + 1 ≤ 4; omega, fun i hi => ?_⟩
  rw [List.length_append] at hi
  have hi : i < ho.length + 1 := hi
  by_cases q : i < ho.length
  · rw [List.getD_eq_getElem?_getD, List.getElem?_append_left q, ← List.getD_eq_getElem?_getD]
    refine sR_cg (h.2 i q) (fun j hj => ?_)
    show cpy pa st (855 * ho.length) 855 (855 * i + j) = _
    unfold cpy
    rw [if_neg (by omega)]
  · have e : i = ho.length := by omega
    subst e
    rw [List.getD_eq_getElem?_getD, List.getElem?_append_right (Nat.le_refl _), Nat.sub_self]
    refine sR_cg hR (fun j hj => ?_)
    show cpy pa st (855 * ho.length) 855 (855 * ho.length + j) = _
    unfold cpy
    rw [if_pos (by omega), show 855 * ho.length + j - 855 * ho.length = j by omega]
theorem hiR_no {pa : Nat → Int32} {ho : List SV} (h : hiR pa ho) (h4 : ¬ ho.length = 4) : hiR pa (pDrop ho) ∧ ho.length = (pDrop ho).length := by
  rw [pDrop, if_neg h4]
  exact ⟨h, rfl⟩
theorem hiR_dr {pa : Nat → Int32} {ho : List SV} (h : hiR pa ho) (h4 : ho.length = 4) : hiR (sft pa 2565) (pDrop ho) ∧ 3 = (pDrop ho).length := by
  rw [pDrop, if_pos h4]
  have hl : (ho.drop 1).length = 3 := by rw [List.length_drop]; omega
  refine ⟨⟨by omega, fun i hi => ?_⟩, hl.symm⟩
  rw [hl] at hi
  rw [List.getD_eq_getElem?_getD, List.getElem?_drop, ← List.getD_eq_getElem?_getD]
  refine sR_cg (h.2 (1 + i) (by omega)) (fun j hj => ?_)
  show sft pa 2565 (855 * i + j) = pa (855 * (1 + i) + j)
  unfold sft
  rw [if_pos (by omega), show 855 * i + j + 855 = 855 * (1 + i) + j by omega]
def tyR (ty : Nat → Int32) (xs : List Int32) : Prop := xs.length ≤ 80 ∧ ∀ i : Nat, i < xs.length → ty i = xs.getD i 0 ∧ 32 ≤ xs.getD i 0 ∧ xs.getD i 0 ≤ 126
/-- the model at a is t -/
def gMw (D : gD) (G0 G : gH) (a : Nat) (t : TS) : Prop := ∃ (st pa ty md rd : Nat → Int32) (w : Int32 × Int32 × Int32 × Int32), gMa D G0 G a (nI t.2.1.length, nI t.2.2.length, w) st pa ty md rd ∧ sR st t.1 ∧ hiR pa t.2.1 ∧ tyR ty t.2.2
set_option maxRecDepth 20000 in
theorem in_X9_records_X9 : ∀ w ∈ wsX90, w ∈ wsX9_records := by decide +kernel
set_option maxRecDepth 20000 in
theorem fd_X9_records_25 : gFd wsX9_records RX9 25 8 RX9 TX9 11 2 := ⟨in_X9_records_X9, rfl, by decide, by decide +kernel⟩
set_option maxRecDepth 20000 in
theorem fd_X9_records_13 : gFd wsX9_records RX9 13 8 RX9 TX9 11 1 := ⟨in_X9_records_X9, rfl, by decide, by decide +kernel⟩
set_option maxRecDepth 20000 in
theorem fd_X9_records_7 : gFd wsX9_records RX9 7 8 RX9 TX9 11 0 := ⟨in_X9_records_X9, rfl, by decide, by decide +kernel⟩
set_option maxHeartbeats 600000 in
set_option maxRecDepth 100000 in
/-- X9_records -/
theorem k9_records (l : Launch) (D : gD) (A : Nat → Prop) (hs : Nat) {G : gH} {G0 : gH} {a : Nat} {zr : Int32 × Int32 × Int32 × Int32 × Int32} {st pa ty md rd : Nat → Int32} {hi : List SV} {v : SV} (hM : gMa D G0 G a (nI hi.length, zr) st pa ty md rd) (hH : hiR pa hi) (hR : sR st v) : gM l yX9_records wsX9_records (gR 0) D A hs 0 0 [.ref a] G (gPv fun G' => ∃ pa' : Nat → Int32, gMa D G0 G' a (nI (pRec hi v).length, zr) st pa' ty md rd ∧ hiR pa' (pRec hi v)) := by
  refine gM_intro (by decide) rfl rfl (Nat.le_of_ble_eq_true rfl) ?_
  intro p e s m args below meth c C
  have h4 := hH.1
  have htail : ∀ (n j : Nat) (G1 : gH) (n1 : Nat) (pa1 : Nat → Int32), 855 < j + n → j ≤ 855 → n1 = (pDrop hi).length ∧ n1 < 4 ∧ hiR pa1 (pDrop hi) ∧ gMa D G0 G1 a (nI n1, zr) st (cpy pa1 st (855 * n1) j) ty md rd → gX p l e (gR 0) s m args below meth c D A 2 hs 0 0 (MQ below (gQ D A hs 0 (gPv fun G' => ∃ pa' : Nat → Int32, gMa D G0 G' a (nI (pRec hi v).length, zr) st pa' ty md rd ∧ hiR pa' (pRec hi v))) args s 0 0 A) G1 [some (.ref a), some (.int (nI j))] 51 [] := by
    intro n
    induction n with
    | zero => intro j G1 n1 pa1 hm hj0 hI; exact absurd hm (by omega)
    | succ n ih =>
      intro j G1 n1 pa1 hm hj0 hI
      have hM := hI.2.2.2
      have n4 := hI.2.1
      refine gx_iload_n C dX9_records_51 rfl ?_
      refine gx_sipush (v := nI 855) C dX9_records_52 (by decide) ?_
      refine gx_icmp_ge (tgt := 85) C dX9_records_55 (by decide) (fun c_55 => ?_) (fun c_55 => ?_)
      · have hj : ¬ j < 855 := fun q => nI_ge q (by omega) c_55
        refine gx_aload_n C dX9_records_85 rfl ?_
        refine gx_dup C dX9_records_86 rfl ?_
        refine gx_get C fd_X9_records_25 (hG := hM.2.1) (hv := by rfl) dX9_records_87 ?_
        refine gx_iconst (v := nI 1) C dX9_records_90 (by decide) ?_
        refine gx_iadd C dX9_records_91 ?_
        first | refine gx_top (nI_add _ _) ?_ | skip
        refine gx_put C fd_X9_records_25 tyX9_ok nmX9 rfl rfl rfl (hG := hM.2.1) (hl := by exact Nat.le_of_ble_eq_true rfl) dX9_records_92 ?_
        have hM := gMa_ob (z' := (nI (n1 + 1), zr)) hM rfl
        refine gx_vret (mc := 0) C ?_ dX9_records_95
        have j8 : j = 855 := by omega
        subst j8
        have e : (pRec hi v).length = n1 + 1 := by rw [pRec, List.length_append, ← hI.1]; rfl
        exact ⟨rfl, _, by rw [e]; exact hM, hiR_rec hI.2.2.1 hI.1 n4 hR⟩
      · have hj : j < 855 := by
          rcases Nat.lt_or_ge (j) (855) with q | q
          · exact q
          · exact absurd (nI_le q (by omega)) c_55
        refine gx_aload_n C dX9_records_58 rfl ?_
        refine gx_get C fd_X9_records_13 (hG := hM.2.1) (hv := by rfl) dX9_records_59 ?_
        refine gx_sipush (v := nI 855) C dX9_records_62 (by decide) ?_
        refine gx_aload_n C dX9_records_65 rfl ?_
        refine gx_get C fd_X9_records_25 (hG := hM.2.1) (hv := by rfl) dX9_records_66 ?_
        refine gx_imul C dX9_records_69 ?_
        first | refine gx_top (pk_mul _ _) ?_ | skip
        refine gx_iload_n C dX9_records_70 rfl ?_
        refine gx_iadd C dX9_records_71 ?_
        first | refine gx_top (nI_add _ _) ?_ | skip
        refine gx_aload_n C dX9_records_72 rfl ?_
        refine gx_get C fd_X9_records_7 (hG := hM.2.1) (hv := by rfl) dX9_records_73 ?_
        refine gx_iload_n C dX9_records_76 rfl ?_
        refine gx_ialdN C (hG := (by first | exact hM.2.2.1 | exact hM.2.2.2.1 | exact hM.2.2.2.2.1 | exact hM.2.2.2.2.2.1 | exact hM.2.2.2.2.2.2)) (hk := by omega) (hn := by omega) dX9_records_77 ?_
        refine gx_iastN C (hG := (by first | exact hM.2.2.1 | exact hM.2.2.2.1 | exact hM.2.2.2.2.1 | exact hM.2.2.2.2.2.1 | exact hM.2.2.2.2.2.2)) (hk := by omega) (hn := by omega) dX9_records_78 ?_
        first | refine gx_iincN C dX9_records_79 rfl (by decide) ?_ | refine gx_iinc1 C dX9_records_79 rfl (by decide) ?_
        refine gx_goto (tgt := 51) C dX9_records_82 (by decide) ?_
        exact ih (j + 1) _ n1 pa1 (by omega) (by omega) ⟨hI.1, hI.2.1, hI.2.2.1, by rw [← cpy_s]; exact gMa_pa hM⟩
  have hone : hi.length = 4 → ∀ (G1 : gH), gMa D G0 G1 a (nI hi.length, zr) st pa ty md rd → gX p l e (gR 0) s m args below meth c D A 2 hs 0 0 (MQ below (gQ D A hs 0 (gPv fun G' => ∃ pa' : Nat → Int32, gMa D G0 G' a (nI (pRec hi v).length, zr) st pa' ty md rd ∧ hiR pa' (pRec hi v))) args s 0 0 A) G1 [some (.ref a), some (.int (nI 0))] 10 [] := by
    intro q4 G1 hM1
    have hloop : ∀ (n j : Nat) (G1 : gH), 2565 < j + n → j ≤ 2565 → gMa D G0 G1 a (nI hi.length, zr) st (sft pa j) ty md rd → gX p l e (gR 0) s m args below meth c D A 2 hs 0 0 (MQ below (gQ D A hs 0 (gPv fun G' => ∃ pa' : Nat → Int32, gMa D G0 G' a (nI (pRec hi v).length, zr) st pa' ty md rd ∧ hiR pa' (pRec hi v))) args s 0 0 A) G1 [some (.ref a), some (.int (nI j))] 10 [] := by
      intro n
      induction n with
      | zero => intro j G1 hm hj0 hI; exact absurd hm (by omega)
      | succ n ih =>
        intro j G1 hm hj0 hI
        have hM := hI
        refine gx_iload_n C dX9_records_10 rfl ?_
        refine gx_sipush (v := nI 2565) C dX9_records_11 (by decide) ?_
        refine gx_icmp_ge (tgt := 39) C dX9_records_14 (by decide) (fun c_14 => ?_) (fun c_14 => ?_)
        · have hj : ¬ j < 2565 := fun q => nI_ge q (by omega) c_14
          refine gx_aload_n C dX9_records_39 rfl ?_
          refine gx_dup C dX9_records_40 rfl ?_
          refine gx_get C fd_X9_records_25 (hG := hM.2.1) (hv := by rfl) dX9_records_41 ?_
          refine gx_iconst (v := nI 1) C dX9_records_44 (by decide) ?_
          refine gx_isub C dX9_records_45 ?_
          refine gx_top (y := nI 3) (by rw [q4]; exact pk_sub (a := 4) (b := 1) (by decide)) ?_
          refine gx_put C fd_X9_records_25 tyX9_ok nmX9 rfl rfl rfl (hG := hM.2.1) (hl := by exact Nat.le_of_ble_eq_true rfl) dX9_records_46 ?_
          have hM := gMa_ob (z' := (nI 3, zr)) hM rfl
          refine gx_iconst (v := 0) C dX9_records_49 (by decide) ?_
          refine gx_istore_n C dX9_records_50 (by decide) ?_
          have j8 : j = 2565 := by omega
          subst j8
          exact htail 856 0 _ 3 _ (by omega) (by omega) ⟨(hiR_dr hH q4).2, by omega, (hiR_dr hH q4).1, by rw [cpy_0]; exact hM⟩
        · have hj : j < 2565 := by
            rcases Nat.lt_or_ge (j) (2565) with q | q
            · exact q
            · exact absurd (nI_le q (by omega)) c_14
          refine gx_aload_n C dX9_records_17 rfl ?_
          refine gx_get C fd_X9_records_13 (hG := hM.2.1) (hv := by rfl) dX9_records_18 ?_
          refine gx_iload_n C dX9_records_21 rfl ?_
          refine gx_aload_n C dX9_records_22 rfl ?_
          refine gx_get C fd_X9_records_13 (hG := hM.2.1) (hv := by rfl) dX9_records_23 ?_
          refine gx_iload_n C dX9_records_26 rfl ?_
          refine gx_sipush (v := nI 855) C dX9_records_27 (by decide) ?_
          refine gx_iadd C dX9_records_30 ?_
          first | refine gx_top (nI_add _ _) ?_ | skip
          refine gx_ialdN C (hG := (by first | exact hM.2.2.1 | exact hM.2.2.2.1 | exact hM.2.2.2.2.1 | exact hM.2.2.2.2.2.1 | exact hM.2.2.2.2.2.2)) (hk := by omega) (hn := by omega) dX9_records_31 ?_
          refine gx_iastN C (hG := (by first | exact hM.2.2.1 | exact hM.2.2.2.1 | exact hM.2.2.2.2.1 | exact hM.2.2.2.2.2.1 | exact hM.2.2.2.2.2.2)) (hk := by omega) (hn := by omega) dX9_records_32 ?_
          first | refine gx_iincN C dX9_records_33 rfl (by decide) ?_ | refine gx_iinc1 C dX9_records_33 rfl (by decide) ?_
          refine gx_goto (tgt := 10) C dX9_records_36 (by decide) ?_
          exact ih (j + 1) _ (by omega) (by omega) (by rw [← sft_s]; exact gMa_pa hM)
    exact hloop 2566 0 G1 (by omega) (by omega) (by rw [sft_0]; exact hM1)
  refine gx_aload_n C dX9_records_0 rfl ?_
  refine gx_get C fd_X9_records_25 (hG := hM.2.1) (hv := by rfl) dX9_records_1 ?_
  refine gx_iconst (v := 4) C dX9_records_4 (by decide) ?_
  refine gx_icmp_ne (tgt := 49) C dX9_records_5 (by decide) (fun c_5 => ?_) (fun c_5 => ?_)
  · have q4 : ¬ hi.length = 4 := fun q => c_5 (by rw [q]; rfl)
    refine gx_iconst (v := 0) C dX9_records_49 (by decide) ?_
    refine gx_istore_n C dX9_records_50 (by decide) ?_
    exact htail 856 0 _ hi.length pa (by omega) (by omega) ⟨(hiR_no hH q4).2, by omega, (hiR_no hH q4).1, by rw [cpy_0]; exact hM⟩
  · have q4 : hi.length = 4 := (nI_eq (b := 4) (by omega) (by omega)).mp c_5
    refine gx_iconst (v := 0) C dX9_records_8 (by decide) ?_
    refine gx_istore_n C dX9_records_9 (by decide) ?_
    exact hone q4 _ hM
