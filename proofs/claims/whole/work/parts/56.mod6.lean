/-! THE MODEL: its calls that tell -/
theorem pRn {z : Int32} {b : Nat} (hb : b < 1000) (h : ¬ pOut z 0 (nI b) = 1) : ∃ r : Nat, r < b + 1 ∧ z = nI r := by
  have h2 := pOut_0 h
  rcases pk_ix z (n := b + 1) (by omega) with q | q | q
  · exact absurd q (Int32.not_lt.mpr h2.1)
  · exact absurd (Int32.le_trans q h2.2) (nI_ge (by omega) (by omega))
  · exact q
theorem oSheet_s {i w : Int32} {t : TS} {j : Nat} (o1 : oIx i t.1.2.2.1.length = some j) : oSheet i w t = (if w = 0 then (oShj t j).1 else if w = 1 then (oShj t j).2.1 else if w = 2 then nI (oShj t j).2.2.length else if w = 3 then nI (pListN t.1.2.2.2.1.1 (oShj t j).2.2 (oShj t j).2.2.length) else if w = 4 then nI (pMeetN t.1.2.2.2.1.1 t.1.2.2.2.1.2.1 (oShj t j).2.2 (oShj t j).2.2.length) else -1) := by
  unfold oSheet
  rw [o1]
theorem lk_1 {cs : List Int32} {x : Int32} (h : ¬ (if x ∈ cs then lidx cs x else -4) < 0) : x ∈ cs := by
  by_cases q : x ∈ cs
  · exact q
  · rw [if_neg q] at h
    exact absurd (by decide) h
theorem lk_0 {cs : List Int32} {x : Int32} (hl : cs.length < 1000) (h : (if x ∈ cs then lidx cs x else -4) < 0) : ¬ x ∈ cs := fun q => by
  rw [if_pos q, lidx_in hl] at h
  exact h q
/-- of the first j marks ms of a sheet, those that the list has, or that meet an accepted one -/
def tB (li : ML) (ms : List Int32) (k j : Nat) : Nat := if k = 3 then pListN li.1 ms j else pMeetN li.1 li.2.1 ms j
theorem tB_3s {li : ML} {ms : List Int32} {k j : Nat} (h : k = 3) (q : ms.getD j 0 ∈ li.1) : tB li ms k (j + 1) = tB li ms k j + 1 := by
  unfold tB
  rw [if_pos h, if_pos h]
  exact (pC_s (f := fun i => decide (ms.getD i 0 ∈ li.1)) (n := j) (decide_eq_true q)).symm
theorem tB_3n {li : ML} {ms : List Int32} {k j : Nat} (h : k = 3) (q : ¬ ms.getD j 0 ∈ li.1) : tB li ms k (j + 1) = tB li ms k j + 0 := by
  unfold tB
  rw [if_pos h, if_pos h]
  exact (pC_n (f := fun i => decide (ms.getD i 0 ∈ li.1)) (n := j) (by simpa using q)).symm
theorem tB_4s {li : ML} {ms : List Int32} {k j : Nat} (h : ¬ k = 3) (q : pMeets li.1 li.2.1 (ms.getD j 0) = true) : tB li ms k (j + 1) = tB li ms k j + 1 := by
  unfold tB
  rw [if_neg h, if_neg h]
  exact (pC_s (f := fun i => pMeets li.1 li.2.1 (ms.getD i 0)) (n := j) q).symm
theorem tB_4n {li : ML} {ms : List Int32} {k j : Nat} (h : ¬ k = 3) (q : ¬ pMeets li.1 li.2.1 (ms.getD j 0) = true) : tB li ms k (j + 1) = tB li ms k j + 0 := by
  unfold tB
  rw [if_neg h, if_neg h]
  exact (pC_n (f := fun i => pMeets li.1 li.2.1 (ms.getD i 0)) (n := j) q).symm
theorem gMw_mk {D : gD} {G0 G : gH} {a : Nat} {t : TS} {st pa ty md rd : Nat → Int32} {w : Int32 × Int32 × Int32 × Int32} (hM : gMa D G0 G a (nI t.2.1.length, nI t.2.2.length, w) st pa ty md rd) (hR : sR st t.1) (hH : hiR pa t.2.1) (hT : tyR ty t.2.2) : gMw D G0 G a t := ⟨st, pa, ty, md, rd, w, hM, hR, hH, hT⟩
theorem oSheet_n {i w : Int32} {t : TS} (h : ¬ gIn i t.1.2.2.1.length = true) : oSheet i w t = -1 := by
  unfold oSheet
  rw [oIx_no h]
theorem oSheet_o {i w : Int32} {t : TS} (h : pOut w 0 4 = 1) : oSheet i w t = -1 := by
  unfold oSheet
  cases oIx i t.1.2.2.1.length with
  | none => rfl
  | some j =>
    have n0 : ∀ x : Int32, pOut x 0 4 = 0 → ¬ w = x := fun x hx q => by
      subst q
      rw [hx] at h
      exact absurd h (by decide)
    show (if w = 0 then _ else _) = _
    rw [if_neg (n0 0 (by decide)), if_neg (n0 1 (by decide)), if_neg (n0 2 (by decide)), if_neg (n0 3 (by decide)), if_neg (n0 4 (by decide))]
theorem oWritten_s {i k w : Int32} {t : TS} {j : Nat} (o1 : oIx i t.1.2.2.1.length = some j) : oWritten i k w t = (if k < 0 ∨ pOut w 0 4 = 1 then -1 else if ¬ k < nI (oShj t j).2.2.length then -4 else if w < 4 then pPart (lget (oShj t j).2.2 k) w else if lidx t.1.2.2.2.1.1 (lget (oShj t j).2.2 k) < 0 then -4 else lidx t.1.2.2.2.1.1 (lget (oShj t j).2.2 k)) := by
  unfold oWritten
  rw [o1]
theorem lk_e {cs : List Int32} {x : Int32} (hl : cs.length < 1000) : (if x ∈ cs then lidx cs x else -4) = (if lidx cs x < 0 then -4 else lidx cs x) := by
  by_cases q : x ∈ cs
  · rw [if_pos q, if_neg (fun y => (lidx_in hl).mp y q)]
  · rw [if_neg q, if_pos ((lidx_in hl).mpr q)]
theorem cb_X9_sheetTold__X9_of : gCb yX9_of cX9_of 3 (some .int) wsX9_of (gR 0) (gR 4) 0 0 2 := ⟨rfl, rfl, rfl, by decide +kernel, by decide⟩
theorem cb_X9_sheetTold__X9_markOf : gCb yX9_markOf cX9_markOf 2 (some .int) wsX9_markOf (gR 0) (gR 4) 0 0 2 := ⟨rfl, rfl, rfl, by decide +kernel, by decide⟩
theorem cb_X9_sheetTold__X9_isBarred : gCb yX9_isBarred cX9_isBarred 4 (some .boolean) wsX9_isBarred (gR 3) (gR 4) 0 0 1 := ⟨rfl, rfl, rfl, by decide +kernel, by decide⟩
theorem cb_X9_sheetTold__X9_likeOf : gCb yX9_likeOf cX9_likeOf 3 (some .int) wsX9_likeOf (gR 1) (gR 4) 0 0 1 := ⟨rfl, rfl, rfl, by decide +kernel, by decide⟩
theorem cb_X9_sheet__X9_isSheet : gCb yX9_isSheet cX9_isSheet 2 (some .boolean) wsX9_isSheet (gR 1) (gR 5) 0 0 1 := ⟨rfl, rfl, rfl, by decide +kernel, by decide⟩
theorem cb_X9_sheet__X9_in : gCb yX9_in cX9_in 3 (some .boolean) wsX9_in (gR 0) (gR 5) 0 0 3 := ⟨rfl, rfl, rfl, by decide +kernel, by decide⟩
theorem cb_X9_sheet__X9_sheetTold : gCb yX9_sheetTold cX9_sheetTold 6 (some .int) wsX9_sheetTold (gR 4) (gR 5) 0 0 2 := ⟨rfl, rfl, rfl, by decide +kernel, by decide⟩
theorem cb_X9_written__X9_isSheet : gCb yX9_isSheet cX9_isSheet 2 (some .boolean) wsX9_isSheet (gR 1) (gR 2) 0 0 1 := ⟨rfl, rfl, rfl, by decide +kernel, by decide⟩
theorem cb_X9_written__X9_in : gCb yX9_in cX9_in 3 (some .boolean) wsX9_in (gR 0) (gR 2) 0 0 3 := ⟨rfl, rfl, rfl, by decide +kernel, by decide⟩
theorem cb_X9_written__X9_of : gCb yX9_of cX9_of 3 (some .int) wsX9_of (gR 0) (gR 2) 0 0 2 := ⟨rfl, rfl, rfl, by decide +kernel, by decide⟩
theorem cb_X9_written__X9_markOf : gCb yX9_markOf cX9_markOf 2 (some .int) wsX9_markOf (gR 0) (gR 2) 0 0 2 := ⟨rfl, rfl, rfl, by decide +kernel, by decide⟩
theorem cb_X9_written__X9_numberOf : gCb yX9_numberOf cX9_numberOf 5 (some .int) wsX9_numberOf (gR 0) (gR 2) 0 0 2 := ⟨rfl, rfl, rfl, by decide +kernel, by decide⟩
theorem cb_X9_written__X9_likeOf : gCb yX9_likeOf cX9_likeOf 3 (some .int) wsX9_likeOf (gR 1) (gR 2) 0 0 1 := ⟨rfl, rfl, rfl, by decide +kernel, by decide⟩
theorem cb_X9_against__X9_isMark : gCb yX9_isMark cX9_isMark 2 (some .boolean) wsX9_isMark (gR 1) (gR 3) 0 0 1 := ⟨rfl, rfl, rfl, by decide +kernel, by decide⟩
theorem cb_X9_against__X9_listed : gCb yX9_listed cX9_listed 1 (some .int) wsX9_listed (gR 0) (gR 3) 0 0 1 := ⟨rfl, rfl, rfl, by decide +kernel, by decide⟩
theorem cb_X9_against__X9_areAgainst : gCb yX9_areAgainst cX9_areAgainst 5 (some .boolean) wsX9_areAgainst (gR 2) (gR 3) 0 0 2 := ⟨rfl, rfl, rfl, by decide +kernel, by decide⟩
theorem cb_X9_reader__X9_isReader : gCb yX9_isReader cX9_isReader 1 (some .boolean) wsX9_isReader (gR 1) (gR 2) 0 0 1 := ⟨rfl, rfl, rfl, by decide +kernel, by decide⟩
theorem cb_X9_reader__X9_in : gCb yX9_in cX9_in 3 (some .boolean) wsX9_in (gR 0) (gR 2) 0 0 3 := ⟨rfl, rfl, rfl, by decide +kernel, by decide⟩
theorem cb_X9_reader__X9_isBusy : gCb yX9_isBusy cX9_isBusy 4 (some .boolean) wsX9_isBusy (gR 1) (gR 2) 0 0 1 := ⟨rfl, rfl, rfl, by decide +kernel, by decide⟩
set_option maxRecDepth 20000 in
theorem in_X9_reader_X9 : ∀ w ∈ wsX90, w ∈ wsX9_reader := by decide +kernel
set_option maxRecDepth 20000 in
theorem fd_X9_reader_7 : gFd wsX9_reader RX9 7 8 RX9 TX9 11 0 := ⟨in_X9_reader_X9, rfl, by decide, by decide +kernel⟩
set_option maxHeartbeats 600000 in
set_option maxRecDepth 100000 in
/-- X9_sheetTold -/
theorem k9_sheetTold (l : Launch) (D : gD) (A : Nat → Prop) (hs : Nat) {G : gH} {a : Nat} {z : MI} {st : Nat → Int32} (ho : gMob G a z) (hs1 : gMst D G (a + 1) 855 st) {t : TS} (hR : sR st t.1) {j0 k : Nat} (hj0 : j0 < t.1.2.2.1.length) (hk : k < 5) : gM l yX9_sheetTold wsX9_sheetTold (gR 4) D A hs 0 0 [.ref a, .int (nI j0), .int (nI k)] G (gPi fun x G' => x = oSheet (nI j0) (nI k) t ∧ G' = G) := by
  refine gM_intro (by decide) rfl rfl (Nat.le_of_ble_eq_true rfl) ?_
  intro p e s m args below meth c C
  have l2 := hR.2.2.1.2.1
  have l3 := hR.2.2.2.1.2.1
  have sj := hR.2.2.1.2.2 j0 hj0
  have m8 := sj.2.2.2.1
  have m8 : (oShj t j0).2.2.length ≤ 8 := m8
  have o1 : oIx (nI j0) t.1.2.2.1.length = some j0 := oIx_in hj0 (by omega)
  have e0 := oSheet_s (w := nI k) o1
  have hend : ¬ k < 3 → oSheet (nI j0) (nI k) t = nI (tB t.1.2.2.2.1 (oShj t j0).2.2 k (oShj t j0).2.2.length) := by
    intro h3
    rw [e0]
    rcases (show k = 3 ∨ k = 4 by omega) with rfl | rfl
    · rw [if_neg (by decide), if_neg (by decide), if_neg (by decide), if_pos (by decide)]
      rfl
    · rw [if_neg (by decide), if_neg (by decide), if_neg (by decide), if_neg (by decide), if_pos (by decide)]
      rfl
  have hone : ¬ k < 3 → gX p l e (gR 4) s m args below meth c D A 6 hs 0 0 (MQ below (gQ D A hs 0 (gPi fun x G' => x = oSheet (nI j0) (nI k) t ∧ G' = G)) args s 0 0 A) G [some (.ref a), some (.int (nI j0)), some (.int (nI k)), some (.int (nI 0)), some (.int (nI 0)), none] 17 [] := by
    intro hk3
    have hloop : ∀ (n j : Nat) (o : Option Value), (oShj t j0).2.2.length < j + n → j ≤ (oShj t j0).2.2.length → gX p l e (gR 4) s m args below meth c D A 6 hs 0 0 (MQ below (gQ D A hs 0 (gPi fun x G' => x = oSheet (nI j0) (nI k) t ∧ G' = G)) args s 0 0 A) G [some (.ref a), some (.int (nI j0)), some (.int (nI k)), some (.int (nI (tB t.1.2.2.2.1 (oShj t j0).2.2 k j))), some (.int (nI j)), o] 17 [] := by
      intro n
      induction n with
      | zero => intro j o hm hj0; exact absurd hm (by omega)
      | succ n ih =>
        intro j o hm hj0
        
        refine gx_iload C dX9_sheetTold_17 rfl ?_
        refine gx_aload_n C dX9_sheetTold_19 rfl ?_
        refine gx_iload_n C dX9_sheetTold_20 rfl ?_
        refine gx_iconst (v := nI 2) C dX9_sheetTold_21 (by decide) ?_
        refine gx_callV (ci := 8) (T := TX9) (N := 11) C (k9_of l D A hs ho hs1 j0 2 (by omega)) cb_X9_sheetTold__X9_of gX9_sheetTold_X9_of rfl (hG := ho) rfl rfl (Nat.le_of_ble_eq_true rfl) ⟨Nat.le_refl _, Nat.le_refl _⟩ dX9_sheetTold_22 (gx_ki fun r_22 G_22 h_22 => ?_)
        obtain ⟨rfl, rfl⟩ := h_22
        rw [show st (127 + 35 * j0 + 2) = _ from sj.2.2.1]
        refine gx_icmp_ge (tgt := 81) C dX9_sheetTold_25 (by decide) (fun c_25 => ?_) (fun c_25 => ?_)
        · have hj : ¬ j < (oShj t j0).2.2.length := fun q => nI_ge q (by omega) c_25
          refine gx_iload_n C dX9_sheetTold_81 rfl ?_
          refine gx_zret (mc := 0) C rfl ?_ dX9_sheetTold_82
          have j8 : j = (oShj t j0).2.2.length := by omega
          subst j8
          exact ⟨_, rfl, (hend hk3).symm, rfl⟩
        · have hj : j < (oShj t j0).2.2.length := by
            rcases Nat.lt_or_ge (j) ((oShj t j0).2.2.length) with q | q
            · exact q
            · exact absurd (nI_le q (by omega)) c_25
          refine gx_iload_n C dX9_sheetTold_28 rfl ?_
          refine gx_iload C dX9_sheetTold_29 rfl ?_
          refine gx_callS C (k9_markOf l D A hs j0 j) cb_X9_sheetTold__X9_markOf gX9_sheetTold_X9_markOf rfl rfl (Nat.le_of_ble_eq_true rfl) ⟨Nat.le_refl _, Nat.le_refl _⟩ dX9_sheetTold_31 (gx_ki fun r_31 G_31 h_31 => ?_)
          obtain ⟨rfl, rfl⟩ := h_31
          refine gx_istore C dX9_sheetTold_34 (by decide) ?_
          have mj := sj.2.2.2.2.2.2 j hj
          refine gx_iload_n C dX9_sheetTold_36 rfl ?_
          refine gx_iload_n C dX9_sheetTold_37 rfl ?_
          refine gx_iconst (v := nI 3) C dX9_sheetTold_38 (by decide) ?_
          refine gx_icmp_ne (tgt := 59) C dX9_sheetTold_39 (by decide) (fun c_39 => ?_) (fun c_39 => ?_)
          · have k3 : ¬ k = 3 := fun q => c_39 (by rw [q])
            refine gx_aload_n C dX9_sheetTold_59 rfl ?_
            refine gx_iload C dX9_sheetTold_60 rfl ?_
            refine gx_callV (ci := 8) (T := TX9) (N := 11) C (k9_isBarred l D A hs ho hs1 hR mj.1 (by omega) mj.2) cb_X9_sheetTold__X9_isBarred gX9_sheetTold_X9_isBarred rfl (hG := ho) rfl rfl (Nat.le_of_ble_eq_true rfl) ⟨Nat.le_refl _, Nat.le_refl _⟩ dX9_sheetTold_62 (gx_ki fun r_62 G_62 h_62 => ?_)
            obtain ⟨rfl, rfl⟩ := h_62
            refine gx_if_eq (tgt := 72) C dX9_sheetTold_65 (by decide) (fun c_65 => ?_) (fun c_65 => ?_)
            · have hx := tB_4n (li := t.1.2.2.2.1) (ms := (oShj t j0).2.2) k3 (gz_if0 c_65)
              refine gx_iconst (v := nI 0) C dX9_sheetTold_72 (by decide) ?_
              refine gx_iadd C dX9_sheetTold_73 ?_
              first | refine gx_top (nI_add _ _) ?_ | skip
              refine gx_istore_n C dX9_sheetTold_74 (by decide) ?_
              first | refine gx_iincN C dX9_sheetTold_75 rfl (by decide) ?_ | refine gx_iinc1 C dX9_sheetTold_75 rfl (by decide) ?_
              refine gx_goto (tgt := 17) C dX9_sheetTold_78 (by decide) ?_
              refine gx_V ?_ (ih (j + 1) (some (.int (nI (127 + 35 * j0 + 3 + 4 * j)))) (by omega) (by omega))
              rw [hx]
              rfl
            · have hx := tB_4s (li := t.1.2.2.2.1) (ms := (oShj t j0).2.2) k3 (gz_if1 c_65)
              refine gx_iconst (v := nI 1) C dX9_sheetTold_68 (by decide) ?_
              refine gx_goto (tgt := 73) C dX9_sheetTold_69 (by decide) ?_
              refine gx_iadd C dX9_sheetTold_73 ?_
              first | refine gx_top (nI_add _ _) ?_ | skip
              refine gx_istore_n C dX9_sheetTold_74 (by decide) ?_
              first | refine gx_iincN C dX9_sheetTold_75 rfl (by decide) ?_ | refine gx_iinc1 C dX9_sheetTold_75 rfl (by decide) ?_
              refine gx_goto (tgt := 17) C dX9_sheetTold_78 (by decide) ?_
              refine gx_V ?_ (ih (j + 1) (some (.int (nI (127 + 35 * j0 + 3 + 4 * j)))) (by omega) (by omega))
              rw [hx]
              rfl
          · have k3 : k = 3 := (nI_eq (by omega) (by omega)).mp c_39
            refine gx_aload_n C dX9_sheetTold_42 rfl ?_
            refine gx_iload C dX9_sheetTold_43 rfl ?_
            refine gx_callV (ci := 8) (T := TX9) (N := 11) C (k9_likeOf l D A hs ho hs1 hR mj.1 (by omega)) cb_X9_sheetTold__X9_likeOf gX9_sheetTold_X9_likeOf rfl (hG := ho) rfl rfl (Nat.le_of_ble_eq_true rfl) ⟨Nat.le_refl _, Nat.le_refl _⟩ dX9_sheetTold_45 (gx_ki fun r_45 G_45 h_45 => ?_)
            obtain ⟨rfl, rfl⟩ := h_45
            refine gx_if_lt (tgt := 55) C dX9_sheetTold_48 (by decide) (fun c_48 => ?_) (fun c_48 => ?_)
            · have hx := tB_3n (li := t.1.2.2.2.1) (ms := (oShj t j0).2.2) k3 (lk_0 (by omega) c_48)
              refine gx_iconst (v := nI 0) C dX9_sheetTold_55 (by decide) ?_
              refine gx_goto (tgt := 73) C dX9_sheetTold_56 (by decide) ?_
              refine gx_iadd C dX9_sheetTold_73 ?_
              first | refine gx_top (nI_add _ _) ?_ | skip
              refine gx_istore_n C dX9_sheetTold_74 (by decide) ?_
              first | refine gx_iincN C dX9_sheetTold_75 rfl (by decide) ?_ | refine gx_iinc1 C dX9_sheetTold_75 rfl (by decide) ?_
              refine gx_goto (tgt := 17) C dX9_sheetTold_78 (by decide) ?_
              refine gx_V ?_ (ih (j + 1) (some (.int (nI (127 + 35 * j0 + 3 + 4 * j)))) (by omega) (by omega))
              rw [hx]
              rfl
            · have hx := tB_3s (li := t.1.2.2.2.1) (ms := (oShj t j0).2.2) k3 (lk_1 c_48)
              refine gx_iconst (v := nI 1) C dX9_sheetTold_51 (by decide) ?_
              refine gx_goto (tgt := 73) C dX9_sheetTold_52 (by decide) ?_
              refine gx_iadd C dX9_sheetTold_73 ?_
              first | refine gx_top (nI_add _ _) ?_ | skip
              refine gx_istore_n C dX9_sheetTold_74 (by decide) ?_
              first | refine gx_iincN C dX9_sheetTold_75 rfl (by decide) ?_ | refine gx_iinc1 C dX9_sheetTold_75 rfl (by decide) ?_
              refine gx_goto (tgt := 17) C dX9_sheetTold_78 (by decide) ?_
              refine gx_V ?_ (ih (j + 1) (some (.int (nI (127 + 35 * j0 + 3 + 4 * j)))) (by omega) (by omega))
              rw [hx]
              rfl
    refine gx_V ?_ (hloop ((oShj t j0).2.2.length + 1) 0 none (by omega) (by omega))
    rw [show tB t.1.2.2.2.1 (oShj t j0).2.2 k 0 = 0 from by unfold tB; split <;> rfl]
  refine gx_iload_n C dX9_sheetTold_0 rfl ?_
  refine gx_iconst (v := nI 3) C dX9_sheetTold_1 (by decide) ?_
  refine gx_icmp_ge (tgt := 12) C dX9_sheetTold_2 (by decide) (fun c_2 => ?_) (fun c_2 => ?_)
  · have hk3 : ¬ k < 3 := fun q => nI_ge q (by omega) c_2
    refine gx_iconst (v := 0) C dX9_sheetTold_12 (by decide) ?_
    refine gx_istore_n C dX9_sheetTold_13 (by decide) ?_
    refine gx_iconst (v := 0) C dX9_sheetTold_14 (by decide) ?_
    refine gx_istore C dX9_sheetTold_15 (by decide) ?_
    exact hone hk3
  · have hk3 : k < 3 := by
      rcases Nat.lt_or_ge (k) (3) with q | q
      · exact q
      · exact absurd (nI_le q (by omega)) c_2
    refine gx_aload_n C dX9_sheetTold_5 rfl ?_
    refine gx_iload_n C dX9_sheetTold_6 rfl ?_
    refine gx_iload_n C dX9_sheetTold_7 rfl ?_
    refine gx_callV (ci := 8) (T := TX9) (N := 11) C (k9_of l D A hs ho hs1 j0 k (by omega)) cb_X9_sheetTold__X9_of gX9_sheetTold_X9_of rfl (hG := ho) rfl rfl (Nat.le_of_ble_eq_true rfl) ⟨Nat.le_refl _, Nat.le_refl _⟩ dX9_sheetTold_8 (gx_ki fun r_8 G_8 h_8 => ?_)
    obtain ⟨rfl, rfl⟩ := h_8
    refine gx_zret (mc := 0) C rfl ?_ dX9_sheetTold_11
    refine ⟨_, rfl, ?_, rfl⟩
    rw [e0]
    rcases (show k = 0 ∨ k = 1 ∨ k = 2 by omega) with rfl | rfl | rfl
    · rw [if_pos (by decide)]
      exact sj.1
    · rw [if_neg (by decide), if_pos (by decide)]
      exact sj.2.1
    · rw [if_neg (by decide), if_neg (by decide), if_pos (by decide)]
      exact sj.2.2.1
set_option maxHeartbeats 600000 in
set_option maxRecDepth 100000 in
/-- X9_sheet -/
theorem k9_sheet (l : Launch) (D : gD) (A : Nat → Prop) (hs : Nat) {G : gH} {G0 : gH} {a : Nat} {t : TS} (h : gMw D G0 G a t) (i w : Int32) : gM l yX9_sheet wsX9_sheet (gR 5) D A hs 0 0 [.ref a, .int i, .int w] G (gPi fun x G' => x = oSheet i w t ∧ gMw D G0 G' a t) := by
  refine gM_intro (by decide) rfl rfl (Nat.le_of_ble_eq_true rfl) ?_
  intro p e s m args below meth c C
  obtain ⟨st, pa, ty, md, rd, w5, hM, hR, hH, hT⟩ := h
  have h4 := hH.1
  have ht := hT.1
  have l1 := hR.1.2.1
  have l2 := hR.2.2.1.2.1
  refine gx_aload_n C dX9_sheet_0 rfl ?_
  refine gx_iload_n C dX9_sheet_1 rfl ?_
  refine gx_callV (ci := 8) (T := TX9) (N := 11) C (k9_isSheet l D A hs hM.2.1 hM.2.2.1 hR i) cb_X9_sheet__X9_isSheet gX9_sheet_X9_isSheet rfl (hG := hM.2.1) rfl rfl (Nat.le_of_ble_eq_true rfl) ⟨Nat.le_refl _, Nat.le_refl _⟩ dX9_sheet_2 (gx_ki fun r_2 G_2 h_2 => ?_)
  obtain ⟨rfl, rfl⟩ := h_2
  refine gx_if_eq (tgt := 26) C dX9_sheet_5 (by decide) (fun c_5 => ?_) (fun c_5 => ?_)
  · have e : oSheet i w t = -1 := oSheet_n (gz_if0 c_5)
    refine gx_iconst (v := (-1)) C dX9_sheet_26 (by decide) ?_
    refine gx_zret (mc := 0) C rfl ?_ dX9_sheet_27
    first
    | exact ⟨_, rfl, e.symm, gMw_mk hM hR hH hT⟩
    | exact ⟨_, rfl, rfl, gMw_mk hM hR hH hT⟩
  · have hi := gz_if1 c_5
    obtain ⟨j, hj, rfl⟩ := gIn_ex hi (by omega)
    have o1 : oIx (nI j) t.1.2.2.1.length = some j := oIx_in hj (by omega)
    refine gx_iload_n C dX9_sheet_8 rfl ?_
    refine gx_iconst (v := 0) C dX9_sheet_9 (by decide) ?_
    refine gx_iconst (v := 4) C dX9_sheet_10 (by decide) ?_
    refine gx_callS C (k9_in l D A hs w 0 4) cb_X9_sheet__X9_in gX9_sheet_X9_in rfl rfl (Nat.le_of_ble_eq_true rfl) ⟨Nat.le_refl _, Nat.le_refl _⟩ dX9_sheet_11 (gx_ki fun r_11 G_11 h_11 => ?_)
    obtain ⟨rfl, rfl⟩ := h_11
    refine gx_if_eq (tgt := 26) C dX9_sheet_14 (by decide) (fun c_14 => ?_) (fun c_14 => ?_)
    · have e : oSheet (nI j) w t = -1 := oSheet_o (gz_o pOut_b c_14)
      refine gx_iconst (v := (-1)) C dX9_sheet_26 (by decide) ?_
      refine gx_zret (mc := 0) C rfl ?_ dX9_sheet_27
      first
      | exact ⟨_, rfl, e.symm, gMw_mk hM hR hH hT⟩
      | exact ⟨_, rfl, rfl, gMw_mk hM hR hH hT⟩
    · obtain ⟨k, hk, rfl⟩ := pRn (b := 4) (by decide) (gz_p c_14)
      refine gx_aload_n C dX9_sheet_17 rfl ?_
      refine gx_iload_n C dX9_sheet_18 rfl ?_
      refine gx_iload_n C dX9_sheet_19 rfl ?_
      refine gx_callV (ci := 8) (T := TX9) (N := 11) C (k9_sheetTold l D A hs hM.2.1 hM.2.2.1 hR hj hk) cb_X9_sheet__X9_sheetTold gX9_sheet_X9_sheetTold rfl (hG := hM.2.1) rfl rfl (Nat.le_of_ble_eq_true rfl) ⟨Nat.le_refl _, Nat.le_refl _⟩ dX9_sheet_20 (gx_ki fun r_20 G_20 h_20 => ?_)
      obtain ⟨rfl, rfl⟩ := h_20
      refine gx_goto (tgt := 27) C dX9_sheet_23 (by decide) ?_
      refine gx_zret (mc := 0) C rfl ?_ dX9_sheet_27
      first
      | exact ⟨_, rfl, e.symm, gMw_mk hM hR hH hT⟩
      | exact ⟨_, rfl, rfl, gMw_mk hM hR hH hT⟩
set_option maxHeartbeats 600000 in
set_option maxRecDepth 100000 in
/-- X9_written -/
theorem k9_written (l : Launch) (D : gD) (A : Nat → Prop) (hs : Nat) {G : gH} {G0 : gH} {a : Nat} {t : TS} (h : gMw D G0 G a t) (i k w : Int32) : gM l yX9_written wsX9_written (gR 2) D A hs 0 0 [.ref a, .int i, .int k, .int w] G (gPi fun x G' => x = oWritten i k w t ∧ gMw D G0 G' a t) := by
  refine gM_intro (by decide) rfl rfl (Nat.le_of_ble_eq_true rfl) ?_
  intro p e s m args below meth c C
  obtain ⟨st, pa, ty, md, rd, w5, hM, hR, hH, hT⟩ := h
  have h4 := hH.1
  have ht := hT.1
  have l1 := hR.1.2.1
  have l2 := hR.2.2.1.2.1
  have l3 := hR.2.2.2.1.2.1
  refine gx_aload_n C dX9_written_0 rfl ?_
  refine gx_iload_n C dX9_written_1 rfl ?_
  refine gx_callV (ci := 8) (T := TX9) (N := 11) C (k9_isSheet l D A hs hM.2.1 hM.2.2.1 hR i) cb_X9_written__X9_isSheet gX9_written_X9_isSheet rfl (hG := hM.2.1) rfl rfl (Nat.le_of_ble_eq_true rfl) ⟨Nat.le_refl _, Nat.le_refl _⟩ dX9_written_2 (gx_ki fun r_2 G_2 h_2 => ?_)
  obtain ⟨rfl, rfl⟩ := h_2
  refine gx_if_eq (tgt := 21) C dX9_written_5 (by decide) (fun c_5 => ?_) (fun c_5 => ?_)
  · have e : oWritten i k w t = -1 := by
      unfold oWritten
      rw [oIx_no (gz_if0 c_5)]
    refine gx_iconst (v := (-1)) C dX9_written_21 (by decide) ?_
    refine gx_zret (mc := 0) C rfl ?_ dX9_written_22
    exact ⟨_, rfl, e.symm, gMw_mk hM hR hH hT⟩
  · have hi := gz_if1 c_5
    obtain ⟨j, hj, rfl⟩ := gIn_ex hi (by omega)
    have o1 : oIx (nI j) t.1.2.2.1.length = some j := oIx_in hj (by omega)
    have e0 := oWritten_s (k := k) (w := w) o1
    refine gx_iload_n C dX9_written_8 rfl ?_
    refine gx_if_lt (tgt := 21) C dX9_written_9 (by decide) (fun c_9 => ?_) (fun c_9 => ?_)
    · have e : oWritten (nI j) k w t = -1 := by rw [e0, if_pos (Or.inl c_9)]
      refine gx_iconst (v := (-1)) C dX9_written_21 (by decide) ?_
      refine gx_zret (mc := 0) C rfl ?_ dX9_written_22
      exact ⟨_, rfl, e.symm, gMw_mk hM hR hH hT⟩
    · refine gx_iload_n C dX9_written_12 rfl ?_
      refine gx_iconst (v := 0) C dX9_written_13 (by decide) ?_
      refine gx_iconst (v := 4) C dX9_written_14 (by decide) ?_
      refine gx_callS C (k9_in l D A hs w 0 4) cb_X9_written__X9_in gX9_written_X9_in rfl rfl (Nat.le_of_ble_eq_true rfl) ⟨Nat.le_refl _, Nat.le_refl _⟩ dX9_written_15 (gx_ki fun r_15 G_15 h_15 => ?_)
      obtain ⟨rfl, rfl⟩ := h_15
      refine gx_if_ne (tgt := 23) C dX9_written_18 (by decide) (fun c_18 => ?_) (fun c_18 => ?_)
      · have e1 : ¬ (k < 0 ∨ pOut w 0 4 = 1) := fun q => q.elim c_9 (gz_p c_18)
        refine gx_iload_n C dX9_written_23 rfl ?_
        refine gx_aload_n C dX9_written_24 rfl ?_
        refine gx_iload_n C dX9_written_25 rfl ?_
        refine gx_iconst (v := nI 2) C dX9_written_26 (by decide) ?_
        refine gx_callV (ci := 8) (T := TX9) (N := 11) C (k9_of l D A hs hM.2.1 hM.2.2.1 j 2 (by omega)) cb_X9_written__X9_of gX9_written_X9_of rfl (hG := hM.2.1) rfl rfl (Nat.le_of_ble_eq_true rfl) ⟨Nat.le_refl _, Nat.le_refl _⟩ dX9_written_27 (gx_ki fun r_27 G_27 h_27 => ?_)
        obtain ⟨rfl, rfl⟩ := h_27
        have sj := hR.2.2.1.2.2 j hj
        have m8 : (oShj t j).2.2.length ≤ 8 := sj.2.2.2.1
        rw [show st (127 + 35 * j + 2) = nI (oShj t j).2.2.length from sj.2.2.1]
        refine gx_icmp_lt (tgt := 36) C dX9_written_30 (by decide) (fun c_30 => ?_) (fun c_30 => ?_)
        · rw [if_neg e1, if_neg (fun q => q c_30)] at e0
          obtain ⟨q, hq, rfl⟩ : ∃ q : Nat, q < (oShj t j).2.2.length ∧ k = nI q := by
            rcases pk_ix k (n := (oShj t j).2.2.length) (by omega) with y | y | y
            · exact absurd y c_9
            · exact absurd c_30 (Int32.not_lt.mpr y)
            · exact y
          obtain ⟨r, hr, rfl⟩ := pRn (b := 4) (by decide) (gz_p c_18)
          rw [lget_nI (by omega)] at e0
          have mq := sj.2.2.2.2.2.2 q hq
          refine gx_iload_n C dX9_written_36 rfl ?_
          refine gx_iload_n C dX9_written_37 rfl ?_
          refine gx_callS C (k9_markOf l D A hs j q) cb_X9_written__X9_markOf gX9_written_X9_markOf rfl rfl (Nat.le_of_ble_eq_true rfl) ⟨Nat.le_refl _, Nat.le_refl _⟩ dX9_written_38 (gx_ki fun r_38 G_38 h_38 => ?_)
          obtain ⟨rfl, rfl⟩ := h_38
          refine gx_istore C dX9_written_41 (by decide) ?_
          refine gx_iload_n C dX9_written_43 rfl ?_
          refine gx_iconst (v := nI 4) C dX9_written_44 (by decide) ?_
          refine gx_icmp_ne (tgt := 57) C dX9_written_45 (by decide) (fun c_45 => ?_) (fun c_45 => ?_)
          · have r4 : ¬ r = 4 := fun q => c_45 (by rw [q])
            rw [if_pos (show nI r < 4 from nI_lt (b := 4) (by omega) (by omega))] at e0
            refine gx_aload_n C dX9_written_57 rfl ?_
            refine gx_iload C dX9_written_58 rfl ?_
            refine gx_iload_n C dX9_written_60 rfl ?_
            refine gx_callV (ci := 8) (T := TX9) (N := 11) C (k9_numberOf l D A hs hM.2.1 hM.2.2.1 mq.1 (by omega) r (by omega)) cb_X9_written__X9_numberOf gX9_written_X9_numberOf rfl (hG := hM.2.1) rfl rfl (Nat.le_of_ble_eq_true rfl) ⟨Nat.le_refl _, Nat.le_refl _⟩ dX9_written_61 (gx_ki fun r_61 G_61 h_61 => ?_)
            obtain ⟨rfl, rfl⟩ := h_61
            refine gx_zret (mc := 0) C rfl ?_ dX9_written_64
            first
            | exact ⟨_, rfl, e0.symm, gMw_mk hM hR hH hT⟩
            | exact ⟨_, rfl, (lk_e (by omega)).trans e0.symm, gMw_mk hM hR hH hT⟩
          · have r4 : r = 4 := (nI_eq (by omega) (by omega)).mp c_45
            rw [if_neg (by rw [r4]; decide)] at e0
            refine gx_aload_n C dX9_written_48 rfl ?_
            refine gx_iload C dX9_written_49 rfl ?_
            refine gx_callV (ci := 8) (T := TX9) (N := 11) C (k9_likeOf l D A hs hM.2.1 hM.2.2.1 hR mq.1 (by omega)) cb_X9_written__X9_likeOf gX9_written_X9_likeOf rfl (hG := hM.2.1) rfl rfl (Nat.le_of_ble_eq_true rfl) ⟨Nat.le_refl _, Nat.le_refl _⟩ dX9_written_51 (gx_ki fun r_51 G_51 h_51 => ?_)
            obtain ⟨rfl, rfl⟩ := h_51
            refine gx_goto (tgt := 64) C dX9_written_54 (by decide) ?_
            refine gx_zret (mc := 0) C rfl ?_ dX9_written_64
            first
            | exact ⟨_, rfl, e0.symm, gMw_mk hM hR hH hT⟩
            | exact ⟨_, rfl, (lk_e (by omega)).trans e0.symm, gMw_mk hM hR hH hT⟩
        · have e : oWritten (nI j) k w t = -4 := by rw [e0, if_neg e1, if_pos c_30]
          refine gx_bipush (v := (-4)) C dX9_written_33 (by decide) ?_
          refine gx_zret (mc := 0) C rfl ?_ dX9_written_35
          exact ⟨_, rfl, e.symm, gMw_mk hM hR hH hT⟩
      · have e : oWritten (nI j) k w t = -1 := by rw [e0, if_pos (Or.inr (gz_o pOut_b c_18))]
        refine gx_iconst (v := (-1)) C dX9_written_21 (by decide) ?_
        refine gx_zret (mc := 0) C rfl ?_ dX9_written_22
        exact ⟨_, rfl, e.symm, gMw_mk hM hR hH hT⟩
set_option maxHeartbeats 600000 in
set_option maxRecDepth 100000 in
/-- X9_against -/
theorem k9_against (l : Launch) (D : gD) (A : Nat → Prop) (hs : Nat) {G : gH} {G0 : gH} {a : Nat} {t : TS} (h : gMw D G0 G a t) (u y : Int32) : gM l yX9_against wsX9_against (gR 3) D A hs 0 0 [.ref a, .int u, .int y] G (gPi fun x G' => x = oAgainst u y t ∧ gMw D G0 G' a t) := by
  refine gM_intro (by decide) rfl rfl (Nat.le_of_ble_eq_true rfl) ?_
  intro p e s m args below meth c C
  obtain ⟨st, pa, ty, md, rd, w, hM, hR, hH, hT⟩ := h
  have h4 := hH.1
  have ht := hT.1
  have l1 := hR.1.2.1
  have l2 := hR.2.2.1.2.1
  have l3 := hR.2.2.2.1.2.1
  refine gx_aload_n C dX9_against_0 rfl ?_
  refine gx_iload_n C dX9_against_1 rfl ?_
  refine gx_callV (ci := 8) (T := TX9) (N := 11) C (k9_isMark l D A hs hM.2.1 hM.2.2.1 hR u) cb_X9_against__X9_isMark gX9_against_X9_isMark rfl (hG := hM.2.1) rfl rfl (Nat.le_of_ble_eq_true rfl) ⟨Nat.le_refl _, Nat.le_refl _⟩ dX9_against_2 (gx_ki fun r_2 G_2 h_2 => ?_)
  obtain ⟨rfl, rfl⟩ := h_2
  refine gx_if_eq (tgt := 16) C dX9_against_5 (by decide) (fun c_5 => ?_) (fun c_5 => ?_)
  · have e : oAgainst u y t = -1 := if_pos (Or.inl (gz_if0 c_5))
    refine gx_iconst (v := (-1)) C dX9_against_16 (by decide) ?_
    refine gx_zret (mc := 0) C rfl ?_ dX9_against_17
    exact ⟨_, rfl, e.symm, gMw_mk hM hR hH hT⟩
  · refine gx_aload_n C dX9_against_8 rfl ?_
    refine gx_iload_n C dX9_against_9 rfl ?_
    refine gx_callV (ci := 8) (T := TX9) (N := 11) C (k9_isMark l D A hs hM.2.1 hM.2.2.1 hR y) cb_X9_against__X9_isMark gX9_against_X9_isMark rfl (hG := hM.2.1) rfl rfl (Nat.le_of_ble_eq_true rfl) ⟨Nat.le_refl _, Nat.le_refl _⟩ dX9_against_10 (gx_ki fun r_10 G_10 h_10 => ?_)
    obtain ⟨rfl, rfl⟩ := h_10
    refine gx_if_ne (tgt := 18) C dX9_against_13 (by decide) (fun c_13 => ?_) (fun c_13 => ?_)
    · have n1 := gz_if1 c_5
      have n2 := gz_if1 c_13
      have e0 : oAgainst u y t = pOpp (lget t.1.2.2.2.1.1 u) (lget t.1.2.2.2.1.1 y) := if_neg (fun q => q.elim (fun q => q n1) (fun q => q n2))
      obtain ⟨i, hi, rfl⟩ := gIn_ex n1 (by omega)
      obtain ⟨j, hj, rfl⟩ := gIn_ex n2 (by omega)
      rw [lget_nI (by omega), lget_nI (by omega)] at e0
      refine gx_aload_n C dX9_against_18 rfl ?_
      refine gx_iload_n C dX9_against_19 rfl ?_
      refine gx_callS C (k9_listed l D A hs i) cb_X9_against__X9_listed gX9_against_X9_listed rfl rfl (Nat.le_of_ble_eq_true rfl) ⟨Nat.le_refl _, Nat.le_refl _⟩ dX9_against_20 (gx_ki fun r_20 G_20 h_20 => ?_)
      obtain ⟨rfl, rfl⟩ := h_20
      refine gx_iload_n C dX9_against_23 rfl ?_
      refine gx_callS C (k9_listed l D A hs j) cb_X9_against__X9_listed gX9_against_X9_listed rfl rfl (Nat.le_of_ble_eq_true rfl) ⟨Nat.le_refl _, Nat.le_refl _⟩ dX9_against_24 (gx_ki fun r_24 G_24 h_24 => ?_)
      obtain ⟨rfl, rfl⟩ := h_24
      refine gx_callV (ci := 8) (T := TX9) (N := 11) C (k9_areAgainst l D A hs hM.2.1 hM.2.2.1 (hR.2.2.2.1.2.2.2.2.2.2 i hi).1 (hR.2.2.2.1.2.2.2.2.2.2 j hj).1 (by omega) (by omega) (hR.2.2.2.1.2.2.2.2.2.2 i hi).2.1 (hR.2.2.2.1.2.2.2.2.2.2 j hj).2.1) cb_X9_against__X9_areAgainst gX9_against_X9_areAgainst rfl (hG := hM.2.1) rfl rfl (Nat.le_of_ble_eq_true rfl) ⟨Nat.le_refl _, Nat.le_refl _⟩ dX9_against_27 (gx_ki fun r_27 G_27 h_27 => ?_)
      obtain ⟨rfl, rfl⟩ := h_27
      refine gx_if_eq (tgt := 37) C dX9_against_30 (by decide) (fun c_30 => ?_) (fun c_30 => ?_)
      · have e := e0.trans c_30
        refine gx_iconst (v := 0) C dX9_against_37 (by decide) ?_
        refine gx_zret (mc := 0) C rfl ?_ dX9_against_38
        exact ⟨_, rfl, e.symm, gMw_mk hM hR hH hT⟩
      · have e := e0.trans (pOpp_b.resolve_left c_30)
        refine gx_iconst (v := 1) C dX9_against_33 (by decide) ?_
        refine gx_goto (tgt := 38) C dX9_against_34 (by decide) ?_
        refine gx_zret (mc := 0) C rfl ?_ dX9_against_38
        exact ⟨_, rfl, e.symm, gMw_mk hM hR hH hT⟩
    · have e : oAgainst u y t = -1 := if_pos (Or.inr (gz_if0 c_13))
      refine gx_iconst (v := (-1)) C dX9_against_16 (by decide) ?_
      refine gx_zret (mc := 0) C rfl ?_ dX9_against_17
      exact ⟨_, rfl, e.symm, gMw_mk hM hR hH hT⟩
set_option maxHeartbeats 600000 in
set_option maxRecDepth 100000 in
/-- X9_reader -/
theorem k9_reader (l : Launch) (D : gD) (A : Nat → Prop) (hs : Nat) {G : gH} {G0 : gH} {a : Nat} {t : TS} (h : gMw D G0 G a t) (z y : Int32) : gM l yX9_reader wsX9_reader (gR 2) D A hs 0 0 [.ref a, .int z, .int y] G (gPi fun x G' => x = oReader z y t ∧ gMw D G0 G' a t) := by
  refine gM_intro (by decide) rfl rfl (Nat.le_of_ble_eq_true rfl) ?_
  intro p e s m args below meth c C
  obtain ⟨st, pa, ty, md, rd, w, hM, hR, hH, hT⟩ := h
  have h4 := hH.1
  have ht := hT.1
  have l1 := hR.1.2.1
  have l2 := hR.2.2.1.2.1
  refine gx_iload_n C dX9_reader_0 rfl ?_
  refine gx_callS C (k9_isReader l D A hs z) cb_X9_reader__X9_isReader gX9_reader_X9_isReader rfl rfl (Nat.le_of_ble_eq_true rfl) ⟨Nat.le_refl _, Nat.le_refl _⟩ dX9_reader_1 (gx_ki fun r_1 G_1 h_1 => ?_)
  obtain ⟨rfl, rfl⟩ := h_1
  refine gx_if_eq (tgt := 16) C dX9_reader_4 (by decide) (fun c_4 => ?_) (fun c_4 => ?_)
  · have e : oReader z y t = -1 := if_pos (gz_o pOut_b c_4)
    refine gx_iconst (v := (-1)) C dX9_reader_16 (by decide) ?_
    refine gx_zret (mc := 0) C rfl ?_ dX9_reader_17
    exact ⟨_, rfl, e.symm, gMw_mk hM hR hH hT⟩
  · have e1 := gz_p c_4
    obtain ⟨r, hr, rfl⟩ := pRd e1
    refine gx_iload_n C dX9_reader_7 rfl ?_
    refine gx_iconst (v := 0) C dX9_reader_8 (by decide) ?_
    refine gx_iconst (v := 3) C dX9_reader_9 (by decide) ?_
    refine gx_callS C (k9_in l D A hs y 0 3) cb_X9_reader__X9_in gX9_reader_X9_in rfl rfl (Nat.le_of_ble_eq_true rfl) ⟨Nat.le_refl _, Nat.le_refl _⟩ dX9_reader_10 (gx_ki fun r_10 G_10 h_10 => ?_)
    obtain ⟨rfl, rfl⟩ := h_10
    refine gx_if_ne (tgt := 18) C dX9_reader_13 (by decide) (fun c_13 => ?_) (fun c_13 => ?_)
    · obtain ⟨k, hk, rfl⟩ := pRn (b := 3) (by decide) (gz_p c_13)
      have ac := hR.2.2.2.2.1.2.2.2.2.2 r hr
      refine gx_iload_n C dX9_reader_18 rfl ?_
      refine gx_iconst (v := nI 3) C dX9_reader_19 (by decide) ?_
      refine gx_icmp_ge (tgt := 39) C dX9_reader_20 (by decide) (fun c_20 => ?_) (fun c_20 => ?_)
      · have k3 : ¬ k < 3 := fun q => nI_ge q (by omega) c_20
        obtain rfl : k = 3 := by omega
        have e0 : oReader (nI r) (nI 3) t = (if pBusy t.1.2.2.1 (nI r) = true then 1 else 0) := by rw [oReader, if_neg e1, if_neg (by decide), if_neg (by decide), if_neg (by decide), if_pos (by decide)]
        refine gx_aload_n C dX9_reader_39 rfl ?_
        refine gx_iload_n C dX9_reader_40 rfl ?_
        refine gx_callV (ci := 8) (T := TX9) (N := 11) C (k9_isBusy l D A hs hM.2.1 hM.2.2.1 hR (nI r)) cb_X9_reader__X9_isBusy gX9_reader_X9_isBusy rfl (hG := hM.2.1) rfl rfl (Nat.le_of_ble_eq_true rfl) ⟨Nat.le_refl _, Nat.le_refl _⟩ dX9_reader_41 (gx_ki fun r_41 G_41 h_41 => ?_)
        obtain ⟨rfl, rfl⟩ := h_41
        refine gx_if_eq (tgt := 51) C dX9_reader_44 (by decide) (fun c_44 => ?_) (fun c_44 => ?_)
        · have e := e0.trans c_44
          refine gx_iconst (v := 0) C dX9_reader_51 (by decide) ?_
          refine gx_zret (mc := 0) C rfl ?_ dX9_reader_52
          exact ⟨_, rfl, e.symm, gMw_mk hM hR hH hT⟩
        · have e := e0.trans (if_pos (gz_if1 c_44))
          refine gx_iconst (v := 1) C dX9_reader_47 (by decide) ?_
          refine gx_goto (tgt := 52) C dX9_reader_48 (by decide) ?_
          refine gx_zret (mc := 0) C rfl ?_ dX9_reader_52
          exact ⟨_, rfl, e.symm, gMw_mk hM hR hH hT⟩
      · have k3 : k < 3 := by
          rcases Nat.lt_or_ge (k) (3) with q | q
          · exact q
          · exact absurd (nI_le q (by omega)) c_20
        have e : oReader (nI r) (nI k) t = st (9 + 3 * r + k) := by
          rw [oReader, if_neg e1]
          rcases (show k = 0 ∨ k = 1 ∨ k = 2 by omega) with rfl | rfl | rfl
          · rw [if_pos (by decide), lget_nI (by omega)]
            exact ac.1.symm
          · rw [if_neg (by decide), if_pos (by decide), lget_nI (by omega)]
            exact ac.2.1.symm
          · rw [if_neg (by decide), if_neg (by decide), if_pos (by decide), lget_nI (by omega)]
            exact ac.2.2.symm
        refine gx_aload_n C dX9_reader_23 rfl ?_
        refine gx_get C fd_X9_reader_7 (hG := hM.2.1) (hv := by rfl) dX9_reader_24 ?_
        refine gx_bipush (v := nI 9) C dX9_reader_27 (by decide) ?_
        refine gx_iconst (v := nI 3) C dX9_reader_29 (by decide) ?_
        refine gx_iload_n C dX9_reader_30 rfl ?_
        refine gx_imul C dX9_reader_31 ?_
        first | refine gx_top (pk_mul _ _) ?_ | skip
        refine gx_iadd C dX9_reader_32 ?_
        first | refine gx_top (nI_add _ _) ?_ | skip
        refine gx_iload_n C dX9_reader_33 rfl ?_
        refine gx_iadd C dX9_reader_34 ?_
        first | refine gx_top (nI_add _ _) ?_ | skip
        refine gx_ialdN C (hG := (by first | exact hM.2.2.1 | exact hM.2.2.2.1 | exact hM.2.2.2.2.1 | exact hM.2.2.2.2.2.1 | exact hM.2.2.2.2.2.2)) (hk := by omega) (hn := by omega) dX9_reader_35 ?_
        refine gx_goto (tgt := 52) C dX9_reader_36 (by decide) ?_
        refine gx_zret (mc := 0) C rfl ?_ dX9_reader_52
        exact ⟨_, rfl, e.symm, gMw_mk hM hR hH hT⟩
    · have h1 := gz_o pOut_b c_13
      have n0 : ∀ x : Int32, pOut x 0 3 = 0 → ¬ y = x := fun x hx q => by
        subst q
        rw [hx] at h1
        exact absurd h1 (by decide)
      have e : oReader (nI r) y t = -1 := by rw [oReader, if_neg e1, if_neg (n0 0 (by decide)), if_neg (n0 1 (by decide)), if_neg (n0 2 (by decide)), if_neg (n0 3 (by decide))]
      refine gx_iconst (v := (-1)) C dX9_reader_16 (by decide) ?_
      refine gx_zret (mc := 0) C rfl ?_ dX9_reader_17
      exact ⟨_, rfl, e.symm, gMw_mk hM hR hH hT⟩
