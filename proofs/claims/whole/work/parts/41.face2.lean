/-! THE FACE: the list, readers, mark texts -/
theorem pOpp_b {a b : Int32} : pOpp a b = 0 ∨ pOpp a b = 1 := by
  unfold pOpp
  split
  · exact Or.inl rfl
  · split
    · split
      · exact Or.inr rfl
      · exact Or.inl rfl
    · split
      · exact Or.inr rfl
      · exact Or.inl rfl
theorem lcut_100 {xs : List Int32} : (lcut xs 100).length ≤ 100 := by
  unfold lcut
  rw [show (100 : Int32) = nI 100 from rfl, gIn_nI (by omega), nI_clamp (by omega)]
  by_cases h : 100 < xs.length
  · simp [h]; omega
  · simp [h]; omega
theorem oOnce_n {t : TS} : (oOnce t).length ≤ 100 := lcut_100
theorem tAll_8 {sg ms : List Int32} {tl : Int32} : ∀ {n cu : Nat} {cd : List Int32}, ms.length + cd.length ≤ 8 → ms.length + (tAll sg ms tl n cu cd).2.1.length ≤ 8 := by
  intro n
  induction n with
  | zero => intro cu cd h; exact h
  | succ n ih =>
    intro cu cd h
    rw [tAll]
    split
    · split
      · rename_i q
        refine ih ?_
        have hlt : ¬ 8 ≤ ms.length + cd.length := by
          intro y
          unfold tWhy at q
          split at q
          · exact absurd q (by decide)
          · split at q
            · exact absurd q (by decide)
            · split at q
              · exact absurd q (by decide)
              · split at q
                · exact absurd q (by decide)
                · first
                  | exact absurd q (by decide)
                  | (rw [if_pos y] at q; exact absurd q (by decide))
        rw [List.length_append]
        simp
        omega
      · exact h
    · exact h
set_option maxRecDepth 20000 in
theorem in_X8_mark_X8 : ∀ w ∈ wsX80, w ∈ wsX8_mark := by decide +kernel
set_option maxRecDepth 20000 in
theorem fd_X8_mark_12 : gFd wsX8_mark RX8 12 7 RX8 TX8 4 0 := ⟨in_X8_mark_X8, rfl, by decide, by decide +kernel⟩
set_option maxRecDepth 20000 in
theorem in_X8_mark_X7 : ∀ w ∈ wsX70, w ∈ wsX8_mark := by decide +kernel
set_option maxRecDepth 20000 in
theorem fd_X8_mark_99 : gFn wsX8_mark RX8 99 6 RX7 TX7 9 2 := ⟨in_X8_mark_X7, rfl, by decide, by decide +kernel⟩
theorem cb_X8_mark__X2_hasNot : gCb yX2_hasNot cX2_hasNot 2 (some .boolean) wsX2_hasNot (gR 1) (gR 5) 0 0 1 := ⟨rfl, rfl, rfl, by decide +kernel, by decide⟩
theorem cb_X8_mark__X8_isOutside : gCb yX8_isOutside cX8_isOutside 3 (some .boolean) wsX8_isOutside (gR 0) (gR 5) 0 0 3 := ⟨rfl, rfl, rfl, by decide +kernel, by decide⟩
set_option maxRecDepth 20000 in
theorem in_X8_mark_X2 : ∀ w ∈ wsX20, w ∈ wsX8_mark := by decide +kernel
set_option maxRecDepth 20000 in
theorem fd_X8_mark_158 : gFn wsX8_mark RX8 158 1 RX2 TX2 4 1 := ⟨in_X8_mark_X2, rfl, by decide, by decide +kernel⟩
theorem cb_X8_mark__X5_get : gCb yX5_get cX5_get 2 (some .int) wsX5_get (gR 1) (gR 5) 0 0 1 := ⟨rfl, rfl, rfl, by decide +kernel, by decide⟩
set_option maxRecDepth 20000 in
theorem fd_X8_mark_161 : gFn wsX8_mark RX8 161 1 RX2 TX2 4 2 := ⟨in_X8_mark_X2, rfl, by decide, by decide +kernel⟩
set_option maxRecDepth 20000 in
theorem fd_X8_mark_164 : gFn wsX8_mark RX8 164 1 RX2 TX2 4 3 := ⟨in_X8_mark_X2, rfl, by decide, by decide +kernel⟩
set_option maxRecDepth 20000 in
theorem fd_X8_mark_125 : gFn wsX8_mark RX8 125 1 RX2 TX2 4 0 := ⟨in_X8_mark_X2, rfl, by decide, by decide +kernel⟩
theorem cb_X8_mark__X2_howManyOppose : gCb yX2_howManyOppose cX2_howManyOppose 4 (some .int) wsX2_howManyOppose (gR 3) (gR 5) 0 0 1 := ⟨rfl, rfl, rfl, by decide +kernel, by decide⟩
theorem cb_X8_mark__X2_canBeAccepted : gCb yX2_canBeAccepted cX2_canBeAccepted 2 (some .boolean) wsX2_canBeAccepted (gR 4) (gR 5) 0 0 1 := ⟨rfl, rfl, rfl, by decide +kernel, by decide⟩
theorem cb_X8_mark__X1_partOf : gCb yX1_partOf cX1_partOf 2 (some .int) wsX1_partOf (gR 1) (gR 5) 0 0 2 := ⟨rfl, rfl, rfl, by decide +kernel, by decide⟩
set_option maxRecDepth 20000 in
theorem in_X8_against_X8 : ∀ w ∈ wsX80, w ∈ wsX8_against := by decide +kernel
set_option maxRecDepth 20000 in
theorem fd_X8_against_12 : gFd wsX8_against RX8 12 7 RX8 TX8 4 0 := ⟨in_X8_against_X8, rfl, by decide, by decide +kernel⟩
set_option maxRecDepth 20000 in
theorem in_X8_against_X7 : ∀ w ∈ wsX70, w ∈ wsX8_against := by decide +kernel
set_option maxRecDepth 20000 in
theorem fd_X8_against_99 : gFn wsX8_against RX8 99 6 RX7 TX7 9 2 := ⟨in_X8_against_X7, rfl, by decide, by decide +kernel⟩
theorem cb_X8_against__X2_hasNot : gCb yX2_hasNot cX2_hasNot 2 (some .boolean) wsX2_hasNot (gR 1) (gR 3) 0 0 1 := ⟨rfl, rfl, rfl, by decide +kernel, by decide⟩
set_option maxRecDepth 20000 in
theorem in_X8_against_X2 : ∀ w ∈ wsX20, w ∈ wsX8_against := by decide +kernel
set_option maxRecDepth 20000 in
theorem fd_X8_against_125 : gFn wsX8_against RX8 125 1 RX2 TX2 4 0 := ⟨in_X8_against_X2, rfl, by decide, by decide +kernel⟩
theorem cb_X8_against__X5_get : gCb yX5_get cX5_get 2 (some .int) wsX5_get (gR 1) (gR 3) 0 0 1 := ⟨rfl, rfl, rfl, by decide +kernel, by decide⟩
theorem cb_X8_against__X1_areOpposed : gCb yX1_areOpposed cX1_areOpposed 4 (some .boolean) wsX1_areOpposed (gR 2) (gR 3) 0 0 2 := ⟨rfl, rfl, rfl, by decide +kernel, by decide⟩
set_option maxRecDepth 20000 in
theorem in_X8_next_X8 : ∀ w ∈ wsX80, w ∈ wsX8_next := by decide +kernel
set_option maxRecDepth 20000 in
theorem fd_X8_next_12 : gFd wsX8_next RX8 12 7 RX8 TX8 4 0 := ⟨in_X8_next_X8, rfl, by decide, by decide +kernel⟩
set_option maxRecDepth 20000 in
theorem in_X8_next_X7 : ∀ w ∈ wsX70, w ∈ wsX8_next := by decide +kernel
set_option maxRecDepth 20000 in
theorem fd_X8_next_99 : gFn wsX8_next RX8 99 6 RX7 TX7 9 2 := ⟨in_X8_next_X7, rfl, by decide, by decide +kernel⟩
theorem cb_X8_next__X2_mostWanted : gCb yX2_mostWanted cX2_mostWanted 3 (some .int) wsX2_mostWanted (gR 3) (gR 4) 0 0 0 := ⟨rfl, rfl, rfl, by decide +kernel, by decide⟩
set_option maxRecDepth 20000 in
theorem in_X8_answer_X8 : ∀ w ∈ wsX80, w ∈ wsX8_answer := by decide +kernel
set_option maxRecDepth 20000 in
theorem fd_X8_answer_12 : gFd wsX8_answer RX8 12 7 RX8 TX8 4 0 := ⟨in_X8_answer_X8, rfl, by decide, by decide +kernel⟩
set_option maxRecDepth 20000 in
theorem in_X8_answer_X7 : ∀ w ∈ wsX70, w ∈ wsX8_answer := by decide +kernel
set_option maxRecDepth 20000 in
theorem fd_X8_answer_99 : gFn wsX8_answer RX8 99 6 RX7 TX7 9 2 := ⟨in_X8_answer_X7, rfl, by decide, by decide +kernel⟩
theorem cb_X8_answer__X2_hasNot : gCb yX2_hasNot cX2_hasNot 2 (some .boolean) wsX2_hasNot (gR 1) (gR 5) 0 0 1 := ⟨rfl, rfl, rfl, by decide +kernel, by decide⟩
theorem cb_X8_answer__X8_isOutside : gCb yX8_isOutside cX8_isOutside 3 (some .boolean) wsX8_isOutside (gR 0) (gR 5) 0 0 3 := ⟨rfl, rfl, rfl, by decide +kernel, by decide⟩
set_option maxRecDepth 20000 in
theorem in_X8_answer_X2 : ∀ w ∈ wsX20, w ∈ wsX8_answer := by decide +kernel
set_option maxRecDepth 20000 in
theorem fd_X8_answer_158 : gFn wsX8_answer RX8 158 1 RX2 TX2 4 1 := ⟨in_X8_answer_X2, rfl, by decide, by decide +kernel⟩
theorem cb_X8_answer__X5_get : gCb yX5_get cX5_get 2 (some .int) wsX5_get (gR 1) (gR 5) 0 0 1 := ⟨rfl, rfl, rfl, by decide +kernel, by decide⟩
set_option maxRecDepth 20000 in
theorem fd_X8_answer_19 : gFd wsX8_answer RX8 19 7 RX8 TX8 4 1 := ⟨in_X8_answer_X8, rfl, by decide, by decide +kernel⟩
theorem cb_X8_answer__X0_record : gCb yX0_record cX0_record 2 none wsX0_record (gR 4) (gR 5) 0 0 1 := ⟨rfl, rfl, rfl, by decide +kernel, by decide⟩
theorem cb_X8_answer__X7_keepAnswer : gCb yX7_keepAnswer cX7_keepAnswer 3 none wsX7_keepAnswer (gR 3) (gR 5) 0 0 2 := ⟨rfl, rfl, rfl, by decide +kernel, by decide⟩
theorem cb_X8_answer__X2_howManyAreOpen : gCb yX2_howManyAreOpen cX2_howManyAreOpen 3 (some .int) wsX2_howManyAreOpen (gR 2) (gR 5) 0 0 0 := ⟨rfl, rfl, rfl, by decide +kernel, by decide⟩
theorem cb_X8_answer__X2_canBeAccepted : gCb yX2_canBeAccepted cX2_canBeAccepted 2 (some .boolean) wsX2_canBeAccepted (gR 4) (gR 5) 0 0 1 := ⟨rfl, rfl, rfl, by decide +kernel, by decide⟩
set_option maxRecDepth 20000 in
theorem in_X8_finish_X8 : ∀ w ∈ wsX80, w ∈ wsX8_finish := by decide +kernel
set_option maxRecDepth 20000 in
theorem fd_X8_finish_12 : gFd wsX8_finish RX8 12 7 RX8 TX8 4 0 := ⟨in_X8_finish_X8, rfl, by decide, by decide +kernel⟩
theorem cb_X8_finish__X7_canBeFinished : gCb yX7_canBeFinished cX7_canBeFinished 1 (some .boolean) wsX7_canBeFinished (gR 3) (gR 5) 0 0 0 := ⟨rfl, rfl, rfl, by decide +kernel, by decide⟩
set_option maxRecDepth 20000 in
theorem fd_X8_finish_19 : gFd wsX8_finish RX8 19 7 RX8 TX8 4 1 := ⟨in_X8_finish_X8, rfl, by decide, by decide +kernel⟩
theorem cb_X8_finish__X0_record : gCb yX0_record cX0_record 2 none wsX0_record (gR 4) (gR 5) 0 0 1 := ⟨rfl, rfl, rfl, by decide +kernel, by decide⟩
set_option maxRecDepth 20000 in
theorem fd_X8_finish_33 : gFd wsX8_finish RX8 33 7 RX8 TX8 4 3 := ⟨in_X8_finish_X8, rfl, by decide, by decide +kernel⟩
set_option maxRecDepth 20000 in
theorem in_X8_finish_X7 : ∀ w ∈ wsX70, w ∈ wsX8_finish := by decide +kernel
set_option maxRecDepth 20000 in
theorem fd_X8_finish_45 : gFn wsX8_finish RX8 45 6 RX7 TX7 9 0 := ⟨in_X8_finish_X7, rfl, by decide, by decide +kernel⟩
set_option maxRecDepth 20000 in
theorem fd_X8_finish_99 : gFn wsX8_finish RX8 99 6 RX7 TX7 9 2 := ⟨in_X8_finish_X7, rfl, by decide, by decide +kernel⟩
theorem cb_X8_finish__X4_printAtOnce : gCb yX4_printAtOnce cX4_printAtOnce 4 (some (.object "ProofSheets$Row")) wsX4_printAtOnce (gR 3) (gR 5) 0 0 2 := ⟨rfl, rfl, rfl, by decide +kernel, by decide⟩
theorem cb_X8_finish__X7_endRound : gCb yX7_endRound cX7_endRound 2 none wsX7_endRound (gR 3) (gR 5) 0 0 1 := ⟨rfl, rfl, rfl, by decide +kernel, by decide⟩
theorem cb_X8_finish__X5_used : gCb yX5_used cX5_used 1 (some .int) wsX5_used (gR 0) (gR 5) 0 0 0 := ⟨rfl, rfl, rfl, by decide +kernel, by decide⟩
set_option maxRecDepth 20000 in
theorem in_X8_would_X8 : ∀ w ∈ wsX80, w ∈ wsX8_would := by decide +kernel
set_option maxRecDepth 20000 in
theorem fd_X8_would_33 : gFd wsX8_would RX8 33 7 RX8 TX8 4 3 := ⟨in_X8_would_X8, rfl, by decide, by decide +kernel⟩
set_option maxRecDepth 20000 in
theorem fd_X8_would_12 : gFd wsX8_would RX8 12 7 RX8 TX8 4 0 := ⟨in_X8_would_X8, rfl, by decide, by decide +kernel⟩
set_option maxRecDepth 20000 in
theorem in_X8_would_X7 : ∀ w ∈ wsX70, w ∈ wsX8_would := by decide +kernel
set_option maxRecDepth 20000 in
theorem fd_X8_would_45 : gFn wsX8_would RX8 45 6 RX7 TX7 9 0 := ⟨in_X8_would_X7, rfl, by decide, by decide +kernel⟩
set_option maxRecDepth 20000 in
theorem fd_X8_would_99 : gFn wsX8_would RX8 99 6 RX7 TX7 9 2 := ⟨in_X8_would_X7, rfl, by decide, by decide +kernel⟩
theorem cb_X8_would__X4_printAtOnce : gCb yX4_printAtOnce cX4_printAtOnce 4 (some (.object "ProofSheets$Row")) wsX4_printAtOnce (gR 3) (gR 4) 0 0 2 := ⟨rfl, rfl, rfl, by decide +kernel, by decide⟩
theorem cb_X8_would__X8_characterIn : gCb yX8_characterIn cX8_characterIn 2 (some .int) wsX8_characterIn (gR 2) (gR 4) 0 0 2 := ⟨rfl, rfl, rfl, by decide +kernel, by decide⟩
set_option maxRecDepth 20000 in
theorem in_X8_again_X8 : ∀ w ∈ wsX80, w ∈ wsX8_again := by decide +kernel
set_option maxRecDepth 20000 in
theorem fd_X8_again_33 : gFd wsX8_again RX8 33 7 RX8 TX8 4 3 := ⟨in_X8_again_X8, rfl, by decide, by decide +kernel⟩
set_option maxRecDepth 20000 in
theorem fd_X8_again_12 : gFd wsX8_again RX8 12 7 RX8 TX8 4 0 := ⟨in_X8_again_X8, rfl, by decide, by decide +kernel⟩
set_option maxRecDepth 20000 in
theorem in_X8_again_X7 : ∀ w ∈ wsX70, w ∈ wsX8_again := by decide +kernel
set_option maxRecDepth 20000 in
theorem fd_X8_again_45 : gFn wsX8_again RX8 45 6 RX7 TX7 9 0 := ⟨in_X8_again_X7, rfl, by decide, by decide +kernel⟩
set_option maxRecDepth 20000 in
theorem fd_X8_again_99 : gFn wsX8_again RX8 99 6 RX7 TX7 9 2 := ⟨in_X8_again_X7, rfl, by decide, by decide +kernel⟩
theorem cb_X8_again__X4_printInTurn : gCb yX4_printInTurn cX4_printInTurn 4 (some (.object "ProofSheets$Row")) wsX4_printInTurn (gR 4) (gR 5) 0 0 2 := ⟨rfl, rfl, rfl, by decide +kernel, by decide⟩
theorem cb_X8_again__X8_characterIn : gCb yX8_characterIn cX8_characterIn 2 (some .int) wsX8_characterIn (gR 2) (gR 5) 0 0 2 := ⟨rfl, rfl, rfl, by decide +kernel, by decide⟩
theorem cb_X8_reader__X8_isNoReader : gCb yX8_isNoReader cX8_isNoReader 1 (some .boolean) wsX8_isNoReader (gR 1) (gR 2) 0 0 1 := ⟨rfl, rfl, rfl, by decide +kernel, by decide⟩
set_option maxRecDepth 20000 in
theorem in_X8_reader_X8 : ∀ w ∈ wsX80, w ∈ wsX8_reader := by decide +kernel
set_option maxRecDepth 20000 in
theorem fd_X8_reader_12 : gFd wsX8_reader RX8 12 7 RX8 TX8 4 0 := ⟨in_X8_reader_X8, rfl, by decide, by decide +kernel⟩
set_option maxRecDepth 20000 in
theorem in_X8_reader_X7 : ∀ w ∈ wsX70, w ∈ wsX8_reader := by decide +kernel
set_option maxRecDepth 20000 in
theorem fd_X8_reader_199 : gFn wsX8_reader RX8 199 6 RX7 TX7 9 4 := ⟨in_X8_reader_X7, rfl, by decide, by decide +kernel⟩
theorem cb_X8_reader__X5_get : gCb yX5_get cX5_get 2 (some .int) wsX5_get (gR 1) (gR 2) 0 0 1 := ⟨rfl, rfl, rfl, by decide +kernel, by decide⟩
set_option maxRecDepth 20000 in
theorem fd_X8_reader_202 : gFn wsX8_reader RX8 202 6 RX7 TX7 9 5 := ⟨in_X8_reader_X7, rfl, by decide, by decide +kernel⟩
set_option maxRecDepth 20000 in
theorem fd_X8_reader_205 : gFn wsX8_reader RX8 205 6 RX7 TX7 9 6 := ⟨in_X8_reader_X7, rfl, by decide, by decide +kernel⟩
theorem cb_X8_reader__X7_hasSheetOut : gCb yX7_hasSheetOut cX7_hasSheetOut 4 (some .boolean) wsX7_hasSheetOut (gR 1) (gR 2) 0 0 1 := ⟨rfl, rfl, rfl, by decide +kernel, by decide⟩
theorem cb_X8_type__X8_isNoCharacter : gCb yX8_isNoCharacter cX8_isNoCharacter 1 (some .boolean) wsX8_isNoCharacter (gR 1) (gR 2) 0 0 1 := ⟨rfl, rfl, rfl, by decide +kernel, by decide⟩
set_option maxRecDepth 20000 in
theorem in_X8_type_X8 : ∀ w ∈ wsX80, w ∈ wsX8_type := by decide +kernel
set_option maxRecDepth 20000 in
theorem fd_X8_type_26 : gFd wsX8_type RX8 26 7 RX8 TX8 4 2 := ⟨in_X8_type_X8, rfl, by decide, by decide +kernel⟩
set_option maxRecDepth 20000 in
theorem in_X8_type_X3 : ∀ w ∈ wsX30, w ∈ wsX8_type := by decide +kernel
set_option maxRecDepth 20000 in
theorem fd_X8_type_145 : gFn wsX8_type RX8 145 2 RX3 TX3 5 0 := ⟨in_X8_type_X3, rfl, by decide, by decide +kernel⟩
theorem cb_X8_type__X5_used : gCb yX5_used cX5_used 1 (some .int) wsX5_used (gR 0) (gR 2) 0 0 0 := ⟨rfl, rfl, rfl, by decide +kernel, by decide⟩
theorem cb_X8_type__X5_append : gCb yX5_append cX5_append 2 none wsX5_append (gR 0) (gR 2) 0 0 1 := ⟨rfl, rfl, rfl, by decide +kernel, by decide⟩
set_option maxRecDepth 20000 in
theorem in_X8_clearText_X8 : ∀ w ∈ wsX80, w ∈ wsX8_clearText := by decide +kernel
set_option maxRecDepth 20000 in
theorem fd_X8_clearText_26 : gFd wsX8_clearText RX8 26 7 RX8 TX8 4 2 := ⟨in_X8_clearText_X8, rfl, by decide, by decide +kernel⟩
set_option maxRecDepth 20000 in
theorem in_X8_clearText_X3 : ∀ w ∈ wsX30, w ∈ wsX8_clearText := by decide +kernel
set_option maxRecDepth 20000 in
theorem fd_X8_clearText_145 : gFn wsX8_clearText RX8 145 2 RX3 TX3 5 0 := ⟨in_X8_clearText_X3, rfl, by decide, by decide +kernel⟩
theorem cb_X8_clearText__X5_used : gCb yX5_used cX5_used 1 (some .int) wsX5_used (gR 0) (gR 1) 0 0 0 := ⟨rfl, rfl, rfl, by decide +kernel, by decide⟩
theorem cb_X8_clearText__X5_cutTo : gCb yX5_cutTo cX5_cutTo 2 none wsX5_cutTo (gR 0) (gR 1) 0 0 1 := ⟨rfl, rfl, rfl, by decide +kernel, by decide⟩
set_option maxRecDepth 20000 in
theorem in_X8_fault_X8 : ∀ w ∈ wsX80, w ∈ wsX8_fault := by decide +kernel
set_option maxRecDepth 20000 in
theorem fd_X8_fault_12 : gFd wsX8_fault RX8 12 7 RX8 TX8 4 0 := ⟨in_X8_fault_X8, rfl, by decide, by decide +kernel⟩
theorem cb_X8_fault__X7_sheetNumbered : gCb yX7_sheetNumbered cX7_sheetNumbered 2 (some (.object "ProofSheets$Sheet")) wsX7_sheetNumbered (gR 0) (gR 8) 0 0 1 := ⟨rfl, rfl, rfl, by decide +kernel, by decide⟩
theorem cb_X8_fault__X8_isOutside : gCb yX8_isOutside cX8_isOutside 3 (some .boolean) wsX8_isOutside (gR 0) (gR 8) 0 0 3 := ⟨rfl, rfl, rfl, by decide +kernel, by decide⟩
set_option maxRecDepth 20000 in
theorem fd_X8_fault_26 : gFd wsX8_fault RX8 26 7 RX8 TX8 4 2 := ⟨in_X8_fault_X8, rfl, by decide, by decide +kernel⟩
set_option maxRecDepth 20000 in
theorem in_X8_fault_X6 : ∀ w ∈ wsX60, w ∈ wsX8_fault := by decide +kernel
set_option maxRecDepth 20000 in
theorem fd_X8_fault_96 : gFn wsX8_fault RX8 96 5 RX6 TX6 3 0 := ⟨in_X8_fault_X6, rfl, by decide, by decide +kernel⟩
set_option maxRecDepth 20000 in
theorem in_X8_fault_X7 : ∀ w ∈ wsX70, w ∈ wsX8_fault := by decide +kernel
set_option maxRecDepth 20000 in
theorem fd_X8_fault_45 : gFn wsX8_fault RX8 45 6 RX7 TX7 9 0 := ⟨in_X8_fault_X7, rfl, by decide, by decide +kernel⟩
theorem cb_X8_fault__X5_used : gCb yX5_used cX5_used 1 (some .int) wsX5_used (gR 0) (gR 8) 0 0 0 := ⟨rfl, rfl, rfl, by decide +kernel, by decide⟩
theorem cb_X8_fault__X3_readFor : gCb yX3_readFor cX3_readFor 4 none wsX3_readFor (gR 7) (gR 8) 0 0 2 := ⟨rfl, rfl, rfl, by decide +kernel, by decide⟩
set_option maxRecDepth 20000 in
theorem in_X8_fault_X3 : ∀ w ∈ wsX30, w ∈ wsX8_fault := by decide +kernel
set_option maxRecDepth 20000 in
theorem fd_X8_fault_215 : gFn wsX8_fault RX8 215 2 RX3 TX3 5 4 := ⟨in_X8_fault_X3, rfl, by decide, by decide +kernel⟩
set_option maxRecDepth 20000 in
theorem fd_X8_fault_218 : gFn wsX8_fault RX8 218 2 RX3 TX3 5 2 := ⟨in_X8_fault_X3, rfl, by decide, by decide +kernel⟩
set_option maxRecDepth 20000 in
theorem in_X8_write_X8 : ∀ w ∈ wsX80, w ∈ wsX8_write := by decide +kernel
set_option maxRecDepth 20000 in
theorem fd_X8_write_12 : gFd wsX8_write RX8 12 7 RX8 TX8 4 0 := ⟨in_X8_write_X8, rfl, by decide, by decide +kernel⟩
theorem cb_X8_write__X7_sheetNumbered : gCb yX7_sheetNumbered cX7_sheetNumbered 2 (some (.object "ProofSheets$Sheet")) wsX7_sheetNumbered (gR 0) (gR 8) 0 0 1 := ⟨rfl, rfl, rfl, by decide +kernel, by decide⟩
set_option maxRecDepth 20000 in
theorem in_X8_write_X6 : ∀ w ∈ wsX60, w ∈ wsX8_write := by decide +kernel
set_option maxRecDepth 20000 in
theorem fd_X8_write_80 : gFn wsX8_write RX8 80 5 RX6 TX6 3 2 := ⟨in_X8_write_X6, rfl, by decide, by decide +kernel⟩
set_option maxRecDepth 20000 in
theorem fd_X8_write_26 : gFd wsX8_write RX8 26 7 RX8 TX8 4 2 := ⟨in_X8_write_X8, rfl, by decide, by decide +kernel⟩
set_option maxRecDepth 20000 in
theorem fd_X8_write_96 : gFn wsX8_write RX8 96 5 RX6 TX6 3 0 := ⟨in_X8_write_X6, rfl, by decide, by decide +kernel⟩
set_option maxRecDepth 20000 in
theorem in_X8_write_X7 : ∀ w ∈ wsX70, w ∈ wsX8_write := by decide +kernel
set_option maxRecDepth 20000 in
theorem fd_X8_write_45 : gFn wsX8_write RX8 45 6 RX7 TX7 9 0 := ⟨in_X8_write_X7, rfl, by decide, by decide +kernel⟩
theorem cb_X8_write__X5_used : gCb yX5_used cX5_used 1 (some .int) wsX5_used (gR 0) (gR 8) 0 0 0 := ⟨rfl, rfl, rfl, by decide +kernel, by decide⟩
theorem cb_X8_write__X3_readFor : gCb yX3_readFor cX3_readFor 4 none wsX3_readFor (gR 7) (gR 8) 0 0 2 := ⟨rfl, rfl, rfl, by decide +kernel, by decide⟩
set_option maxRecDepth 20000 in
theorem in_X8_write_X3 : ∀ w ∈ wsX30, w ∈ wsX8_write := by decide +kernel
set_option maxRecDepth 20000 in
theorem fd_X8_write_215 : gFn wsX8_write RX8 215 2 RX3 TX3 5 4 := ⟨in_X8_write_X3, rfl, by decide, by decide +kernel⟩
set_option maxRecDepth 20000 in
theorem fd_X8_write_19 : gFd wsX8_write RX8 19 7 RX8 TX8 4 1 := ⟨in_X8_write_X8, rfl, by decide, by decide +kernel⟩
theorem cb_X8_write__X0_record : gCb yX0_record cX0_record 2 none wsX0_record (gR 4) (gR 8) 0 0 1 := ⟨rfl, rfl, rfl, by decide +kernel, by decide⟩
set_option maxRecDepth 20000 in
theorem fd_X8_write_221 : gFn wsX8_write RX8 221 2 RX3 TX3 5 1 := ⟨in_X8_write_X3, rfl, by decide, by decide +kernel⟩
theorem cb_X8_write__X7_writeOn : gCb yX7_writeOn cX7_writeOn 4 none wsX7_writeOn (gR 3) (gR 8) 0 0 2 := ⟨rfl, rfl, rfl, by decide +kernel, by decide⟩
set_option maxHeartbeats 600000 in
set_option maxRecDepth 100000 in
/-- X8_mark -/
theorem k8_mark (l : Launch) (D : gD) (A : Nat → Prop) (hs : Nat) {G : gH} {X : Nat} {t : TS} (h : gCw D G X t) (k w : Int32) : gM l yX8_mark wsX8_mark (gR 5) D A hs 0 0 [.ref X, .int k, .int w] G (gPi fun x G' => x = oMark k w t ∧ gCw D G' X t ∧ gOut X 242 G G') := by
  refine gM_intro (by decide) rfl rfl (Nat.le_of_ble_eq_true rfl) ?_
  intro p e s m args below meth c C
  obtain ⟨hob, hv, hh, hmt, hps⟩ := id h
  refine gx_aload_n C dX8_mark_0 rfl ?_
  refine gx_get C fd_X8_mark_12 (hG := hob) (hv := by rfl) dX8_mark_1 ?_
  refine gx_getN C fd_X8_mark_99 (hG := hv.1) (hv := by rfl) dX8_mark_4 ?_
  refine gx_astore_n C dX8_mark_7 (by decide) ?_
  refine gx_aload_n C dX8_mark_8 rfl ?_
  refine gx_iload_n C dX8_mark_9 rfl ?_
  refine gx_callV (ci := 1) (T := TX2) (N := 4) C (k2_hasNot l D A hs k (gSv_li hv)) cb_X8_mark__X2_hasNot gX8_mark_X2_hasNot rfl (hG := (gSv_li hv).1) rfl rfl (Nat.le_of_ble_eq_true rfl) ⟨Nat.le_refl _, Nat.le_refl _⟩ dX8_mark_10 (gx_ki fun r_10 G_10 h_10 => ?_)
  obtain ⟨rfl, rfl⟩ := h_10
  refine gx_if_ne (tgt := 26) C dX8_mark_13 (by decide) (fun c_13 => ?_) (fun c_13 => ?_)
  · have n1 : ¬ gIn k t.1.2.2.2.1.1.length = true := fun q => by
      rw [if_pos q] at c_13
      exact c_13 rfl
    have e : oMark k w t = -1 := if_pos (Or.inl n1)
    refine gx_iconst (v := (-1)) C dX8_mark_26 (by decide) ?_
    refine gx_zret (mc := 0) C rfl ?_ dX8_mark_27
    exact ⟨_, rfl, e.symm, h, gOut_rf⟩
  · have n1 : gIn k t.1.2.2.2.1.1.length = true := by
      by_cases q : gIn k t.1.2.2.2.1.1.length = true
      · exact q
      · rw [if_neg q] at c_13
        exact absurd c_13 (by decide)
    refine gx_iload_n C dX8_mark_16 rfl ?_
    refine gx_iconst (v := 0) C dX8_mark_17 (by decide) ?_
    refine gx_bipush (v := 8) C dX8_mark_18 (by decide) ?_
    refine gx_callS C (k8_isOutside l D A hs w 0 8) cb_X8_mark__X8_isOutside gX8_mark_X8_isOutside rfl rfl (Nat.le_of_ble_eq_true rfl) ⟨Nat.le_refl _, Nat.le_refl _⟩ dX8_mark_20 (gx_ki fun r_20 G_20 h_20 => ?_)
    obtain ⟨rfl, rfl⟩ := h_20
    refine gx_if_eq (tgt := 28) C dX8_mark_23 (by decide) (fun c_23 => ?_) (fun c_23 => ?_)
    · have n9 : ¬ (¬ gIn k t.1.2.2.2.1.1.length = true ∨ pOut w 0 8 = 1) := fun q => q.elim (fun q => q n1) (by rw [c_23]; decide)
      refine gx_iload_n C dX8_mark_28 rfl ?_
      refine gx_split 4 (fun c_29_0 => ?_) (fun c_29_0 => ?_)
      · refine gx_tableIn (off := 35) (tgt := 64) C dX8_mark_29 (by rw [c_29_0]; decide) (by rw [c_29_0]; decide) (by rw [c_29_0]; rfl) (by decide) ?_
        have e : oMark k w t = lget t.1.2.2.2.1.2.1 k := by rw [oMark, if_neg n9, if_pos c_29_0]
        refine gx_aload_n C dX8_mark_64 rfl ?_
        refine gx_getN C fd_X8_mark_158 (hG := (gSv_li hv).1) (hv := by rfl) dX8_mark_65 ?_
        refine gx_iload_n C dX8_mark_68 rfl ?_
        refine gx_callV (ci := 4) (T := TX5) (N := 2) C (k5_get l D A hs k (gSv_li hv).2.2.1) cb_X8_mark__X5_get gX8_mark_X5_get rfl (hG := (gRow_ob (gSv_li hv).2.2.1)) rfl rfl (Nat.le_of_ble_eq_true rfl) ⟨Nat.le_refl _, Nat.le_refl _⟩ dX8_mark_69 (gx_ki fun r_69 G_69 h_69 => ?_)
        obtain ⟨rfl, rfl⟩ := h_69
        refine gx_zret (mc := 0) C rfl ?_ dX8_mark_72
        exact ⟨_, rfl, e.symm, h, gOut_rf⟩
      -- else
      refine gx_split 5 (fun c_29_1 => ?_) (fun c_29_1 => ?_)
      · refine gx_tableIn (off := 44) (tgt := 73) C dX8_mark_29 (by rw [c_29_1]; decide) (by rw [c_29_1]; decide) (by rw [c_29_1]; rfl) (by decide) ?_
        have e : oMark k w t = lget t.1.2.2.2.1.2.2.1 k := by rw [oMark, if_neg n9, if_neg c_29_0, if_pos c_29_1]
        refine gx_aload_n C dX8_mark_73 rfl ?_
        refine gx_getN C fd_X8_mark_161 (hG := (gSv_li hv).1) (hv := by rfl) dX8_mark_74 ?_
        refine gx_iload_n C dX8_mark_77 rfl ?_
        refine gx_callV (ci := 4) (T := TX5) (N := 2) C (k5_get l D A hs k (gSv_li hv).2.2.2.1) cb_X8_mark__X5_get gX8_mark_X5_get rfl (hG := (gRow_ob (gSv_li hv).2.2.2.1)) rfl rfl (Nat.le_of_ble_eq_true rfl) ⟨Nat.le_refl _, Nat.le_refl _⟩ dX8_mark_78 (gx_ki fun r_78 G_78 h_78 => ?_)
        obtain ⟨rfl, rfl⟩ := h_78
        refine gx_zret (mc := 0) C rfl ?_ dX8_mark_81
        exact ⟨_, rfl, e.symm, h, gOut_rf⟩
      -- else
      refine gx_split 6 (fun c_29_2 => ?_) (fun c_29_2 => ?_)
      · refine gx_tableIn (off := 53) (tgt := 82) C dX8_mark_29 (by rw [c_29_2]; decide) (by rw [c_29_2]; decide) (by rw [c_29_2]; rfl) (by decide) ?_
        have e : oMark k w t = lget t.1.2.2.2.1.2.2.2 k := by rw [oMark, if_neg n9, if_neg c_29_0, if_neg c_29_1, if_pos c_29_2]
        refine gx_aload_n C dX8_mark_82 rfl ?_
        refine gx_getN C fd_X8_mark_164 (hG := (gSv_li hv).1) (hv := by rfl) dX8_mark_83 ?_
        refine gx_iload_n C dX8_mark_86 rfl ?_
        refine gx_callV (ci := 4) (T := TX5) (N := 2) C (k5_get l D A hs k (gSv_li hv).2.2.2.2) cb_X8_mark__X5_get gX8_mark_X5_get rfl (hG := (gRow_ob (gSv_li hv).2.2.2.2)) rfl rfl (Nat.le_of_ble_eq_true rfl) ⟨Nat.le_refl _, Nat.le_refl _⟩ dX8_mark_87 (gx_ki fun r_87 G_87 h_87 => ?_)
        obtain ⟨rfl, rfl⟩ := h_87
        refine gx_zret (mc := 0) C rfl ?_ dX8_mark_90
        exact ⟨_, rfl, e.symm, h, gOut_rf⟩
      -- else
      refine gx_split 7 (fun c_29_3 => ?_) (fun c_29_3 => ?_)
      · refine gx_tableIn (off := 62) (tgt := 91) C dX8_mark_29 (by rw [c_29_3]; decide) (by rw [c_29_3]; decide) (by rw [c_29_3]; rfl) (by decide) ?_
        have e : oMark k w t = nI (pOppN t.1.2.2.2.1.1 (lget t.1.2.2.2.1.1 k) t.1.2.2.2.1.1.length) := by rw [oMark, if_neg n9, if_neg c_29_0, if_neg c_29_1, if_neg c_29_2, if_pos c_29_3]
        refine gx_aload_n C dX8_mark_91 rfl ?_
        refine gx_aload_n C dX8_mark_92 rfl ?_
        refine gx_getN C fd_X8_mark_125 (hG := (gSv_li hv).1) (hv := by rfl) dX8_mark_93 ?_
        refine gx_iload_n C dX8_mark_96 rfl ?_
        refine gx_callV (ci := 4) (T := TX5) (N := 2) C (k5_get l D A hs k (gSv_li hv).2.1) cb_X8_mark__X5_get gX8_mark_X5_get rfl (hG := (gRow_ob (gSv_li hv).2.1)) rfl rfl (Nat.le_of_ble_eq_true rfl) ⟨Nat.le_refl _, Nat.le_refl _⟩ dX8_mark_97 (gx_ki fun r_97 G_97 h_97 => ?_)
        obtain ⟨rfl, rfl⟩ := h_97
        refine gx_callV (ci := 1) (T := TX2) (N := 4) C (k2_howManyOppose l D A hs (lget t.1.2.2.2.1.1 k) (gSv_li hv)) cb_X8_mark__X2_howManyOppose gX8_mark_X2_howManyOppose rfl (hG := (gSv_li hv).1) rfl rfl (Nat.le_of_ble_eq_true rfl) ⟨Nat.le_refl _, Nat.le_refl _⟩ dX8_mark_100 (gx_ki fun r_100 G_100 h_100 => ?_)
        obtain ⟨rfl, rfl⟩ := h_100
        refine gx_zret (mc := 0) C rfl ?_ dX8_mark_103
        exact ⟨_, rfl, e.symm, h, gOut_rf⟩
      -- else
      refine gx_split 8 (fun c_29_4 => ?_) (fun c_29_4 => ?_)
      · refine gx_tableIn (off := 75) (tgt := 104) C dX8_mark_29 (by rw [c_29_4]; decide) (by rw [c_29_4]; decide) (by rw [c_29_4]; rfl) (by decide) ?_
        have e : oMark k w t = (if lget t.1.2.2.2.1.2.1 k = 0 ∧ ¬ pMeets t.1.2.2.2.1.1 t.1.2.2.2.1.2.1 (lget t.1.2.2.2.1.1 k) = true then 1 else 0) := by rw [oMark, if_neg n9, if_neg c_29_0, if_neg c_29_1, if_neg c_29_2, if_neg c_29_3, if_pos c_29_4]
        refine gx_aload_n C dX8_mark_104 rfl ?_
        refine gx_iload_n C dX8_mark_105 rfl ?_
        refine gx_callV (ci := 1) (T := TX2) (N := 4) C (k2_canBeAccepted l D A hs k (gSv_li hv)) cb_X8_mark__X2_canBeAccepted gX8_mark_X2_canBeAccepted rfl (hG := (gSv_li hv).1) rfl rfl (Nat.le_of_ble_eq_true rfl) ⟨Nat.le_refl _, Nat.le_refl _⟩ dX8_mark_106 (gx_ki fun r_106 G_106 h_106 => ?_)
        obtain ⟨rfl, rfl⟩ := h_106
        refine gx_if_eq (tgt := 116) C dX8_mark_109 (by decide) (fun c_109 => ?_) (fun c_109 => ?_)
        · rw [c_109] at e
          refine gx_iconst (v := 0) C dX8_mark_116 (by decide) ?_
          refine gx_zret (mc := 0) C rfl ?_ dX8_mark_117
          exact ⟨_, rfl, e.symm, h, gOut_rf⟩
        · have e1 : (if lget t.1.2.2.2.1.2.1 k = 0 ∧ ¬ pMeets t.1.2.2.2.1.1 t.1.2.2.2.1.2.1 (lget t.1.2.2.2.1.1 k) = true then 1 else 0) = (1 : Int32) := by
            by_cases q : lget t.1.2.2.2.1.2.1 k = 0 ∧ ¬ pMeets t.1.2.2.2.1.1 t.1.2.2.2.1.2.1 (lget t.1.2.2.2.1.1 k) = true
            · exact if_pos q
            · exact absurd (if_neg q) c_109
          rw [e1] at e
          refine gx_iconst (v := 1) C dX8_mark_112 (by decide) ?_
          refine gx_goto (tgt := 117) C dX8_mark_113 (by decide) ?_
          refine gx_zret (mc := 0) C rfl ?_ dX8_mark_117
          exact ⟨_, rfl, e.symm, h, gOut_rf⟩
      -- else
      refine gx_tableOut (tgt := 118) C dX8_mark_29 (by have q_0 := gz_ne (n := 4) (by decide) c_29_0; have q_1 := gz_ne (n := 5) (by decide) c_29_1; have q_2 := gz_ne (n := 6) (by decide) c_29_2; have q_3 := gz_ne (n := 7) (by decide) c_29_3; have q_4 := gz_ne (n := 8) (by decide) c_29_4; omega) (by decide) ?_
      have e : oMark k w t = pPart (lget t.1.2.2.2.1.1 k) w := by rw [oMark, if_neg n9, if_neg c_29_0, if_neg c_29_1, if_neg c_29_2, if_neg c_29_3, if_neg c_29_4]
      refine gx_aload_n C dX8_mark_118 rfl ?_
      refine gx_getN C fd_X8_mark_125 (hG := (gSv_li hv).1) (hv := by rfl) dX8_mark_119 ?_
      refine gx_iload_n C dX8_mark_122 rfl ?_
      refine gx_callV (ci := 4) (T := TX5) (N := 2) C (k5_get l D A hs k (gSv_li hv).2.1) cb_X8_mark__X5_get gX8_mark_X5_get rfl (hG := (gRow_ob (gSv_li hv).2.1)) rfl rfl (Nat.le_of_ble_eq_true rfl) ⟨Nat.le_refl _, Nat.le_refl _⟩ dX8_mark_123 (gx_ki fun r_123 G_123 h_123 => ?_)
      obtain ⟨rfl, rfl⟩ := h_123
      refine gx_iload_n C dX8_mark_126 rfl ?_
      refine gx_callS C (k1_partOf l D A hs (lget t.1.2.2.2.1.1 k) w) cb_X8_mark__X1_partOf gX8_mark_X1_partOf rfl rfl (Nat.le_of_ble_eq_true rfl) ⟨Nat.le_refl _, Nat.le_refl _⟩ dX8_mark_127 (gx_ki fun r_127 G_127 h_127 => ?_)
      obtain ⟨rfl, rfl⟩ := h_127
      refine gx_zret (mc := 0) C rfl ?_ dX8_mark_130
      exact ⟨_, rfl, e.symm, h, gOut_rf⟩
    · have e : oMark k w t = -1 := if_pos (Or.inr (pOut_n c_23))
      refine gx_iconst (v := (-1)) C dX8_mark_26 (by decide) ?_
      refine gx_zret (mc := 0) C rfl ?_ dX8_mark_27
      exact ⟨_, rfl, e.symm, h, gOut_rf⟩
set_option maxHeartbeats 600000 in
set_option maxRecDepth 100000 in
/-- X8_against -/
theorem k8_against (l : Launch) (D : gD) (A : Nat → Prop) (hs : Nat) {G : gH} {X : Nat} {t : TS} (h : gCw D G X t) (z w : Int32) : gM l yX8_against wsX8_against (gR 3) D A hs 0 0 [.ref X, .int z, .int w] G (gPi fun x G' => x = oAgainst z w t ∧ gCw D G' X t ∧ gOut X 242 G G') := by
  refine gM_intro (by decide) rfl rfl (Nat.le_of_ble_eq_true rfl) ?_
  intro p e s m args below meth c C
  obtain ⟨hob, hv, hh, hmt, hps⟩ := id h
  refine gx_aload_n C dX8_against_0 rfl ?_
  refine gx_get C fd_X8_against_12 (hG := hob) (hv := by rfl) dX8_against_1 ?_
  refine gx_getN C fd_X8_against_99 (hG := hv.1) (hv := by rfl) dX8_against_4 ?_
  refine gx_iload_n C dX8_against_7 rfl ?_
  refine gx_callV (ci := 1) (T := TX2) (N := 4) C (k2_hasNot l D A hs z (gSv_li hv)) cb_X8_against__X2_hasNot gX8_against_X2_hasNot rfl (hG := (gSv_li hv).1) rfl rfl (Nat.le_of_ble_eq_true rfl) ⟨Nat.le_refl _, Nat.le_refl _⟩ dX8_against_8 (gx_ki fun r_8 G_8 h_8 => ?_)
  obtain ⟨rfl, rfl⟩ := h_8
  refine gx_if_ne (tgt := 28) C dX8_against_11 (by decide) (fun c_11 => ?_) (fun c_11 => ?_)
  · have n1 : ¬ gIn z t.1.2.2.2.1.1.length = true := fun q => by
      rw [if_pos q] at c_11
      exact c_11 rfl
    have e : oAgainst z w t = -1 := if_pos (Or.inl n1)
    refine gx_iconst (v := (-1)) C dX8_against_28 (by decide) ?_
    refine gx_zret (mc := 0) C rfl ?_ dX8_against_29
    exact ⟨_, rfl, e.symm, h, gOut_rf⟩
  · have n1 : gIn z t.1.2.2.2.1.1.length = true := by
      by_cases q : gIn z t.1.2.2.2.1.1.length = true
      · exact q
      · rw [if_neg q] at c_11
        exact absurd c_11 (by decide)
    refine gx_aload_n C dX8_against_14 rfl ?_
    refine gx_get C fd_X8_against_12 (hG := hob) (hv := by rfl) dX8_against_15 ?_
    refine gx_getN C fd_X8_against_99 (hG := hv.1) (hv := by rfl) dX8_against_18 ?_
    refine gx_iload_n C dX8_against_21 rfl ?_
    refine gx_callV (ci := 1) (T := TX2) (N := 4) C (k2_hasNot l D A hs w (gSv_li hv)) cb_X8_against__X2_hasNot gX8_against_X2_hasNot rfl (hG := (gSv_li hv).1) rfl rfl (Nat.le_of_ble_eq_true rfl) ⟨Nat.le_refl _, Nat.le_refl _⟩ dX8_against_22 (gx_ki fun r_22 G_22 h_22 => ?_)
    obtain ⟨rfl, rfl⟩ := h_22
    refine gx_if_eq (tgt := 30) C dX8_against_25 (by decide) (fun c_25 => ?_) (fun c_25 => ?_)
    · have n2 : gIn w t.1.2.2.2.1.1.length = true := by
        by_cases q : gIn w t.1.2.2.2.1.1.length = true
        · exact q
        · rw [if_neg q] at c_25
          exact absurd c_25 (by decide)
      have e0 : oAgainst z w t = pOpp (lget t.1.2.2.2.1.1 z) (lget t.1.2.2.2.1.1 w) := if_neg (fun q => q.elim (fun q => q n1) (fun q => q n2))
      refine gx_aload_n C dX8_against_30 rfl ?_
      refine gx_get C fd_X8_against_12 (hG := hob) (hv := by rfl) dX8_against_31 ?_
      refine gx_getN C fd_X8_against_99 (hG := hv.1) (hv := by rfl) dX8_against_34 ?_
      refine gx_getN C fd_X8_against_125 (hG := (gSv_li hv).1) (hv := by rfl) dX8_against_37 ?_
      refine gx_iload_n C dX8_against_40 rfl ?_
      refine gx_callV (ci := 4) (T := TX5) (N := 2) C (k5_get l D A hs z (gSv_li hv).2.1) cb_X8_against__X5_get gX8_against_X5_get rfl (hG := (gRow_ob (gSv_li hv).2.1)) rfl rfl (Nat.le_of_ble_eq_true rfl) ⟨Nat.le_refl _, Nat.le_refl _⟩ dX8_against_41 (gx_ki fun r_41 G_41 h_41 => ?_)
      obtain ⟨rfl, rfl⟩ := h_41
      refine gx_aload_n C dX8_against_44 rfl ?_
      refine gx_get C fd_X8_against_12 (hG := hob) (hv := by rfl) dX8_against_45 ?_
      refine gx_getN C fd_X8_against_99 (hG := hv.1) (hv := by rfl) dX8_against_48 ?_
      refine gx_getN C fd_X8_against_125 (hG := (gSv_li hv).1) (hv := by rfl) dX8_against_51 ?_
      refine gx_iload_n C dX8_against_54 rfl ?_
      refine gx_callV (ci := 4) (T := TX5) (N := 2) C (k5_get l D A hs w (gSv_li hv).2.1) cb_X8_against__X5_get gX8_against_X5_get rfl (hG := (gRow_ob (gSv_li hv).2.1)) rfl rfl (Nat.le_of_ble_eq_true rfl) ⟨Nat.le_refl _, Nat.le_refl _⟩ dX8_against_55 (gx_ki fun r_55 G_55 h_55 => ?_)
      obtain ⟨rfl, rfl⟩ := h_55
      refine gx_callS C (k1_areOpposed l D A hs (lget t.1.2.2.2.1.1 z) (lget t.1.2.2.2.1.1 w)) cb_X8_against__X1_areOpposed gX8_against_X1_areOpposed rfl rfl (Nat.le_of_ble_eq_true rfl) ⟨Nat.le_refl _, Nat.le_refl _⟩ dX8_against_58 (gx_ki fun r_58 G_58 h_58 => ?_)
      obtain ⟨rfl, rfl⟩ := h_58
      refine gx_if_eq (tgt := 68) C dX8_against_61 (by decide) (fun c_61 => ?_) (fun c_61 => ?_)
      · have e : oAgainst z w t = 0 := e0.trans c_61
        refine gx_iconst (v := 0) C dX8_against_68 (by decide) ?_
        refine gx_zret (mc := 0) C rfl ?_ dX8_against_69
        exact ⟨_, rfl, e.symm, h, gOut_rf⟩
      · have e : oAgainst z w t = 1 := e0.trans (pOpp_b.resolve_left c_61)
        refine gx_iconst (v := 1) C dX8_against_64 (by decide) ?_
        refine gx_goto (tgt := 69) C dX8_against_65 (by decide) ?_
        refine gx_zret (mc := 0) C rfl ?_ dX8_against_69
        exact ⟨_, rfl, e.symm, h, gOut_rf⟩
    · have n2 : ¬ gIn w t.1.2.2.2.1.1.length = true := fun q => by
        rw [if_pos q] at c_25
        exact c_25 rfl
      have e : oAgainst z w t = -1 := if_pos (Or.inr n2)
      refine gx_iconst (v := (-1)) C dX8_against_28 (by decide) ?_
      refine gx_zret (mc := 0) C rfl ?_ dX8_against_29
      exact ⟨_, rfl, e.symm, h, gOut_rf⟩
set_option maxHeartbeats 600000 in
set_option maxRecDepth 100000 in
/-- X8_next -/
theorem k8_next (l : Launch) (D : gD) (A : Nat → Prop) (hs : Nat) {G : gH} {X : Nat} {t : TS} (h : gCw D G X t) : gM l yX8_next wsX8_next (gR 4) D A hs 0 0 [.ref X] G (gPi fun x G' => x = oNext t ∧ gCw D G' X t ∧ gOut X 242 G G') := by
  refine gM_intro (by decide) rfl rfl (Nat.le_of_ble_eq_true rfl) ?_
  intro p e s m args below meth c C
  obtain ⟨hob, hv, hh, hmt, hps⟩ := id h
  have bc := gRow_le (gSv_li hv).2.1
  have b64 : t.1.2.2.2.1.1.length ≤ 64 := bc.1
  refine gx_aload_n C dX8_next_0 rfl ?_
  refine gx_get C fd_X8_next_12 (hG := hob) (hv := by rfl) dX8_next_1 ?_
  refine gx_getN C fd_X8_next_99 (hG := hv.1) (hv := by rfl) dX8_next_4 ?_
  refine gx_callV (ci := 1) (T := TX2) (N := 4) C (k2_mostWanted l D A hs (gSv_li hv)) cb_X8_next__X2_mostWanted gX8_next_X2_mostWanted rfl (hG := (gSv_li hv).1) rfl rfl (Nat.le_of_ble_eq_true rfl) ⟨Nat.le_refl _, Nat.le_refl _⟩ dX8_next_7 (gx_ki fun r_7 G_7 h_7 => ?_)
  obtain ⟨rfl, rfl⟩ := h_7
  refine gx_istore_n C dX8_next_10 (by decide) ?_
  refine gx_iload_n C dX8_next_11 rfl ?_
  refine gx_if_ge (tgt := 20) C dX8_next_12 (by decide) (fun c_12 => ?_) (fun c_12 => ?_)
  · have e : oNext t = pBI (-1) (pBest t.1.2.2.2.1.1 t.1.2.2.2.1.2.1 t.1.2.2.2.1.2.2.1 t.1.2.2.2.1.1.length) := by
      show pBI (-4) (pBest t.1.2.2.2.1.1 t.1.2.2.2.1.2.1 t.1.2.2.2.1.2.2.1 t.1.2.2.2.1.1.length) = _
      cases hb : (pBest t.1.2.2.2.1.1 t.1.2.2.2.1.2.1 t.1.2.2.2.1.2.2.1 t.1.2.2.2.1.1.length) with
      | none =>
        have hx : (0 : Int32) ≤ pBI (-1) (pBest t.1.2.2.2.1.1 t.1.2.2.2.1.2.1 t.1.2.2.2.1.2.2.1 t.1.2.2.2.1.1.length) := c_12
        rw [hb] at hx
        exact absurd hx (by decide)
      | some b => rfl
    refine gx_iload_n C dX8_next_20 rfl ?_
    refine gx_zret (mc := 0) C rfl ?_ dX8_next_21
    exact ⟨_, rfl, e.symm, h, gOut_rf⟩
  · have e : oNext t = -4 := by
      show pBI (-4) (pBest t.1.2.2.2.1.1 t.1.2.2.2.1.2.1 t.1.2.2.2.1.2.2.1 t.1.2.2.2.1.1.length) = -4
      cases hb : (pBest t.1.2.2.2.1.1 t.1.2.2.2.1.2.1 t.1.2.2.2.1.2.2.1 t.1.2.2.2.1.1.length) with
      | none => rfl
      | some b =>
        have hx : pBI (-1) (pBest t.1.2.2.2.1.1 t.1.2.2.2.1.2.1 t.1.2.2.2.1.2.2.1 t.1.2.2.2.1.1.length) < 0 := Int32.not_le.mp c_12
        rw [hb] at hx
        exact absurd hx (nI_pos (by have := pBest_lt hb; omega))
    refine gx_bipush (v := (-4)) C dX8_next_15 (by decide) ?_
    refine gx_goto (tgt := 21) C dX8_next_17 (by decide) ?_
    refine gx_zret (mc := 0) C rfl ?_ dX8_next_21
    exact ⟨_, rfl, e.symm, h, gOut_rf⟩
set_option maxHeartbeats 600000 in
set_option maxRecDepth 100000 in
/-- X8_answer -/
theorem k8_answer (l : Launch) (D : gD) (A : Nat → Prop) (hs : Nat) {G : gH} {X : Nat} {t : TS} (h : gCw D G X t) (k z : Int32) : gM l yX8_answer wsX8_answer (gR 5) D A hs 0 0 [.ref X, .int k, .int z] G (gPi fun x G' => x = (oAnswer k z t).1 ∧ gCw D G' X (oAnswer k z t).2 ∧ gOut X 242 G G') := by
  refine gM_intro (by decide) rfl rfl (Nat.le_of_ble_eq_true rfl) ?_
  intro p e s m args below meth c C
  obtain ⟨hob, hv, hh, hmt, hps⟩ := id h
  refine gx_aload_n C dX8_answer_0 rfl ?_
  refine gx_get C fd_X8_answer_12 (hG := hob) (hv := by rfl) dX8_answer_1 ?_
  refine gx_getN C fd_X8_answer_99 (hG := hv.1) (hv := by rfl) dX8_answer_4 ?_
  refine gx_iload_n C dX8_answer_7 rfl ?_
  refine gx_callV (ci := 1) (T := TX2) (N := 4) C (k2_hasNot l D A hs k (gSv_li hv)) cb_X8_answer__X2_hasNot gX8_answer_X2_hasNot rfl (hG := (gSv_li hv).1) rfl rfl (Nat.le_of_ble_eq_true rfl) ⟨Nat.le_refl _, Nat.le_refl _⟩ dX8_answer_8 (gx_ki fun r_8 G_8 h_8 => ?_)
  obtain ⟨rfl, rfl⟩ := h_8
  refine gx_if_ne (tgt := 23) C dX8_answer_11 (by decide) (fun c_11 => ?_) (fun c_11 => ?_)
  · have n1 : ¬ gIn k t.1.2.2.2.1.1.length = true := fun q => by
      rw [if_pos q] at c_11
      exact c_11 rfl
    have e : oAnswer k z t = (-1, t) := if_pos (Or.inl n1)
    refine gx_iconst (v := (-1)) C dX8_answer_23 (by decide) ?_
    refine gx_zret (mc := 0) C rfl ?_ dX8_answer_24
    exact ⟨_, rfl, by rw [e], by rw [e]; exact h, gOut_rf⟩
  · have n1 : gIn k t.1.2.2.2.1.1.length = true := by
      by_cases q : gIn k t.1.2.2.2.1.1.length = true
      · exact q
      · rw [if_neg q] at c_11
        exact absurd c_11 (by decide)
    refine gx_iload_n C dX8_answer_14 rfl ?_
    refine gx_iconst (v := 0) C dX8_answer_15 (by decide) ?_
    refine gx_iconst (v := 1) C dX8_answer_16 (by decide) ?_
    refine gx_callS C (k8_isOutside l D A hs z 0 1) cb_X8_answer__X8_isOutside gX8_answer_X8_isOutside rfl rfl (Nat.le_of_ble_eq_true rfl) ⟨Nat.le_refl _, Nat.le_refl _⟩ dX8_answer_17 (gx_ki fun r_17 G_17 h_17 => ?_)
    obtain ⟨rfl, rfl⟩ := h_17
    refine gx_if_eq (tgt := 25) C dX8_answer_20 (by decide) (fun c_20 => ?_) (fun c_20 => ?_)
    · have n9 : ¬ (¬ gIn k t.1.2.2.2.1.1.length = true ∨ pOut z 0 1 = 1) := fun q => q.elim (fun q => q n1) (by rw [c_20]; decide)
      refine gx_aload_n C dX8_answer_25 rfl ?_
      refine gx_get C fd_X8_answer_12 (hG := hob) (hv := by rfl) dX8_answer_26 ?_
      refine gx_getN C fd_X8_answer_99 (hG := hv.1) (hv := by rfl) dX8_answer_29 ?_
      refine gx_getN C fd_X8_answer_158 (hG := (gSv_li hv).1) (hv := by rfl) dX8_answer_32 ?_
      refine gx_iload_n C dX8_answer_35 rfl ?_
      refine gx_callV (ci := 4) (T := TX5) (N := 2) C (k5_get l D A hs k (gSv_li hv).2.2.1) cb_X8_answer__X5_get gX8_answer_X5_get rfl (hG := (gRow_ob (gSv_li hv).2.2.1)) rfl rfl (Nat.le_of_ble_eq_true rfl) ⟨Nat.le_refl _, Nat.le_refl _⟩ dX8_answer_36 (gx_ki fun r_36 G_36 h_36 => ?_)
      obtain ⟨rfl, rfl⟩ := h_36
      refine gx_if_eq (tgt := 45) C dX8_answer_39 (by decide) (fun c_39 => ?_) (fun c_39 => ?_)
      · refine gx_iload_n C dX8_answer_45 rfl ?_
        refine gx_if_ne (tgt := 66) C dX8_answer_46 (by decide) (fun c_46 => ?_) (fun c_46 => ?_)
        · have n2 : ¬ (z = 0 ∧ pMeets t.1.2.2.2.1.1 t.1.2.2.2.1.2.1 (lget t.1.2.2.2.1.1 k) = true) := fun y => c_46 y.1
          refine gx_aload_n C dX8_answer_66 rfl ?_
          refine gx_get C fd_X8_answer_19 (hG := hob) (hv := by rfl) dX8_answer_67 ?_
          refine gx_aload_n C dX8_answer_70 rfl ?_
          refine gx_get C fd_X8_answer_12 (hG := hob) (hv := by rfl) dX8_answer_71 ?_
          refine gx_callV (ci := 0) (T := TX0) (N := 2) C (k0_record l D A hs hh hv (by omega)) cb_X8_answer__X0_record gX8_answer_X0_record rfl (hG := (gHist_ob hh)) rfl rfl (Nat.le_of_ble_eq_true rfl) ⟨Nat.le_refl _, Nat.le_refl _⟩ dX8_answer_74 (gx_kv fun G_74 h_74 => ?_)
          have k1 := gCw_hi h h_74.1 h_74.2
          have v1 := k1.2.1
          have o1 := gOut_wd (b := X) (k := 242) h_74.2 (by omega)
          refine gx_aload_n C dX8_answer_77 rfl ?_
          refine gx_get C fd_X8_answer_12 (hG := k1.1) (hv := by rfl) dX8_answer_78 ?_
          refine gx_iload_n C dX8_answer_81 rfl ?_
          refine gx_iload_n C dX8_answer_82 rfl ?_
          refine gx_if_ne (tgt := 90) C dX8_answer_83 (by decide) (fun c_83 => ?_) (fun c_83 => ?_)
          · have e1 : (if z = 0 then (1 : Int32) else 2) = 2 := if_neg c_83
            have e2 : (if (if z = 0 then (1 : Int32) else 2) = 1 then (2 : Int32) else 3) = if z = 0 then 2 else 3 := by rw [e1, if_neg c_83]; rfl
            refine gx_iconst (v := 2) C dX8_answer_90 (by decide) ?_
            refine gx_top e1.symm ?_
            refine gx_callV (ci := 6) (T := TX7) (N := 9) C (k7_keepAnswer l D A hs v1 k (if z = 0 then 1 else 2)) cb_X8_answer__X7_keepAnswer gX8_answer_X7_keepAnswer rfl (hG := v1.1) rfl rfl (Nat.le_of_ble_eq_true rfl) ⟨Nat.le_refl _, Nat.le_refl _⟩ dX8_answer_91 (gx_kv fun G_91 h_91 => ?_)
            obtain ⟨v2, w2⟩ := h_91
            rw [e2] at v2
            have k2 : gCw D _ X (oAnsT k z t, pRec t.2.1 t.1, t.2.2) := gCw_sv k1 v2 (gOut_wd w2 (by omega))
            have o2 := gOut_tr o1 (gOut_wd (b := X) (k := 242) w2 (by omega))
            refine gx_aload_n C dX8_answer_94 rfl ?_
            refine gx_get C fd_X8_answer_12 (hG := k2.1) (hv := by rfl) dX8_answer_95 ?_
            refine gx_getN C fd_X8_answer_99 (hG := k2.2.1.1) (hv := by rfl) dX8_answer_98 ?_
            refine gx_callV (ci := 1) (T := TX2) (N := 4) C (k2_howManyAreOpen l D A hs (gSv_li k2.2.1)) cb_X8_answer__X2_howManyAreOpen gX8_answer_X2_howManyAreOpen rfl (hG := (gSv_li k2.2.1).1) rfl rfl (Nat.le_of_ble_eq_true rfl) ⟨Nat.le_refl _, Nat.le_refl _⟩ dX8_answer_101 (gx_ki fun r_101 G_101 h_101 => ?_)
            obtain ⟨rfl, rfl⟩ := h_101
            refine gx_zret (mc := 0) C rfl ?_ dX8_answer_104
            have e : oAnswer k z t = (nI (pOpenN (oAnsT k z t).2.2.2.1.2.1 (oAnsT k z t).2.2.2.1.2.1.length), (oAnsT k z t, pRec t.2.1 t.1, t.2.2)) := by rw [oAnswer, if_neg n9, if_neg (fun q => q c_39), if_neg n2]
            exact ⟨_, rfl, by rw [e], by rw [e]; exact k2, o2⟩
          · have e1 : (if z = 0 then (1 : Int32) else 2) = 1 := if_pos c_83
            have e2 : (if (if z = 0 then (1 : Int32) else 2) = 1 then (2 : Int32) else 3) = if z = 0 then 2 else 3 := by rw [e1, if_pos c_83]; rfl
            refine gx_iconst (v := 1) C dX8_answer_86 (by decide) ?_
            refine gx_goto (tgt := 91) C dX8_answer_87 (by decide) ?_
            refine gx_top e1.symm ?_
            refine gx_callV (ci := 6) (T := TX7) (N := 9) C (k7_keepAnswer l D A hs v1 k (if z = 0 then 1 else 2)) cb_X8_answer__X7_keepAnswer gX8_answer_X7_keepAnswer rfl (hG := v1.1) rfl rfl (Nat.le_of_ble_eq_true rfl) ⟨Nat.le_refl _, Nat.le_refl _⟩ dX8_answer_91 (gx_kv fun G_91 h_91 => ?_)
            obtain ⟨v2, w2⟩ := h_91
            rw [e2] at v2
            have k2 : gCw D _ X (oAnsT k z t, pRec t.2.1 t.1, t.2.2) := gCw_sv k1 v2 (gOut_wd w2 (by omega))
            have o2 := gOut_tr o1 (gOut_wd (b := X) (k := 242) w2 (by omega))
            refine gx_aload_n C dX8_answer_94 rfl ?_
            refine gx_get C fd_X8_answer_12 (hG := k2.1) (hv := by rfl) dX8_answer_95 ?_
            refine gx_getN C fd_X8_answer_99 (hG := k2.2.1.1) (hv := by rfl) dX8_answer_98 ?_
            refine gx_callV (ci := 1) (T := TX2) (N := 4) C (k2_howManyAreOpen l D A hs (gSv_li k2.2.1)) cb_X8_answer__X2_howManyAreOpen gX8_answer_X2_howManyAreOpen rfl (hG := (gSv_li k2.2.1).1) rfl rfl (Nat.le_of_ble_eq_true rfl) ⟨Nat.le_refl _, Nat.le_refl _⟩ dX8_answer_101 (gx_ki fun r_101 G_101 h_101 => ?_)
            obtain ⟨rfl, rfl⟩ := h_101
            refine gx_zret (mc := 0) C rfl ?_ dX8_answer_104
            have e : oAnswer k z t = (nI (pOpenN (oAnsT k z t).2.2.2.1.2.1 (oAnsT k z t).2.2.2.1.2.1.length), (oAnsT k z t, pRec t.2.1 t.1, t.2.2)) := by rw [oAnswer, if_neg n9, if_neg (fun q => q c_39), if_neg n2]
            exact ⟨_, rfl, by rw [e], by rw [e]; exact k2, o2⟩
        · refine gx_aload_n C dX8_answer_49 rfl ?_
          refine gx_get C fd_X8_answer_12 (hG := hob) (hv := by rfl) dX8_answer_50 ?_
          refine gx_getN C fd_X8_answer_99 (hG := hv.1) (hv := by rfl) dX8_answer_53 ?_
          refine gx_iload_n C dX8_answer_56 rfl ?_
          refine gx_callV (ci := 1) (T := TX2) (N := 4) C (k2_canBeAccepted l D A hs k (gSv_li hv)) cb_X8_answer__X2_canBeAccepted gX8_answer_X2_canBeAccepted rfl (hG := (gSv_li hv).1) rfl rfl (Nat.le_of_ble_eq_true rfl) ⟨Nat.le_refl _, Nat.le_refl _⟩ dX8_answer_57 (gx_ki fun r_57 G_57 h_57 => ?_)
          obtain ⟨rfl, rfl⟩ := h_57
          refine gx_if_ne (tgt := 66) C dX8_answer_60 (by decide) (fun c_60 => ?_) (fun c_60 => ?_)
          · have q : ¬ pMeets t.1.2.2.2.1.1 t.1.2.2.2.1.2.1 (lget t.1.2.2.2.1.1 k) = true := fun q => by
              rw [if_neg (fun y => y.2 q)] at c_60; exact absurd rfl c_60
            have n2 : ¬ (z = 0 ∧ pMeets t.1.2.2.2.1.1 t.1.2.2.2.1.2.1 (lget t.1.2.2.2.1.1 k) = true) := fun y => q y.2
            refine gx_aload_n C dX8_answer_66 rfl ?_
            refine gx_get C fd_X8_answer_19 (hG := hob) (hv := by rfl) dX8_answer_67 ?_
            refine gx_aload_n C dX8_answer_70 rfl ?_
            refine gx_get C fd_X8_answer_12 (hG := hob) (hv := by rfl) dX8_answer_71 ?_
            refine gx_callV (ci := 0) (T := TX0) (N := 2) C (k0_record l D A hs hh hv (by omega)) cb_X8_answer__X0_record gX8_answer_X0_record rfl (hG := (gHist_ob hh)) rfl rfl (Nat.le_of_ble_eq_true rfl) ⟨Nat.le_refl _, Nat.le_refl _⟩ dX8_answer_74 (gx_kv fun G_74 h_74 => ?_)
            have k1 := gCw_hi h h_74.1 h_74.2
            have v1 := k1.2.1
            have o1 := gOut_wd (b := X) (k := 242) h_74.2 (by omega)
            refine gx_aload_n C dX8_answer_77 rfl ?_
            refine gx_get C fd_X8_answer_12 (hG := k1.1) (hv := by rfl) dX8_answer_78 ?_
            refine gx_iload_n C dX8_answer_81 rfl ?_
            refine gx_iload_n C dX8_answer_82 rfl ?_
            refine gx_if_ne (tgt := 90) C dX8_answer_83 (by decide) (fun c_83 => ?_) (fun c_83 => ?_)
            · have e1 : (if z = 0 then (1 : Int32) else 2) = 2 := if_neg c_83
              have e2 : (if (if z = 0 then (1 : Int32) else 2) = 1 then (2 : Int32) else 3) = if z = 0 then 2 else 3 := by rw [e1, if_neg c_83]; rfl
              refine gx_iconst (v := 2) C dX8_answer_90 (by decide) ?_
              refine gx_top e1.symm ?_
              refine gx_callV (ci := 6) (T := TX7) (N := 9) C (k7_keepAnswer l D A hs v1 k (if z = 0 then 1 else 2)) cb_X8_answer__X7_keepAnswer gX8_answer_X7_keepAnswer rfl (hG := v1.1) rfl rfl (Nat.le_of_ble_eq_true rfl) ⟨Nat.le_refl _, Nat.le_refl _⟩ dX8_answer_91 (gx_kv fun G_91 h_91 => ?_)
              obtain ⟨v2, w2⟩ := h_91
              rw [e2] at v2
              have k2 : gCw D _ X (oAnsT k z t, pRec t.2.1 t.1, t.2.2) := gCw_sv k1 v2 (gOut_wd w2 (by omega))
              have o2 := gOut_tr o1 (gOut_wd (b := X) (k := 242) w2 (by omega))
              refine gx_aload_n C dX8_answer_94 rfl ?_
              refine gx_get C fd_X8_answer_12 (hG := k2.1) (hv := by rfl) dX8_answer_95 ?_
              refine gx_getN C fd_X8_answer_99 (hG := k2.2.1.1) (hv := by rfl) dX8_answer_98 ?_
              refine gx_callV (ci := 1) (T := TX2) (N := 4) C (k2_howManyAreOpen l D A hs (gSv_li k2.2.1)) cb_X8_answer__X2_howManyAreOpen gX8_answer_X2_howManyAreOpen rfl (hG := (gSv_li k2.2.1).1) rfl rfl (Nat.le_of_ble_eq_true rfl) ⟨Nat.le_refl _, Nat.le_refl _⟩ dX8_answer_101 (gx_ki fun r_101 G_101 h_101 => ?_)
              obtain ⟨rfl, rfl⟩ := h_101
              refine gx_zret (mc := 0) C rfl ?_ dX8_answer_104
              have e : oAnswer k z t = (nI (pOpenN (oAnsT k z t).2.2.2.1.2.1 (oAnsT k z t).2.2.2.1.2.1.length), (oAnsT k z t, pRec t.2.1 t.1, t.2.2)) := by rw [oAnswer, if_neg n9, if_neg (fun q => q c_39), if_neg n2]
              exact ⟨_, rfl, by rw [e], by rw [e]; exact k2, o2⟩
            · have e1 : (if z = 0 then (1 : Int32) else 2) = 1 := if_pos c_83
              have e2 : (if (if z = 0 then (1 : Int32) else 2) = 1 then (2 : Int32) else 3) = if z = 0 then 2 else 3 := by rw [e1, if_pos c_83]; rfl
              refine gx_iconst (v := 1) C dX8_answer_86 (by decide) ?_
              refine gx_goto (tgt := 91) C dX8_answer_87 (by decide) ?_
              refine gx_top e1.symm ?_
              refine gx_callV (ci := 6) (T := TX7) (N := 9) C (k7_keepAnswer l D A hs v1 k (if z = 0 then 1 else 2)) cb_X8_answer__X7_keepAnswer gX8_answer_X7_keepAnswer rfl (hG := v1.1) rfl rfl (Nat.le_of_ble_eq_true rfl) ⟨Nat.le_refl _, Nat.le_refl _⟩ dX8_answer_91 (gx_kv fun G_91 h_91 => ?_)
              obtain ⟨v2, w2⟩ := h_91
              rw [e2] at v2
              have k2 : gCw D _ X (oAnsT k z t, pRec t.2.1 t.1, t.2.2) := gCw_sv k1 v2 (gOut_wd w2 (by omega))
              have o2 := gOut_tr o1 (gOut_wd (b := X) (k := 242) w2 (by omega))
              refine gx_aload_n C dX8_answer_94 rfl ?_
              refine gx_get C fd_X8_answer_12 (hG := k2.1) (hv := by rfl) dX8_answer_95 ?_
              refine gx_getN C fd_X8_answer_99 (hG := k2.2.1.1) (hv := by rfl) dX8_answer_98 ?_
              refine gx_callV (ci := 1) (T := TX2) (N := 4) C (k2_howManyAreOpen l D A hs (gSv_li k2.2.1)) cb_X8_answer__X2_howManyAreOpen gX8_answer_X2_howManyAreOpen rfl (hG := (gSv_li k2.2.1).1) rfl rfl (Nat.le_of_ble_eq_true rfl) ⟨Nat.le_refl _, Nat.le_refl _⟩ dX8_answer_101 (gx_ki fun r_101 G_101 h_101 => ?_)
              obtain ⟨rfl, rfl⟩ := h_101
              refine gx_zret (mc := 0) C rfl ?_ dX8_answer_104
              have e : oAnswer k z t = (nI (pOpenN (oAnsT k z t).2.2.2.1.2.1 (oAnsT k z t).2.2.2.1.2.1.length), (oAnsT k z t, pRec t.2.1 t.1, t.2.2)) := by rw [oAnswer, if_neg n9, if_neg (fun q => q c_39), if_neg n2]
              exact ⟨_, rfl, by rw [e], by rw [e]; exact k2, o2⟩
          · have q : pMeets t.1.2.2.2.1.1 t.1.2.2.2.1.2.1 (lget t.1.2.2.2.1.1 k) = true := by
              by_cases q : pMeets t.1.2.2.2.1.1 t.1.2.2.2.1.2.1 (lget t.1.2.2.2.1.1 k) = true
              · exact q
              · rw [if_pos ⟨c_39, q⟩] at c_60; exact absurd c_60 (by decide)
            have e : oAnswer k z t = (-2, t) := by rw [oAnswer, if_neg n9, if_neg (fun q => q c_39), if_pos ⟨c_46, q⟩]
            refine gx_bipush (v := (-2)) C dX8_answer_63 (by decide) ?_
            refine gx_zret (mc := 0) C rfl ?_ dX8_answer_65
            exact ⟨_, rfl, by rw [e], by rw [e]; exact h, gOut_rf⟩
      · have e : oAnswer k z t = (-2, t) := by rw [oAnswer, if_neg n9, if_pos c_39]
        refine gx_bipush (v := (-2)) C dX8_answer_42 (by decide) ?_
        refine gx_zret (mc := 0) C rfl ?_ dX8_answer_44
        exact ⟨_, rfl, by rw [e], by rw [e]; exact h, gOut_rf⟩
    · have e : oAnswer k z t = (-1, t) := if_pos (Or.inr (pOut_n c_20))
      refine gx_iconst (v := (-1)) C dX8_answer_23 (by decide) ?_
      refine gx_zret (mc := 0) C rfl ?_ dX8_answer_24
      exact ⟨_, rfl, by rw [e], by rw [e]; exact h, gOut_rf⟩
set_option maxHeartbeats 600000 in
set_option maxRecDepth 100000 in
/-- X8_finish -/
theorem k8_finish (l : Launch) (D : gD) (A : Nat → Prop) (hs : Nat) {G : gH} {X : Nat} {t : TS} (h : gCw D G X t) : gM l yX8_finish wsX8_finish (gR 5) D A hs 0 0 [.ref X] G (gPi fun x G' => x = (oFinish t).1 ∧ gCw D G' X (oFinish t).2 ∧ gOut X 242 G G') := by
  refine gM_intro (by decide) rfl rfl (Nat.le_of_ble_eq_true rfl) ?_
  intro p e s m args below meth c C
  obtain ⟨hob, hv, hh, hmt, hps⟩ := id h
  obtain ⟨pw, hpw⟩ := hps
  refine gx_aload_n C dX8_finish_0 rfl ?_
  refine gx_get C fd_X8_finish_12 (hG := hob) (hv := by rfl) dX8_finish_1 ?_
  refine gx_callV (ci := 6) (T := TX7) (N := 9) C (k7_canBeFinished l D A hs hv) cb_X8_finish__X7_canBeFinished gX8_finish_X7_canBeFinished rfl (hG := hv.1) rfl rfl (Nat.le_of_ble_eq_true rfl) ⟨Nat.le_refl _, Nat.le_refl _⟩ dX8_finish_4 (gx_ki fun r_4 G_4 h_4 => ?_)
  obtain ⟨rfl, rfl⟩ := h_4
  refine gx_if_ne (tgt := 13) C dX8_finish_7 (by decide) (fun c_7 => ?_) (fun c_7 => ?_)
  · have q : ¬ t.1.2.1 = 0 ∧ pShN t.1.2.2.1 0 t.1.2.2.1.length = 0 ∧ pShN t.1.2.2.1 1 t.1.2.2.1.length = 0 ∧ pOpenN t.1.2.2.2.1.2.1 t.1.2.2.2.1.2.1.length = 0 := by
      by_cases q : ¬ t.1.2.1 = 0 ∧ pShN t.1.2.2.1 0 t.1.2.2.1.length = 0 ∧ pShN t.1.2.2.1 1 t.1.2.2.1.length = 0 ∧ pOpenN t.1.2.2.2.1.2.1 t.1.2.2.2.1.2.1.length = 0
      · exact q
      · rw [if_neg q] at c_7; exact absurd rfl c_7
    have e : oFinish t = (nI (oOnce t).length, ((oOnce t, t.1.2.1 + 1, [], ([], [], [], []), (lset t.1.2.2.2.2.1 4 (lget t.1.2.2.2.2.1 4 + nI (pMkS t.1.2.2.1 2 t.1.2.2.1.length)), t.1.2.2.2.2.2)), pRec t.2.1 t.1, t.2.2)) := if_pos q
    refine gx_aload_n C dX8_finish_13 rfl ?_
    refine gx_get C fd_X8_finish_19 (hG := hob) (hv := by rfl) dX8_finish_14 ?_
    refine gx_aload_n C dX8_finish_17 rfl ?_
    refine gx_get C fd_X8_finish_12 (hG := hob) (hv := by rfl) dX8_finish_18 ?_
    refine gx_callV (ci := 0) (T := TX0) (N := 2) C (k0_record l D A hs hh hv (by omega)) cb_X8_finish__X0_record gX8_finish_X0_record rfl (hG := (gHist_ob hh)) rfl rfl (Nat.le_of_ble_eq_true rfl) ⟨Nat.le_refl _, Nat.le_refl _⟩ dX8_finish_21 (gx_kv fun G_21 h_21 => ?_)
    have k1 := gCw_hi h h_21.1 h_21.2
    have v1 := k1.2.1
    have o1 := gOut_wd (b := X) (k := 242) h_21.2 (by omega)
    obtain ⟨q1w, q1⟩ := k1.2.2.2.2
    refine gx_aload_n C dX8_finish_24 rfl ?_
    refine gx_get C fd_X8_finish_12 (hG := k1.1) (hv := by rfl) dX8_finish_25 ?_
    refine gx_aload_n C dX8_finish_28 rfl ?_
    refine gx_get C fd_X8_finish_33 (hG := k1.1) (hv := by rfl) dX8_finish_29 ?_
    refine gx_aload_n C dX8_finish_32 rfl ?_
    refine gx_get C fd_X8_finish_12 (hG := k1.1) (hv := by rfl) dX8_finish_33 ?_
    refine gx_getN C fd_X8_finish_45 (hG := v1.1) (hv := by rfl) dX8_finish_36 ?_
    refine gx_aload_n C dX8_finish_39 rfl ?_
    refine gx_get C fd_X8_finish_12 (hG := k1.1) (hv := by rfl) dX8_finish_40 ?_
    refine gx_getN C fd_X8_finish_99 (hG := v1.1) (hv := by rfl) dX8_finish_43 ?_
    refine gx_callV (ci := 3) (T := TX4) (N := 4) C (k4_printAtOnce l D A hs q1 (gSv_tx v1) (gSv_li v1) (by omega) (by omega) (gRow_le (gSv_tx v1)).1) cb_X8_finish__X4_printAtOnce gX8_finish_X4_printAtOnce rfl (hG := q1.1) rfl rfl (Nat.le_of_ble_eq_true rfl) ⟨Nat.le_refl _, Nat.le_refl _⟩ dX8_finish_46 (gx_kr fun w_46 G_46 hw_46 h_46 => ?_)
    obtain ⟨ew, ⟨ah, ins, pp⟩, ow⟩ := h_46
    subst ew
    have k2 := gCw_ps k1 pp ow
    have v2 := k2.2.1
    have o2 := gOut_tr o1 (gOut_wd (b := X) (k := 242) ow (by omega))
    refine gx_callV (ci := 6) (T := TX7) (N := 9) C (k7_endRound l D A hs v2 pp.2.2.2.2 (by omega) oOnce_n) cb_X8_finish__X7_endRound gX8_finish_X7_endRound rfl (hG := v2.1) rfl rfl (Nat.le_of_ble_eq_true rfl) ⟨Nat.le_refl _, Nat.le_refl _⟩ dX8_finish_49 (gx_kv fun G_49 h_49 => ?_)
    have k3 := gCw_sv k2 h_49.1 h_49.2
    have o3 := gOut_tr o2 (gOut_wd (b := X) (k := 242) h_49.2 (by omega))
    refine gx_aload_n C dX8_finish_52 rfl ?_
    refine gx_get C fd_X8_finish_12 (hG := k3.1) (hv := by rfl) dX8_finish_53 ?_
    refine gx_getN C fd_X8_finish_45 (hG := k3.2.1.1) (hv := by rfl) dX8_finish_56 ?_
    refine gx_callV (ci := 4) (T := TX5) (N := 2) C (k5_used l D A hs (gSv_tx k3.2.1)) cb_X8_finish__X5_used gX8_finish_X5_used rfl (hG := (gRow_ob (gSv_tx k3.2.1))) rfl rfl (Nat.le_of_ble_eq_true rfl) ⟨Nat.le_refl _, Nat.le_refl _⟩ dX8_finish_59 (gx_ki fun r_59 G_59 h_59 => ?_)
    obtain ⟨rfl, rfl⟩ := h_59
    refine gx_zret (mc := 0) C rfl ?_ dX8_finish_62
    exact ⟨_, rfl, by rw [e]; rfl, by rw [e]; exact k3, o3⟩
  · have q : ¬ (¬ t.1.2.1 = 0 ∧ pShN t.1.2.2.1 0 t.1.2.2.1.length = 0 ∧ pShN t.1.2.2.1 1 t.1.2.2.1.length = 0 ∧ pOpenN t.1.2.2.2.1.2.1 t.1.2.2.2.1.2.1.length = 0) := fun q => by
      rw [if_pos q] at c_7; exact absurd c_7 (by decide)
    have e : oFinish t = (-2, t) := if_neg q
    refine gx_bipush (v := (-2)) C dX8_finish_10 (by decide) ?_
    refine gx_zret (mc := 0) C rfl ?_ dX8_finish_12
    exact ⟨_, rfl, by rw [e], by rw [e]; exact h, gOut_rf⟩
set_option maxHeartbeats 600000 in
set_option maxRecDepth 100000 in
/-- X8_would -/
theorem k8_would (l : Launch) (D : gD) (A : Nat → Prop) (hs : Nat) {G : gH} {X : Nat} {t : TS} (h : gCw D G X t) (z : Int32) : gM l yX8_would wsX8_would (gR 4) D A hs 0 0 [.ref X, .int z] G (gPi fun x G' => x = oChr (oOnce t) z ∧ gCw D G' X t ∧ gOut X 242 G G') := by
  refine gM_intro (by decide) rfl rfl (Nat.le_of_ble_eq_true rfl) ?_
  intro p e s m args below meth c C
  obtain ⟨hob, hv, hh, hmt, hps⟩ := id h
  obtain ⟨pw, hpw⟩ := hps
  refine gx_aload_n C dX8_would_0 rfl ?_
  refine gx_get C fd_X8_would_33 (hG := hob) (hv := by rfl) dX8_would_1 ?_
  refine gx_aload_n C dX8_would_4 rfl ?_
  refine gx_get C fd_X8_would_12 (hG := hob) (hv := by rfl) dX8_would_5 ?_
  refine gx_getN C fd_X8_would_45 (hG := hv.1) (hv := by rfl) dX8_would_8 ?_
  refine gx_aload_n C dX8_would_11 rfl ?_
  refine gx_get C fd_X8_would_12 (hG := hob) (hv := by rfl) dX8_would_12 ?_
  refine gx_getN C fd_X8_would_99 (hG := hv.1) (hv := by rfl) dX8_would_15 ?_
  refine gx_callV (ci := 3) (T := TX4) (N := 4) C (k4_printAtOnce l D A hs hpw (gSv_tx hv) (gSv_li hv) (by omega) (by omega) (gRow_le (gSv_tx hv)).1) cb_X8_would__X4_printAtOnce gX8_would_X4_printAtOnce rfl (hG := hpw.1) rfl rfl (Nat.le_of_ble_eq_true rfl) ⟨Nat.le_refl _, Nat.le_refl _⟩ dX8_would_18 (gx_kr fun w_18 G_18 hw_18 h_18 => ?_)
  obtain ⟨ew, ⟨ah, ins, pp⟩, ow⟩ := h_18
  subst ew
  have k2 := gCw_ps h pp ow
  refine gx_iload_n C dX8_would_21 rfl ?_
  refine gx_callS C (k8_characterIn l D A hs pp.2.2.2.2 z) cb_X8_would__X8_characterIn gX8_would_X8_characterIn rfl rfl (Nat.le_of_ble_eq_true rfl) ⟨Nat.le_refl _, Nat.le_refl _⟩ dX8_would_22 (gx_ki fun r_22 G_22 h_22 => ?_)
  obtain ⟨rfl, rfl⟩ := h_22
  refine gx_zret (mc := 0) C rfl ?_ dX8_would_25
  exact ⟨_, rfl, rfl, k2, gOut_wd ow (by omega)⟩
set_option maxHeartbeats 600000 in
set_option maxRecDepth 100000 in
/-- X8_again -/
theorem k8_again (l : Launch) (D : gD) (A : Nat → Prop) (hs : Nat) {G : gH} {X : Nat} {t : TS} (h : gCw D G X t) (z : Int32) : gM l yX8_again wsX8_again (gR 5) D A hs 0 0 [.ref X, .int z] G (gPi fun x G' => x = oChr (pTurn t.1.1 t.1.2.2.2.1.1 t.1.2.2.2.1.2.1) z ∧ gCw D G' X t ∧ gOut X 242 G G') := by
  refine gM_intro (by decide) rfl rfl (Nat.le_of_ble_eq_true rfl) ?_
  intro p e s m args below meth c C
  obtain ⟨hob, hv, hh, hmt, hps⟩ := id h
  obtain ⟨pw, hpw⟩ := hps
  refine gx_aload_n C dX8_again_0 rfl ?_
  refine gx_get C fd_X8_again_33 (hG := hob) (hv := by rfl) dX8_again_1 ?_
  refine gx_aload_n C dX8_again_4 rfl ?_
  refine gx_get C fd_X8_again_12 (hG := hob) (hv := by rfl) dX8_again_5 ?_
  refine gx_getN C fd_X8_again_45 (hG := hv.1) (hv := by rfl) dX8_again_8 ?_
  refine gx_aload_n C dX8_again_11 rfl ?_
  refine gx_get C fd_X8_again_12 (hG := hob) (hv := by rfl) dX8_again_12 ?_
  refine gx_getN C fd_X8_again_99 (hG := hv.1) (hv := by rfl) dX8_again_15 ?_
  refine gx_callV (ci := 3) (T := TX4) (N := 4) C (k4_printInTurn l D A hs hpw (gSv_tx hv) (gSv_li hv) (by omega) (by omega) (gRow_le (gSv_tx hv)).1) cb_X8_again__X4_printInTurn gX8_again_X4_printInTurn rfl (hG := hpw.1) rfl rfl (Nat.le_of_ble_eq_true rfl) ⟨Nat.le_refl _, Nat.le_refl _⟩ dX8_again_18 (gx_kr fun w_18 G_18 hw_18 h_18 => ?_)
  obtain ⟨ew, ⟨tu, pp⟩, ow⟩ := h_18
  subst ew
  have k2 := gCw_ps h pp ow
  refine gx_iload_n C dX8_again_21 rfl ?_
  refine gx_callS C (k8_characterIn l D A hs pp.2.2.2.2 z) cb_X8_again__X8_characterIn gX8_again_X8_characterIn rfl rfl (Nat.le_of_ble_eq_true rfl) ⟨Nat.le_refl _, Nat.le_refl _⟩ dX8_again_22 (gx_ki fun r_22 G_22 h_22 => ?_)
  obtain ⟨rfl, rfl⟩ := h_22
  refine gx_zret (mc := 0) C rfl ?_ dX8_again_25
  exact ⟨_, rfl, rfl, k2, gOut_wd ow (by omega)⟩
set_option maxHeartbeats 600000 in
set_option maxRecDepth 100000 in
/-- X8_reader -/
theorem k8_reader (l : Launch) (D : gD) (A : Nat → Prop) (hs : Nat) {G : gH} {X : Nat} {t : TS} (h : gCw D G X t) (r w : Int32) : gM l yX8_reader wsX8_reader (gR 2) D A hs 0 0 [.ref X, .int r, .int w] G (gPi fun x G' => x = oReader r w t ∧ gCw D G' X t ∧ gOut X 242 G G') := by
  refine gM_intro (by decide) rfl rfl (Nat.le_of_ble_eq_true rfl) ?_
  intro p e s m args below meth c C
  obtain ⟨hob, hv, hh, hmt, hps⟩ := id h
  refine gx_iload_n C dX8_reader_0 rfl ?_
  refine gx_callS C (k8_isNoReader l D A hs r) cb_X8_reader__X8_isNoReader gX8_reader_X8_isNoReader rfl rfl (Nat.le_of_ble_eq_true rfl) ⟨Nat.le_refl _, Nat.le_refl _⟩ dX8_reader_1 (gx_ki fun r_1 G_1 h_1 => ?_)
  obtain ⟨rfl, rfl⟩ := h_1
  refine gx_if_eq (tgt := 9) C dX8_reader_4 (by decide) (fun c_4 => ?_) (fun c_4 => ?_)
  · have n1 : ¬ pOut r 0 5 = 1 := by rw [c_4]; decide
    refine gx_iload_n C dX8_reader_9 rfl ?_
    refine gx_split 0 (fun c_10_0 => ?_) (fun c_10_0 => ?_)
    · refine gx_tableIn (off := 30) (tgt := 40) C dX8_reader_10 (by rw [c_10_0]; decide) (by rw [c_10_0]; decide) (by rw [c_10_0]; rfl) (by decide) ?_
      have e : oReader r w t = lget t.1.2.2.2.2.2.1 r := by rw [oReader, if_neg n1, if_pos c_10_0]
      refine gx_aload_n C dX8_reader_40 rfl ?_
      refine gx_get C fd_X8_reader_12 (hG := hob) (hv := by rfl) dX8_reader_41 ?_
      refine gx_getN C fd_X8_reader_199 (hG := hv.1) (hv := by rfl) dX8_reader_44 ?_
      refine gx_iload_n C dX8_reader_47 rfl ?_
      refine gx_callV (ci := 4) (T := TX5) (N := 2) C (k5_get l D A hs r (gSv_ac hv).2.1) cb_X8_reader__X5_get gX8_reader_X5_get rfl (hG := (gRow_ob (gSv_ac hv).2.1)) rfl rfl (Nat.le_of_ble_eq_true rfl) ⟨Nat.le_refl _, Nat.le_refl _⟩ dX8_reader_48 (gx_ki fun r_48 G_48 h_48 => ?_)
      obtain ⟨rfl, rfl⟩ := h_48
      refine gx_zret (mc := 0) C rfl ?_ dX8_reader_51
      exact ⟨_, rfl, e.symm, h, gOut_rf⟩
    -- else
    refine gx_split 1 (fun c_10_1 => ?_) (fun c_10_1 => ?_)
    · refine gx_tableIn (off := 42) (tgt := 52) C dX8_reader_10 (by rw [c_10_1]; decide) (by rw [c_10_1]; decide) (by rw [c_10_1]; rfl) (by decide) ?_
      have e : oReader r w t = lget t.1.2.2.2.2.2.2.1 r := by rw [oReader, if_neg n1, if_neg c_10_0, if_pos c_10_1]
      refine gx_aload_n C dX8_reader_52 rfl ?_
      refine gx_get C fd_X8_reader_12 (hG := hob) (hv := by rfl) dX8_reader_53 ?_
      refine gx_getN C fd_X8_reader_202 (hG := hv.1) (hv := by rfl) dX8_reader_56 ?_
      refine gx_iload_n C dX8_reader_59 rfl ?_
      refine gx_callV (ci := 4) (T := TX5) (N := 2) C (k5_get l D A hs r (gSv_ac hv).2.2.1) cb_X8_reader__X5_get gX8_reader_X5_get rfl (hG := (gRow_ob (gSv_ac hv).2.2.1)) rfl rfl (Nat.le_of_ble_eq_true rfl) ⟨Nat.le_refl _, Nat.le_refl _⟩ dX8_reader_60 (gx_ki fun r_60 G_60 h_60 => ?_)
      obtain ⟨rfl, rfl⟩ := h_60
      refine gx_zret (mc := 0) C rfl ?_ dX8_reader_63
      exact ⟨_, rfl, e.symm, h, gOut_rf⟩
    -- else
    refine gx_split 2 (fun c_10_2 => ?_) (fun c_10_2 => ?_)
    · refine gx_tableIn (off := 54) (tgt := 64) C dX8_reader_10 (by rw [c_10_2]; decide) (by rw [c_10_2]; decide) (by rw [c_10_2]; rfl) (by decide) ?_
      have e : oReader r w t = lget t.1.2.2.2.2.2.2.2 r := by rw [oReader, if_neg n1, if_neg c_10_0, if_neg c_10_1, if_pos c_10_2]
      refine gx_aload_n C dX8_reader_64 rfl ?_
      refine gx_get C fd_X8_reader_12 (hG := hob) (hv := by rfl) dX8_reader_65 ?_
      refine gx_getN C fd_X8_reader_205 (hG := hv.1) (hv := by rfl) dX8_reader_68 ?_
      refine gx_iload_n C dX8_reader_71 rfl ?_
      refine gx_callV (ci := 4) (T := TX5) (N := 2) C (k5_get l D A hs r (gSv_ac hv).2.2.2) cb_X8_reader__X5_get gX8_reader_X5_get rfl (hG := (gRow_ob (gSv_ac hv).2.2.2)) rfl rfl (Nat.le_of_ble_eq_true rfl) ⟨Nat.le_refl _, Nat.le_refl _⟩ dX8_reader_72 (gx_ki fun r_72 G_72 h_72 => ?_)
      obtain ⟨rfl, rfl⟩ := h_72
      refine gx_zret (mc := 0) C rfl ?_ dX8_reader_75
      exact ⟨_, rfl, e.symm, h, gOut_rf⟩
    -- else
    refine gx_split 3 (fun c_10_3 => ?_) (fun c_10_3 => ?_)
    · refine gx_tableIn (off := 66) (tgt := 76) C dX8_reader_10 (by rw [c_10_3]; decide) (by rw [c_10_3]; decide) (by rw [c_10_3]; rfl) (by decide) ?_
      have e : oReader r w t = (if pBusy t.1.2.2.1 r = true then 1 else 0) := by rw [oReader, if_neg n1, if_neg c_10_0, if_neg c_10_1, if_neg c_10_2, if_pos c_10_3]
      refine gx_aload_n C dX8_reader_76 rfl ?_
      refine gx_get C fd_X8_reader_12 (hG := hob) (hv := by rfl) dX8_reader_77 ?_
      refine gx_iload_n C dX8_reader_80 rfl ?_
      refine gx_callV (ci := 6) (T := TX7) (N := 9) C (k7_hasSheetOut l D A hs hv r) cb_X8_reader__X7_hasSheetOut gX8_reader_X7_hasSheetOut rfl (hG := hv.1) rfl rfl (Nat.le_of_ble_eq_true rfl) ⟨Nat.le_refl _, Nat.le_refl _⟩ dX8_reader_81 (gx_ki fun r_81 G_81 h_81 => ?_)
      obtain ⟨rfl, rfl⟩ := h_81
      refine gx_if_eq (tgt := 91) C dX8_reader_84 (by decide) (fun c_84 => ?_) (fun c_84 => ?_)
      · rw [c_84] at e
        refine gx_iconst (v := 0) C dX8_reader_91 (by decide) ?_
        refine gx_zret (mc := 0) C rfl ?_ dX8_reader_92
        exact ⟨_, rfl, e.symm, h, gOut_rf⟩
      · have e1 : (if pBusy t.1.2.2.1 r = true then (1 : Int32) else 0) = 1 := by
          by_cases q : pBusy t.1.2.2.1 r = true
          · exact if_pos q
          · exact absurd (if_neg q) c_84
        rw [e1] at e
        refine gx_iconst (v := 1) C dX8_reader_87 (by decide) ?_
        refine gx_goto (tgt := 92) C dX8_reader_88 (by decide) ?_
        refine gx_zret (mc := 0) C rfl ?_ dX8_reader_92
        exact ⟨_, rfl, e.symm, h, gOut_rf⟩
    -- else
    refine gx_tableOut (tgt := 93) C dX8_reader_10 (by have q_0 := gz_ne (n := 0) (by decide) c_10_0; have q_1 := gz_ne (n := 1) (by decide) c_10_1; have q_2 := gz_ne (n := 2) (by decide) c_10_2; have q_3 := gz_ne (n := 3) (by decide) c_10_3; omega) (by decide) ?_
    have e : oReader r w t = -1 := by rw [oReader, if_neg n1, if_neg c_10_0, if_neg c_10_1, if_neg c_10_2, if_neg c_10_3]
    refine gx_iconst (v := (-1)) C dX8_reader_93 (by decide) ?_
    refine gx_zret (mc := 0) C rfl ?_ dX8_reader_94
    exact ⟨_, rfl, e.symm, h, gOut_rf⟩
  · have e : oReader r w t = -1 := if_pos (pOut_n c_4)
    refine gx_iconst (v := (-1)) C dX8_reader_7 (by decide) ?_
    refine gx_zret (mc := 0) C rfl ?_ dX8_reader_8
    exact ⟨_, rfl, e.symm, h, gOut_rf⟩
set_option maxHeartbeats 600000 in
set_option maxRecDepth 100000 in
/-- X8_type -/
theorem k8_type (l : Launch) (D : gD) (A : Nat → Prop) (hs : Nat) {G : gH} {X : Nat} {t : TS} (h : gCw D G X t) (z : Int32) : gM l yX8_type wsX8_type (gR 2) D A hs 0 0 [.ref X, .int z] G (gPi fun x G' => x = (oType z t).1 ∧ gCw D G' X (oType z t).2 ∧ gOut X 242 G G') := by
  refine gM_intro (by decide) rfl rfl (Nat.le_of_ble_eq_true rfl) ?_
  intro p e s m args below meth c C
  obtain ⟨hob, hv, hh, hmt, hps⟩ := id h
  obtain ⟨cd0, st0, cu0, re0, hm0⟩ := hmt
  have bs := gRow_le hm0.2.1
  refine gx_iload_n C dX8_type_0 rfl ?_
  refine gx_callS C (k8_isNoCharacter l D A hs z) cb_X8_type__X8_isNoCharacter gX8_type_X8_isNoCharacter rfl rfl (Nat.le_of_ble_eq_true rfl) ⟨Nat.le_refl _, Nat.le_refl _⟩ dX8_type_1 (gx_ki fun r_1 G_1 h_1 => ?_)
  obtain ⟨rfl, rfl⟩ := h_1
  refine gx_if_eq (tgt := 9) C dX8_type_4 (by decide) (fun c_4 => ?_) (fun c_4 => ?_)
  · have n1 : ¬ pOut z 32 126 = 1 := by rw [c_4]; decide
    refine gx_aload_n C dX8_type_9 rfl ?_
    refine gx_get C fd_X8_type_26 (hG := hob) (hv := by rfl) dX8_type_10 ?_
    refine gx_getN C fd_X8_type_145 (hG := hm0.1) (hv := by rfl) dX8_type_13 ?_
    refine gx_callV (ci := 4) (T := TX5) (N := 2) C (k5_used l D A hs hm0.2.1) cb_X8_type__X5_used gX8_type_X5_used rfl (hG := (gRow_ob hm0.2.1)) rfl rfl (Nat.le_of_ble_eq_true rfl) ⟨Nat.le_refl _, Nat.le_refl _⟩ dX8_type_16 (gx_ki fun r_16 G_16 h_16 => ?_)
    obtain ⟨rfl, rfl⟩ := h_16
    refine gx_bipush (v := 80) C dX8_type_19 (by decide) ?_
    refine gx_icmp_lt (tgt := 27) C dX8_type_21 (by decide) (fun c_21 => ?_) (fun c_21 => ?_)
    · have hlt : t.2.2.length < 80 := (nI_ltI (by omega) (by omega)).mp c_21
      have e : oType z t = (nI (t.2.2.length + 1), (t.1, t.2.1, t.2.2 ++ [z])) := by rw [oType, if_neg n1, if_neg (by omega)]
      refine gx_aload_n C dX8_type_27 rfl ?_
      refine gx_get C fd_X8_type_26 (hG := hob) (hv := by rfl) dX8_type_28 ?_
      refine gx_getN C fd_X8_type_145 (hG := hm0.1) (hv := by rfl) dX8_type_31 ?_
      refine gx_iload_n C dX8_type_34 rfl ?_
      refine gx_callV (ci := 4) (T := TX5) (N := 2) C (k5_append l D A hs z hm0.2.1) cb_X8_type__X5_append gX8_type_X5_append rfl (hG := (gRow_ob hm0.2.1)) rfl rfl (Nat.le_of_ble_eq_true rfl) ⟨Nat.le_refl _, Nat.le_refl _⟩ dX8_type_35 (gx_kv fun G_35 h_35 => ?_)
      have a9 := h_35.1
      rw [lapp, if_pos hlt] at a9
      have m2 := gMt_sg hm0 a9 h_35.2
      have k2 := gCw_mt h m2 (gOut_wd h_35.2 (by omega))
      refine gx_aload_n C dX8_type_38 rfl ?_
      refine gx_get C fd_X8_type_26 (hG := k2.1) (hv := by rfl) dX8_type_39 ?_
      refine gx_getN C fd_X8_type_145 (hG := m2.1) (hv := by rfl) dX8_type_42 ?_
      refine gx_callV (ci := 4) (T := TX5) (N := 2) C (k5_used l D A hs m2.2.1) cb_X8_type__X5_used gX8_type_X5_used rfl (hG := (gRow_ob m2.2.1)) rfl rfl (Nat.le_of_ble_eq_true rfl) ⟨Nat.le_refl _, Nat.le_refl _⟩ dX8_type_45 (gx_ki fun r_45 G_45 h_45 => ?_)
      obtain ⟨rfl, rfl⟩ := h_45
      refine gx_zret (mc := 0) C rfl ?_ dX8_type_48
      exact ⟨_, rfl, by rw [e]; show nI (t.2.2 ++ [z]).length = _; rw [List.length_append]; rfl, by rw [e]; exact k2, gOut_wd h_35.2 (by omega)⟩
    · have hge : 80 ≤ t.2.2.length := by
        rcases Nat.lt_or_ge t.2.2.length 80 with q | q
        · exact absurd (nI_lt q (by omega)) c_21
        · exact q
      have e : oType z t = (-3, t) := by rw [oType, if_neg n1, if_pos hge]
      refine gx_bipush (v := (-3)) C dX8_type_24 (by decide) ?_
      refine gx_zret (mc := 0) C rfl ?_ dX8_type_26
      exact ⟨_, rfl, by rw [e], by rw [e]; exact h, gOut_rf⟩
  · have e : oType z t = (-1, t) := if_pos (pOut_n c_4)
    refine gx_iconst (v := (-1)) C dX8_type_7 (by decide) ?_
    refine gx_zret (mc := 0) C rfl ?_ dX8_type_8
    exact ⟨_, rfl, by rw [e], by rw [e]; exact h, gOut_rf⟩
set_option maxHeartbeats 600000 in
set_option maxRecDepth 100000 in
/-- X8_clearText -/
theorem k8_clearText (l : Launch) (D : gD) (A : Nat → Prop) (hs : Nat) {G : gH} {X : Nat} {t : TS} (h : gCw D G X t) : gM l yX8_clearText wsX8_clearText (gR 1) D A hs 0 0 [.ref X] G (gPi fun x G' => x = nI t.2.2.length ∧ gCw D G' X (t.1, t.2.1, []) ∧ gOut X 242 G G') := by
  refine gM_intro (by decide) rfl rfl (Nat.le_of_ble_eq_true rfl) ?_
  intro p e s m args below meth c C
  obtain ⟨hob, hv, hh, hmt, hps⟩ := id h
  obtain ⟨cd0, st0, cu0, re0, hm0⟩ := hmt
  have bs := gRow_le hm0.2.1
  refine gx_aload_n C dX8_clearText_0 rfl ?_
  refine gx_get C fd_X8_clearText_26 (hG := hob) (hv := by rfl) dX8_clearText_1 ?_
  refine gx_getN C fd_X8_clearText_145 (hG := hm0.1) (hv := by rfl) dX8_clearText_4 ?_
  refine gx_callV (ci := 4) (T := TX5) (N := 2) C (k5_used l D A hs hm0.2.1) cb_X8_clearText__X5_used gX8_clearText_X5_used rfl (hG := (gRow_ob hm0.2.1)) rfl rfl (Nat.le_of_ble_eq_true rfl) ⟨Nat.le_refl _, Nat.le_refl _⟩ dX8_clearText_7 (gx_ki fun r_7 G_7 h_7 => ?_)
  obtain ⟨rfl, rfl⟩ := h_7
  refine gx_istore_n C dX8_clearText_10 (by decide) ?_
  refine gx_aload_n C dX8_clearText_11 rfl ?_
  refine gx_get C fd_X8_clearText_26 (hG := hob) (hv := by rfl) dX8_clearText_12 ?_
  refine gx_getN C fd_X8_clearText_145 (hG := hm0.1) (hv := by rfl) dX8_clearText_15 ?_
  refine gx_iconst (v := 0) C dX8_clearText_18 (by decide) ?_
  refine gx_callV (ci := 4) (T := TX5) (N := 2) C (k5_cutTo l D A hs 0 hm0.2.1) cb_X8_clearText__X5_cutTo gX8_clearText_X5_cutTo rfl (hG := (gRow_ob hm0.2.1)) rfl rfl (Nat.le_of_ble_eq_true rfl) ⟨Nat.le_refl _, Nat.le_refl _⟩ dX8_clearText_19 (gx_kv fun G_19 h_19 => ?_)
  rw [lcut_0] at h_19
  have m2 := gMt_sg hm0 h_19.1 h_19.2
  have k2 := gCw_mt h m2 (gOut_wd h_19.2 (by omega))
  refine gx_iload_n C dX8_clearText_22 rfl ?_
  refine gx_zret (mc := 0) C rfl ?_ dX8_clearText_23
  exact ⟨_, rfl, rfl, k2, gOut_wd h_19.2 (by omega)⟩
set_option maxHeartbeats 600000 in
set_option maxRecDepth 100000 in
/-- X8_fault -/
theorem k8_fault_in (l : Launch) (D : gD) (A : Nat → Prop) (hs : Nat) {G : gH} {X : Nat} {t : TS} (h : gCw D G X t) {j : Nat} (hj : j < t.1.2.2.1.length) (w : Int32) : gM l yX8_fault wsX8_fault (gR 8) D A hs 0 0 [.ref X, .int (nI j), .int w] G (gPi fun x G' => x = oFault (nI j) w t ∧ gCw D G' X t ∧ gOut X 242 G G') := by
  refine gM_intro (by decide) rfl rfl (Nat.le_of_ble_eq_true rfl) ?_
  intro p e s m args below meth c C
  obtain ⟨hob, hv, hh, hmt, hps⟩ := id h
  obtain ⟨cd0, st0, cu0, re0, hm0⟩ := hmt
  have bs := gRow_le hm0.2.1
  have bn := gSv_n hv
  refine gx_aload_n C dX8_fault_0 rfl ?_
  refine gx_get C fd_X8_fault_12 (hG := hob) (hv := by rfl) dX8_fault_1 ?_
  refine gx_iload_n C dX8_fault_4 rfl ?_
  refine gx_callV (ci := 6) (T := TX7) (N := 9) C (k7_sheetAt l D A hs hv j hj) cb_X8_fault__X7_sheetNumbered gX8_fault_X7_sheetNumbered rfl (hG := hv.1) rfl rfl (Nat.le_of_ble_eq_true rfl) ⟨Nat.le_refl _, Nat.le_refl _⟩ dX8_fault_5 (gx_kr fun w_5 G_5 hw_5 h_5 => ?_)
  obtain ⟨rfl, rfl⟩ := h_5
  have sj := gSv_gd hv hj
  refine gx_astore_n C dX8_fault_8 (by decide) ?_
  refine gx_aload_n C dX8_fault_9 rfl ?_
  refine gx_ifnull C dX8_fault_10 ?_
  refine gx_iload_n C dX8_fault_13 rfl ?_
  refine gx_iconst (v := 0) C dX8_fault_14 (by decide) ?_
  refine gx_iconst (v := 1) C dX8_fault_15 (by decide) ?_
  refine gx_callS C (k8_isOutside l D A hs w 0 1) cb_X8_fault__X8_isOutside gX8_fault_X8_isOutside rfl rfl (Nat.le_of_ble_eq_true rfl) ⟨Nat.le_refl _, Nat.le_refl _⟩ dX8_fault_16 (gx_ki fun r_16 G_16 h_16 => ?_)
  obtain ⟨rfl, rfl⟩ := h_16
  refine gx_if_eq (tgt := 24) C dX8_fault_19 (by decide) (fun c_19 => ?_) (fun c_19 => ?_)
  · have n1 : ¬ pOut w 0 1 = 1 := by rw [c_19]; decide
    refine gx_aload_n C dX8_fault_24 rfl ?_
    refine gx_get C fd_X8_fault_26 (hG := hob) (hv := by rfl) dX8_fault_25 ?_
    refine gx_aload_n C dX8_fault_28 rfl ?_
    refine gx_getN C fd_X8_fault_96 (hG := sj.1) (hv := by rfl) dX8_fault_29 ?_
    refine gx_aload_n C dX8_fault_32 rfl ?_
    refine gx_get C fd_X8_fault_12 (hG := hob) (hv := by rfl) dX8_fault_33 ?_
    refine gx_getN C fd_X8_fault_45 (hG := hv.1) (hv := by rfl) dX8_fault_36 ?_
    refine gx_callV (ci := 4) (T := TX5) (N := 2) C (k5_used l D A hs (gSv_tx hv)) cb_X8_fault__X5_used gX8_fault_X5_used rfl (hG := (gRow_ob (gSv_tx hv))) rfl rfl (Nat.le_of_ble_eq_true rfl) ⟨Nat.le_refl _, Nat.le_refl _⟩ dX8_fault_39 (gx_ki fun r_39 G_39 h_39 => ?_)
    obtain ⟨rfl, rfl⟩ := h_39
    refine gx_callV (ci := 2) (T := TX3) (N := 5) C (k3_readFor l D A hs hm0 sj.2 (by omega) (nI t.1.1.length)) cb_X8_fault__X3_readFor gX8_fault_X3_readFor rfl (hG := hm0.1) rfl rfl (Nat.le_of_ble_eq_true rfl) ⟨Nat.le_refl _, Nat.le_refl _⟩ dX8_fault_42 (gx_kv fun G_42 h_42 => ?_)
    obtain ⟨⟨st2, cu2, m2, s2⟩, ow⟩ := h_42
    have k2 : gCw D _ X t := gCw_mt h m2 (gOut_wd ow (by omega))
    have o2 := gOut_wd (b := X) (k := 242) ow (by omega)
    refine gx_aload_n C dX8_fault_45 rfl ?_
    refine gx_get C fd_X8_fault_26 (hG := k2.1) (hv := by rfl) dX8_fault_46 ?_
    refine gx_getN C fd_X8_fault_215 (hG := m2.1) (hv := by rfl) dX8_fault_49 ?_
    refine gx_if_ne (tgt := 58) C dX8_fault_52 (by decide) (fun c_52 => ?_) (fun c_52 => ?_)
    · refine gx_iload_n C dX8_fault_58 rfl ?_
      refine gx_if_ne (tgt := 72) C dX8_fault_59 (by decide) (fun c_59 => ?_) (fun c_59 => ?_)
      · have e : oFault (nI j) w t = (oRead t j).2.2 := by rw [oFault, oIx_in hj (by omega)]; show (if pOut w 0 1 = 1 then _ else _) = _; rw [if_neg n1]; exact (if_neg c_52).trans (if_neg c_59)
        refine gx_aload_n C dX8_fault_72 rfl ?_
        refine gx_get C fd_X8_fault_26 (hG := k2.1) (hv := by rfl) dX8_fault_73 ?_
        refine gx_getN C fd_X8_fault_215 (hG := m2.1) (hv := by rfl) dX8_fault_76 ?_
        refine gx_zret (mc := 0) C rfl ?_ dX8_fault_79
        exact ⟨_, rfl, e.symm, k2, o2⟩
      · have e : oFault (nI j) w t = st2 := by rw [oFault, oIx_in hj (by omega)]; show (if pOut w 0 1 = 1 then _ else _) = _; rw [if_neg n1]; exact (if_neg c_52).trans ((if_pos c_59).trans (s2 c_52).symm)
        refine gx_aload_n C dX8_fault_62 rfl ?_
        refine gx_get C fd_X8_fault_26 (hG := k2.1) (hv := by rfl) dX8_fault_63 ?_
        refine gx_getN C fd_X8_fault_218 (hG := m2.1) (hv := by rfl) dX8_fault_66 ?_
        refine gx_goto (tgt := 79) C dX8_fault_69 (by decide) ?_
        refine gx_zret (mc := 0) C rfl ?_ dX8_fault_79
        exact ⟨_, rfl, e.symm, k2, o2⟩
    · have e : oFault (nI j) w t = -4 := by rw [oFault, oIx_in hj (by omega)]; show (if pOut w 0 1 = 1 then _ else _) = _; rw [if_neg n1]; exact if_pos c_52
      refine gx_bipush (v := (-4)) C dX8_fault_55 (by decide) ?_
      refine gx_zret (mc := 0) C rfl ?_ dX8_fault_57
      exact ⟨_, rfl, e.symm, k2, o2⟩
  · have e : oFault (nI j) w t = -1 := by rw [oFault, oIx_in hj (by omega)]; show (if pOut w 0 1 = 1 then _ else _) = _; rw [if_pos (pOut_n c_19)]
    refine gx_iconst (v := (-1)) C dX8_fault_22 (by decide) ?_
    refine gx_zret (mc := 0) C rfl ?_ dX8_fault_23
    exact ⟨_, rfl, e.symm, h, gOut_rf⟩
set_option maxHeartbeats 600000 in
set_option maxRecDepth 100000 in
/-- X8_fault -/
theorem k8_fault_no (l : Launch) (D : gD) (A : Nat → Prop) (hs : Nat) {G : gH} {X : Nat} {t : TS} (h : gCw D G X t) (i : Int32) (hi : ¬ gIn i t.1.2.2.1.length = true) (w : Int32) : gM l yX8_fault wsX8_fault (gR 8) D A hs 0 0 [.ref X, .int i, .int w] G (gPi fun x G' => x = oFault i w t ∧ gCw D G' X t ∧ gOut X 242 G G') := by
  refine gM_intro (by decide) rfl rfl (Nat.le_of_ble_eq_true rfl) ?_
  intro p e s m args below meth c C
  obtain ⟨hob, hv, hh, hmt, hps⟩ := id h
  obtain ⟨cd0, st0, cu0, re0, hm0⟩ := hmt
  have bs := gRow_le hm0.2.1
  have bn := gSv_n hv
  refine gx_aload_n C dX8_fault_0 rfl ?_
  refine gx_get C fd_X8_fault_12 (hG := hob) (hv := by rfl) dX8_fault_1 ?_
  refine gx_iload_n C dX8_fault_4 rfl ?_
  refine gx_callV (ci := 6) (T := TX7) (N := 9) C (k7_sheetNo l D A hs hv i hi) cb_X8_fault__X7_sheetNumbered gX8_fault_X7_sheetNumbered rfl (hG := hv.1) rfl rfl (Nat.le_of_ble_eq_true rfl) ⟨Nat.le_refl _, Nat.le_refl _⟩ dX8_fault_5 (gx_kr fun w_5 G_5 hw_5 h_5 => ?_)
  obtain ⟨rfl, rfl⟩ := h_5
  refine gx_astore_nN C dX8_fault_8 (by decide) ?_
  refine gx_aload_nN C dX8_fault_9 rfl ?_
  refine gx_ifnullN (tgt := 22) C dX8_fault_10 (by decide) ?_
  refine gx_iconst (v := (-1)) C dX8_fault_22 (by decide) ?_
  refine gx_zret (mc := 0) C rfl ?_ dX8_fault_23
  have e : oFault i w t = -1 := by rw [oFault, oIx_no hi]
  exact ⟨_, rfl, e.symm, h, gOut_rf⟩
theorem k8_fault (l : Launch) (D : gD) (A : Nat → Prop) (hs : Nat) {G : gH} {X : Nat} {t : TS} (h : gCw D G X t) (i : Int32) (w : Int32) : gM l yX8_fault wsX8_fault (gR 8) D A hs 0 0 [.ref X, .int i, .int w] G (gPi fun x G' => x = oFault i w t ∧ gCw D G' X t ∧ gOut X 242 G G') := by
  have bn := gSv_n h.2.1
  by_cases hi : gIn i t.1.2.2.1.length = true
  · obtain ⟨j, hj, rfl⟩ := gIn_ex hi (by omega)
    exact k8_fault_in l D A hs h hj w
  · exact k8_fault_no l D A hs h i hi w
set_option maxHeartbeats 600000 in
set_option maxRecDepth 100000 in
/-- X8_write -/
theorem k8_write_in (l : Launch) (D : gD) (A : Nat → Prop) (hs : Nat) {G : gH} {X : Nat} {t : TS} (h : gCw D G X t) {j : Nat} (hj : j < t.1.2.2.1.length) : gM l yX8_write wsX8_write (gR 8) D A hs 0 0 [.ref X, .int (nI j)] G (gPi fun x G' => x = (oWrite (nI j) t).1 ∧ gCw D G' X (oWrite (nI j) t).2 ∧ gOut X 242 G G') := by
  refine gM_intro (by decide) rfl rfl (Nat.le_of_ble_eq_true rfl) ?_
  intro p e s m args below meth c C
  obtain ⟨hob, hv, hh, hmt, hps⟩ := id h
  obtain ⟨cd0, st0, cu0, re0, hm0⟩ := hmt
  have bs := gRow_le hm0.2.1
  have bn := gSv_n hv
  refine gx_aload_n C dX8_write_0 rfl ?_
  refine gx_get C fd_X8_write_12 (hG := hob) (hv := by rfl) dX8_write_1 ?_
  refine gx_iload_n C dX8_write_4 rfl ?_
  refine gx_callV (ci := 6) (T := TX7) (N := 9) C (k7_sheetAt l D A hs hv j hj) cb_X8_write__X7_sheetNumbered gX8_write_X7_sheetNumbered rfl (hG := hv.1) rfl rfl (Nat.le_of_ble_eq_true rfl) ⟨Nat.le_refl _, Nat.le_refl _⟩ dX8_write_5 (gx_kr fun w_5 G_5 hw_5 h_5 => ?_)
  obtain ⟨rfl, rfl⟩ := h_5
  have sj := gSv_gd hv hj
  refine gx_astore_n C dX8_write_8 (by decide) ?_
  refine gx_aload_n C dX8_write_9 rfl ?_
  refine gx_ifnonnull (tgt := 15) C dX8_write_10 (by decide) ?_
  refine gx_aload_n C dX8_write_15 rfl ?_
  refine gx_getN C fd_X8_write_80 (hG := sj.1) (hv := by rfl) dX8_write_16 ?_
  refine gx_if_eq (tgt := 25) C dX8_write_19 (by decide) (fun c_19 => ?_) (fun c_19 => ?_)
  · refine gx_aload_n C dX8_write_25 rfl ?_
    refine gx_get C fd_X8_write_26 (hG := hob) (hv := by rfl) dX8_write_26 ?_
    refine gx_aload_n C dX8_write_29 rfl ?_
    refine gx_getN C fd_X8_write_96 (hG := sj.1) (hv := by rfl) dX8_write_30 ?_
    refine gx_aload_n C dX8_write_33 rfl ?_
    refine gx_get C fd_X8_write_12 (hG := hob) (hv := by rfl) dX8_write_34 ?_
    refine gx_getN C fd_X8_write_45 (hG := hv.1) (hv := by rfl) dX8_write_37 ?_
    refine gx_callV (ci := 4) (T := TX5) (N := 2) C (k5_used l D A hs (gSv_tx hv)) cb_X8_write__X5_used gX8_write_X5_used rfl (hG := (gRow_ob (gSv_tx hv))) rfl rfl (Nat.le_of_ble_eq_true rfl) ⟨Nat.le_refl _, Nat.le_refl _⟩ dX8_write_40 (gx_ki fun r_40 G_40 h_40 => ?_)
    obtain ⟨rfl, rfl⟩ := h_40
    refine gx_callV (ci := 2) (T := TX3) (N := 5) C (k3_readFor l D A hs hm0 sj.2 (by omega) (nI t.1.1.length)) cb_X8_write__X3_readFor gX8_write_X3_readFor rfl (hG := hm0.1) rfl rfl (Nat.le_of_ble_eq_true rfl) ⟨Nat.le_refl _, Nat.le_refl _⟩ dX8_write_43 (gx_kv fun G_43 h_43 => ?_)
    obtain ⟨⟨st2, cu2, m2, s2⟩, ow⟩ := h_43
    have k2 : gCw D _ X t := gCw_mt h m2 (gOut_wd ow (by omega))
    have o2 := gOut_wd (b := X) (k := 242) ow (by omega)
    refine gx_aload_n C dX8_write_46 rfl ?_
    refine gx_get C fd_X8_write_26 (hG := k2.1) (hv := by rfl) dX8_write_47 ?_
    refine gx_getN C fd_X8_write_215 (hG := m2.1) (hv := by rfl) dX8_write_50 ?_
    refine gx_if_eq (tgt := 59) C dX8_write_53 (by decide) (fun c_53 => ?_) (fun c_53 => ?_)
    · have e : oWrite (nI j) t = (nI (oRead t j).2.1.length, (oWrT t j, pRec t.2.1 t.1, t.2.2)) := by rw [oWrite, oIx_in hj (by omega)]; exact if_neg (fun q => q.elim (fun q => q c_19) (fun q => q c_53))
      have hc8 : (t.1.2.2.1.getD j shD).2.2.length + (oRead t j).2.1.length ≤ 8 := tAll_8 (cd := []) (gRow_le sj.2).1
      refine gx_aload_n C dX8_write_59 rfl ?_
      refine gx_get C fd_X8_write_19 (hG := k2.1) (hv := by rfl) dX8_write_60 ?_
      refine gx_aload_n C dX8_write_63 rfl ?_
      refine gx_get C fd_X8_write_12 (hG := k2.1) (hv := by rfl) dX8_write_64 ?_
      refine gx_callV (ci := 0) (T := TX0) (N := 2) C (k0_record l D A hs k2.2.2.1 k2.2.1 (by omega)) cb_X8_write__X0_record gX8_write_X0_record rfl (hG := (gHist_ob k2.2.2.1)) rfl rfl (Nat.le_of_ble_eq_true rfl) ⟨Nat.le_refl _, Nat.le_refl _⟩ dX8_write_67 (gx_kv fun G_67 h_67 => ?_)
      have k3 := gCw_hi k2 h_67.1 h_67.2
      have o3 := gOut_tr o2 (gOut_wd (b := X) (k := 242) h_67.2 (by omega))
      have m3 := gMt_fr m2 h_67.2 (by omega)
      refine gx_aload_n C dX8_write_70 rfl ?_
      refine gx_get C fd_X8_write_12 (hG := k3.1) (hv := by rfl) dX8_write_71 ?_
      refine gx_aload_n C dX8_write_74 rfl ?_
      refine gx_aload_n C dX8_write_75 rfl ?_
      refine gx_get C fd_X8_write_26 (hG := k3.1) (hv := by rfl) dX8_write_76 ?_
      refine gx_getN C fd_X8_write_221 (hG := m3.1) (hv := by rfl) dX8_write_79 ?_
      refine gx_callV (ci := 6) (T := TX7) (N := 9) C (k7_writeOn l D A hs k3.2.1 hj m3.2.2 (by omega) hc8) cb_X8_write__X7_writeOn gX8_write_X7_writeOn rfl (hG := k3.2.1.1) rfl rfl (Nat.le_of_ble_eq_true rfl) ⟨Nat.le_refl _, Nat.le_refl _⟩ dX8_write_82 (gx_kv fun G_82 h_82 => ?_)
      have k4 := gCw_sv k3 h_82.1 h_82.2
      have o4 := gOut_tr o3 (gOut_wd (b := X) (k := 242) h_82.2 (by omega))
      have m4 := gMt_fr m3 h_82.2 (by omega)
      refine gx_aload_n C dX8_write_85 rfl ?_
      refine gx_get C fd_X8_write_26 (hG := k4.1) (hv := by rfl) dX8_write_86 ?_
      refine gx_getN C fd_X8_write_221 (hG := m4.1) (hv := by rfl) dX8_write_89 ?_
      refine gx_callV (ci := 4) (T := TX5) (N := 2) C (k5_used l D A hs m4.2.2) cb_X8_write__X5_used gX8_write_X5_used rfl (hG := (gRow_ob m4.2.2)) rfl rfl (Nat.le_of_ble_eq_true rfl) ⟨Nat.le_refl _, Nat.le_refl _⟩ dX8_write_92 (gx_ki fun r_92 G_92 h_92 => ?_)
      obtain ⟨rfl, rfl⟩ := h_92
      refine gx_zret (mc := 0) C rfl ?_ dX8_write_95
      exact ⟨_, rfl, by rw [e]; rfl, by rw [e]; exact k4, o4⟩
    · have e : oWrite (nI j) t = (-2, t) := by rw [oWrite, oIx_in hj (by omega)]; exact if_pos (Or.inr c_53)
      refine gx_bipush (v := (-2)) C dX8_write_56 (by decide) ?_
      refine gx_zret (mc := 0) C rfl ?_ dX8_write_58
      exact ⟨_, rfl, by rw [e], by rw [e]; exact k2, o2⟩
  · have e : oWrite (nI j) t = (-2, t) := by rw [oWrite, oIx_in hj (by omega)]; exact if_pos (Or.inl c_19)
    refine gx_bipush (v := (-2)) C dX8_write_22 (by decide) ?_
    refine gx_zret (mc := 0) C rfl ?_ dX8_write_24
    exact ⟨_, rfl, by rw [e], by rw [e]; exact h, gOut_rf⟩
set_option maxHeartbeats 600000 in
set_option maxRecDepth 100000 in
/-- X8_write -/
theorem k8_write_no (l : Launch) (D : gD) (A : Nat → Prop) (hs : Nat) {G : gH} {X : Nat} {t : TS} (h : gCw D G X t) (i : Int32) (hi : ¬ gIn i t.1.2.2.1.length = true) : gM l yX8_write wsX8_write (gR 8) D A hs 0 0 [.ref X, .int i] G (gPi fun x G' => x = (oWrite i t).1 ∧ gCw D G' X (oWrite i t).2 ∧ gOut X 242 G G') := by
  refine gM_intro (by decide) rfl rfl (Nat.le_of_ble_eq_true rfl) ?_
  intro p e s m args below meth c C
  obtain ⟨hob, hv, hh, hmt, hps⟩ := id h
  obtain ⟨cd0, st0, cu0, re0, hm0⟩ := hmt
  have bs := gRow_le hm0.2.1
  have bn := gSv_n hv
  refine gx_aload_n C dX8_write_0 rfl ?_
  refine gx_get C fd_X8_write_12 (hG := hob) (hv := by rfl) dX8_write_1 ?_
  refine gx_iload_n C dX8_write_4 rfl ?_
  refine gx_callV (ci := 6) (T := TX7) (N := 9) C (k7_sheetNo l D A hs hv i hi) cb_X8_write__X7_sheetNumbered gX8_write_X7_sheetNumbered rfl (hG := hv.1) rfl rfl (Nat.le_of_ble_eq_true rfl) ⟨Nat.le_refl _, Nat.le_refl _⟩ dX8_write_5 (gx_kr fun w_5 G_5 hw_5 h_5 => ?_)
  obtain ⟨rfl, rfl⟩ := h_5
  refine gx_astore_nN C dX8_write_8 (by decide) ?_
  refine gx_aload_nN C dX8_write_9 rfl ?_
  refine gx_ifnonnullN C dX8_write_10 ?_
  refine gx_iconst (v := (-1)) C dX8_write_13 (by decide) ?_
  refine gx_zret (mc := 0) C rfl ?_ dX8_write_14
  have e : oWrite i t = (-1, t) := by rw [oWrite, oIx_no hi]
  exact ⟨_, rfl, by rw [e], by rw [e]; exact h, gOut_rf⟩
theorem k8_write (l : Launch) (D : gD) (A : Nat → Prop) (hs : Nat) {G : gH} {X : Nat} {t : TS} (h : gCw D G X t) (i : Int32) : gM l yX8_write wsX8_write (gR 8) D A hs 0 0 [.ref X, .int i] G (gPi fun x G' => x = (oWrite i t).1 ∧ gCw D G' X (oWrite i t).2 ∧ gOut X 242 G G') := by
  have bn := gSv_n h.2.1
  by_cases hi : gIn i t.1.2.2.1.length = true
  · obtain ⟨j, hj, rfl⟩ := gIn_ex hi (by omega)
    exact k8_write_in l D A hs h hj
  · exact k8_write_no l D A hs h i hi
