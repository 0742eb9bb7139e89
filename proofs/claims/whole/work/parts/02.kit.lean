/-! THE WORLD AS ONE PICTURE G, from addresses to cells, and one judgement gX over it: no heap, no place is named in a walk -/
abbrev gD : Type := va_G × ((Nat → Nat) × (Nat → Nat))
abbrev gH : Type := Nat → Option va_E
def gTys (D : gD) : List (ClassId × FieldType) := [(D.1.1 100, .int), (D.1.1 101, .object RX6), (D.1.1 102, .object RX7)]
def gNest : List Cond := [
  .fieldLinkNest "ProofSheets$Press" 41 "ProofSheets$MarkList" "codes" "LProofSheets$Row;" "ProofSheets",
  .fieldLinkNest "ProofSheets" 125 "ProofSheets$MarkList" "codes" "LProofSheets$Row;" "ProofSheets",
  .fieldLinkNest "ProofSheets$Press" 46 "ProofSheets$MarkList" "answers" "LProofSheets$Row;" "ProofSheets",
  .fieldLinkNest "ProofSheets$State" 111 "ProofSheets$MarkList" "answers" "LProofSheets$Row;" "ProofSheets",
  .fieldLinkNest "ProofSheets" 158 "ProofSheets$MarkList" "answers" "LProofSheets$Row;" "ProofSheets",
  .fieldLinkNest "ProofSheets" 161 "ProofSheets$MarkList" "sheetCounts" "LProofSheets$Row;" "ProofSheets",
  .fieldLinkNest "ProofSheets" 164 "ProofSheets$MarkList" "lowestReaders" "LProofSheets$Row;" "ProofSheets",
  .fieldLinkNest "ProofSheets$State" 87 "ProofSheets$Sheet" "marks" "LProofSheets$Row;" "ProofSheets",
  .fieldLinkNest "ProofSheets" 96 "ProofSheets$Sheet" "marks" "LProofSheets$Row;" "ProofSheets",
  .fieldLinkNest "ProofSheets$State" 81 "ProofSheets$Sheet" "reader" "I" "ProofSheets",
  .fieldLinkNest "ProofSheets" 93 "ProofSheets$Sheet" "reader" "I" "ProofSheets",
  .fieldLinkNest "ProofSheets" 80 "ProofSheets$Sheet" "status" "I" "ProofSheets",
  .fieldLinkNest "ProofSheets$State" 84 "ProofSheets$Sheet" "status" "I" "ProofSheets",
  .fieldLinkNest "ProofSheets" 45 "ProofSheets$State" "text" "LProofSheets$Row;" "ProofSheets",
  .fieldLinkNest "ProofSheets" 99 "ProofSheets$State" "list" "LProofSheets$MarkList;" "ProofSheets",
  .fieldLinkNest "ProofSheets" 199 "ProofSheets$State" "sentTo" "LProofSheets$Row;" "ProofSheets",
  .fieldLinkNest "ProofSheets" 202 "ProofSheets$State" "madeBy" "LProofSheets$Row;" "ProofSheets",
  .fieldLinkNest "ProofSheets" 205 "ProofSheets$State" "mergedOf" "LProofSheets$Row;" "ProofSheets",
  .fieldLinkNest "ProofSheets" 41 "ProofSheets$State" "round" "I" "ProofSheets",
  .fieldLinkNest "ProofSheets" 69 "ProofSheets$State" "sheetCount" "I" "ProofSheets",
  .fieldLinkNest "ProofSheets" 131 "ProofSheets$History" "used" "I" "ProofSheets",
  .fieldLinkNest "ProofSheets" 145 "ProofSheets$MarkText" "signs" "LProofSheets$Row;" "ProofSheets",
  .fieldLinkNest "ProofSheets" 221 "ProofSheets$MarkText" "codes" "LProofSheets$Row;" "ProofSheets",
  .fieldLinkNest "ProofSheets" 218 "ProofSheets$MarkText" "start" "I" "ProofSheets",
  .fieldLinkNest "ProofSheets" 215 "ProofSheets$MarkText" "reason" "I" "ProofSheets",
  .methodLinkNest "ProofSheets$State" 28 ⟨"ProofSheets$MarkList", "<init>", "()V"⟩ "ProofSheets",
  .methodLinkNest "ProofSheets$State" 45 ⟨"ProofSheets$Sheet", "<init>", "()V"⟩ "ProofSheets",
  .methodLinkNest "ProofSheets" 25 ⟨"ProofSheets$MarkText", "<init>", "()V"⟩ "ProofSheets",
  .methodLinkNest "ProofSheets" 32 ⟨"ProofSheets$Press", "<init>", "()V"⟩ "ProofSheets",
  .methodLinkNest "ProofSheets$MarkList" 40 ⟨"ProofSheets", "isOutside", "(III)Z"⟩ "ProofSheets",
  .methodLinkNest "ProofSheets$Press" 102 ⟨"ProofSheets", "isOutside", "(III)Z"⟩ "ProofSheets"]
def gSl : List Nat := [3, 3, 3, 4, 3, 3]
def gSb : List (List Int32) := [[100, 101, 108], [105, 110, 115], [114, 101, 112], [115, 119, 97, 112], [99, 97, 112], [97, 115, 107]]
def gSi : List Nat := [92, 94, 96, 98, 100, 102]
def gSt : List String := ["del", "ins", "rep", "swap", "cap", "ask"]
def gStr (ad : (Nat → Nat) × (Nat → Nat)) (A : Nat → Prop) (U : State) (H : Heap) : Prop :=
  vk_S 6 gSl gSb ad.1 ad.2 A U H ∧ (∀ i : Nat, i < 6 → vk_R RX3 (gSi.getD i 0) (gSt.getD i "") (ad.1 i) U) ∧ va_Z "java/lang/String" "COMPACT_STRINGS" "Z" (.int 1) A U H ∧ va_Zq "jdk/internal/util/Preconditions" "SIOOBE_FORMATTER" "Ljava/util/function/BiFunction;" A U H ∧ (va_AO RX6 U ∧ va_AO RX7 U)
def gK (D : gD) (A : Nat → Prop) (U : State) (H : Heap) : Prop := va_K D.1 vwCl (gTys D) U ∧ (∀ w ∈ gNest, va_Nw w U) ∧ gStr D.2 A U H
def gP (D : gD) (A : Nat → Prop) (G : gH) (H : Heap) : Prop := ∀ (a : Nat) (e : va_E), G a = some e → A a ∧ va_at D.1 vwCl (a, e) H
def gU (G : gH) (a : Nat) (e : va_E) : gH := fun q => if q = a then some e else G q
theorem gU_s {G : gH} {a : Nat} {e : va_E} : gU G a e a = some e := by simp [gU]
theorem gU_n {G : gH} {a b : Nat} {e : va_E} (h : b ≠ a) : gU G a e b = G b := by simp [gU, h]
theorem gP_one {D : gD} {A : Nat → Prop} {G : gH} {H : Heap} {a : Nat} {e : va_E} (h : gP D A G H) (hG : G a = some e) : va_P D.1 vwCl [(a, e)] H := by
  intro k q hk
  cases k with
  | zero => cases hk; exact (h a e hG).2
  | succ k => simp at hk
theorem gP_up {D : gD} {A : Nat → Prop} {G : gH} {H H1 : Heap} {a : Nat} {e : va_E} (h : gP D A G H) (ha : A a) (he : va_at D.1 vwCl (a, e) H1) (oq : ∀ q : Nat, q ≠ a → H1[q]? = H[q]?) : gP D A (gU G a e) H1 := by
  intro q x hq
  unfold gU at hq
  by_cases c : q = a
  · rw [if_pos c] at hq
    cases hq
    subst c
    exact ⟨ha, he⟩
  · rw [if_neg c] at hq
    exact ⟨(h q x hq).1, (h q x hq).2.kept (oq q c)⟩
theorem gP_kept {D : gD} {A : Nat → Prop} {G : gH} {H H1 : Heap} (h : gP D A G H) (oq : ∀ q : Nat, q < H.size → H1[q]? = H[q]?) : gP D A G H1 := fun q x hq => ⟨(h q x hq).1, (h q x hq).2.kept (oq q (h q x hq).2.lt)⟩
theorem gP_lt {D : gD} {A : Nat → Prop} {G : gH} {H : Heap} {a : Nat} {e : va_E} (h : gP D A G H) (hG : G a = some e) : a < H.size := (h a e hG).2.lt
theorem gK_warm {D : gD} {A : Nat → Prop} {s U : State} {H H1 : Heap} (hW : s.WarmedH U.vm) (hq : ∀ a : Nat, a < H.size → ¬ A a → H1[a]? = H[a]?) (h : gK D A s H) : gK D A U H1 := by
  obtain ⟨h1, h2, h3, h4, h5, h6, h7, h8⟩ := h
  refine ⟨va_K.moved hW.alike h1, fun w hw => ?_, (h3.moved hW.alike).kept hq, fun i hi => (h4 i hi).warm hW, (h5.moved hW.alike).kept hq, (h6.moved hW.alike).kept hq, h7.moved hW.alike, h8.moved hW.alike⟩
  have hz := h2 w hw
  simp only [gNest, List.mem_cons, List.not_mem_nil, or_false] at hw
  rcases hw with rfl | rfl | rfl | rfl | rfl | rfl | rfl | rfl | rfl | rfl | rfl | rfl | rfl | rfl | rfl | rfl | rfl | rfl | rfl | rfl | rfl | rfl | rfl | rfl | rfl | rfl | rfl | rfl | rfl | rfl | rfl <;> first | exact va_Nw.warmF hW hz | exact va_Nw.warmM hW hz
theorem gK_same {D : gD} {A : Nat → Prop} {U : State} {H : Heap} {g : JFrame} {mk : MethodId} {a : Array Value} (h : gK D A U H) : gK D A (U.calling g mk a) H := by
  obtain ⟨h1, h2, h3, h4, h5, h6, h7, h8⟩ := h
  refine ⟨va_K.moved (u := U) (U := U.calling g mk a) (Vm.Alike.refl U.vm) h1, fun w hw => ?_, h3.moved (u := U) (U := U.calling g mk a) (Vm.Alike.refl U.vm), fun i hi => (h4 i hi).same rfl, h5.moved (u := U) (U := U.calling g mk a) (Vm.Alike.refl U.vm), h6.moved (u := U) (U := U.calling g mk a) (Vm.Alike.refl U.vm), h7.moved (u := U) (U := U.calling g mk a) (Vm.Alike.refl U.vm), h8.moved (u := U) (U := U.calling g mk a) (Vm.Alike.refl U.vm)⟩
  have hz := h2 w hw
  refine va_Nw.same ?_ (u := U) (U := U.calling g mk a) rfl hz
  simp only [gNest, List.mem_cons, List.not_mem_nil, or_false] at hw
  rcases hw with rfl | rfl | rfl | rfl | rfl | rfl | rfl | rfl | rfl | rfl | rfl | rfl | rfl | rfl | rfl | rfl | rfl | rfl | rfl | rfl | rfl | rfl | rfl | rfl | rfl | rfl | rfl | rfl | rfl | rfl | rfl <;> rfl
/-- locals by their places -/
def gL (ls : Array Slot) (nL : Nat) (V : List (Option Value)) : Prop := ls.size = nL ∧ lv_wf ls ∧ ∀ (i : Nat) (v : Value), V[i]? = some (some v) → ls[i]? = some (.val v) ∧ v.category = 1
theorem gL_at {ls : Array Slot} {nL : Nat} {V : List (Option Value)} (h : gL ls nL V) {i : Nat} {v : Value} (hV : V[i]? = some (some v)) : ls[i]? = some (.val v) := (h.2.2 i v hV).1
def gLl (V : List (Option Value)) : List (Nat × Value) := (List.range V.length).filterMap (fun i => (V[i]?.join).map (fun v => (i, v)))
theorem gLl_mem {V : List (Option Value)} {q : Nat × Value} : q ∈ gLl V ↔ V[q.1]? = some (some q.2) := by
  constructor
  · intro h
    obtain ⟨i, -, hi⟩ := List.mem_filterMap.mp h
    cases hV : V[i]? with
    | none => rw [hV] at hi; simp at hi
    | some o =>
      cases o with
      | none => rw [hV] at hi; simp at hi
      | some v => rw [hV] at hi; simp at hi; subst hi; exact hV
  · intro h
    refine List.mem_filterMap.mpr ⟨q.1, List.mem_range.mpr (List.getElem?_eq_some_iff.mp h).1, ?_⟩
    rw [h]
    rfl
theorem gL_has {ls : Array Slot} {nL : Nat} {V : List (Option Value)} (h : gL ls nL V) : lv_has ls nL (gLl V) := ⟨h.1, h.2.1, fun q hq => (h.2.2 q.1 q.2 (gLl_mem.mp hq)).1⟩
theorem gL_set {ls ls' : Array Slot} {nL i : Nat} {V : List (Option Value)} {x : Value} (h : gL ls nL V) (hx : x.category = 1) (h' : lv_has ls' nL ((i, x) :: (gLl V).filter (fun q => !(q.1 == i) && !(q.1 + 1 == i && q.2.category == 2)))) : gL ls' nL (V.set i (some x)) := by
  refine ⟨h'.1, h'.2.1, fun j v hj => ?_⟩
  by_cases c : i = j
  · subst c
    have hlt : i < V.length := by
      have := (List.getElem?_eq_some_iff.mp hj).1
      simpa using this
    rw [List.getElem?_set_self hlt] at hj
    cases hj
    exact ⟨h'.2.2 (i, x) List.mem_cons_self, hx⟩
  · rw [List.getElem?_set_ne c] at hj
    have hc := (h.2.2 j v hj).2
    refine ⟨h'.2.2 (j, v) (List.mem_cons_of_mem _ (List.mem_filter.mpr ⟨gLl_mem.mpr hj, ?_⟩)), hc⟩
    simp [hc, Ne.symm c]
/-- what holds all through a walk -/
def gC (p : Program) (s : State) (m : MethodId) (args : Array Value) (meth : Method) (c : Code) (cc : ByteArray) (ret : Option FieldType) (Ts : List Cond) (own nm : String) (D : gD) (A : Nat → Prop) (nL hs : Nat) : Prop :=
  p.tables.exec = Jvm.exec ∧ c.code = cc ∧ meth.sig.returnType = ret ∧ (∀ w ∈ Ts, w.before args s = true) ∧ s.vm.findClass own = some m.cls ∧ meth.locks = false ∧ c.maxLocals = nL ∧ gK D A s s.heap ∧ meth.name = nm ∧ s.heap.size = hs
def gX (p : Program) (l : Launch) (e : Env) (R : Room) (s : State) (m : MethodId) (args : Array Value) (below : List Frame) (meth : Method) (c : Code) (D : gD) (A : Nat → Prop) (nL hs cells slots : Nat) (Q : State → Prop) (G : gH) (V : List (Option Value)) (pc : Nat) (st : List Value) : Prop :=
  ∀ (H : Heap) (locs : List Loc) (ls : Array Slot), gP D A G H → va_S A s.heap H locs → H.size = hs → gL ls nL V → W p l e R s m args below meth c H locs cells slots Q (F0 m pc ls st)
def gPc (D : gD) (A : Nat → Prop) (hs : Nat) (av : List Value) (G : gH) : Array Value → State → Prop := fun a U => a = av.toArray ∧ U.heap.size = hs ∧ gP D A G U.heap ∧ gK D A U U.heap
def gQ (D : gD) (A : Nat → Prop) (hs mc : Nat) (post : Option Value → gH → Prop) : Array Value → State → Outcome → State → Prop := fun _ st o t =>
  (∃ (v : Option Value) (G' : gH), o = .returned v ∧ post v G' ∧ gP D A G' t.heap) ∧ t.heap.size = hs + mc ∧ ∀ q : Nat, q < hs → ¬ A q → t.heap[q]? = st.heap[q]?
/-- a method's contract -/
def gM (l : Launch) (y : MethodName) (ws : List Cond) (rm : Room) (D : gD) (A : Nat → Prop) (hs mc ms : Nat) (av : List Value) (G : gH) (post : Option Value → gH → Prop) : Prop :=
  Met l y ws rm (gPc D A hs av G) (gQ D A hs mc post) mc ms A
/-- room of a method from which calls go k deep -/
abbrev gR (k : Nat) : Room := { frames := k, cells := 0, slots := 0, locals := 30 * k }
abbrev gRc (k mc ms : Nat) : Room := { frames := k, cells := mc, slots := ms, locals := 30 * k }
theorem gPc_blind {D : gD} {A : Nat → Prop} {hs : Nat} {av : List Value} {G : gH} : FrameBlind (gPc D A hs av G) := fun _ _ _ _ h => ⟨h.1, h.2.1, h.2.2.1, gK_same h.2.2.2⟩
section GX
variable {p : Program} {l : Launch} {e : Env} {R : Room} {s : State} {m : MethodId} {args : Array Value} {below : List Frame} {meth : Method} {c : Code} {cc : ByteArray} {ret : Option FieldType} {Ts : List Cond} {own nm : String} {D : gD} {A : Nat → Prop} {nL hs0 hs cells slots : Nat} {Q : State → Prop} {G : gH} {V : List (Option Value)} {pc : Nat} {rest : List Value}
theorem gx_iload_n (C : gC p s m args meth c cc ret Ts own nm D A nL hs0) {k : Fin 4} {x : Int32} (hdg : decode cc pc = .ok (.iload_n k, 1)) (hV : V[(k : Nat)]? = some (some (.int x)))
    (kk : gX p l e R s m args below meth c D A nL hs cells slots Q G V (pc + 1) (.int x :: rest)) : gX p l e R s m args below meth c D A nL hs cells slots Q G V pc rest :=
  fun H locs ls hP hS hz hL => lv_iload_n C.1 C.2.1 hdg rfl (gL_at hL hV) (kk H locs ls hP hS hz hL)
theorem gx_iload (C : gC p s m args meth c cc ret Ts own nm D A nL hs0) {i : Nat} {x : Int32} (hdg : decode cc pc = .ok (.iload i, 2)) (hV : V[i]? = some (some (.int x)))
    (kk : gX p l e R s m args below meth c D A nL hs cells slots Q G V (pc + 2) (.int x :: rest)) : gX p l e R s m args below meth c D A nL hs cells slots Q G V pc rest :=
  fun H locs ls hP hS hz hL => lv_iload C.1 C.2.1 hdg (gL_at hL hV) (kk H locs ls hP hS hz hL)
theorem gx_aload_n (C : gC p s m args meth c cc ret Ts own nm D A nL hs0) {k : Fin 4} {x : Nat} (hdg : decode cc pc = .ok (.aload_n k, 1)) (hV : V[(k : Nat)]? = some (some (.ref x)))
    (kk : gX p l e R s m args below meth c D A nL hs cells slots Q G V (pc + 1) (.ref x :: rest)) : gX p l e R s m args below meth c D A nL hs cells slots Q G V pc rest :=
  fun H locs ls hP hS hz hL => lv_aload_n C.1 C.2.1 hdg rfl (gL_at hL hV) (kk H locs ls hP hS hz hL)
theorem gx_aload (C : gC p s m args meth c cc ret Ts own nm D A nL hs0) {i : Nat} {x : Nat} (hdg : decode cc pc = .ok (.aload i, 2)) (hV : V[i]? = some (some (.ref x)))
    (kk : gX p l e R s m args below meth c D A nL hs cells slots Q G V (pc + 2) (.ref x :: rest)) : gX p l e R s m args below meth c D A nL hs cells slots Q G V pc rest :=
  fun H locs ls hP hS hz hL => lv_aload C.1 C.2.1 hdg (gL_at hL hV) (kk H locs ls hP hS hz hL)
theorem gx_istore_n (C : gC p s m args meth c cc ret Ts own nm D A nL hs0) {k : Fin 4} {x : Int32} (hdg : decode cc pc = .ok (.istore_n k, 1)) (hn : (k : Nat) < nL)
    (kk : gX p l e R s m args below meth c D A nL hs cells slots Q G (V.set (k : Nat) (some (.int x))) (pc + 1) rest) : gX p l e R s m args below meth c D A nL hs cells slots Q G V pc (.int x :: rest) :=
  fun H locs ls hP hS hz hL => lv_istore_n C.1 C.2.1 hdg rfl (gL_has hL) hn rfl (fun ls' h' => kk H locs ls' hP hS hz (gL_set hL rfl h'))
theorem gx_istore (C : gC p s m args meth c cc ret Ts own nm D A nL hs0) {i : Nat} {x : Int32} (hdg : decode cc pc = .ok (.istore i, 2)) (hn : i < nL)
    (kk : gX p l e R s m args below meth c D A nL hs cells slots Q G (V.set i (some (.int x))) (pc + 2) rest) : gX p l e R s m args below meth c D A nL hs cells slots Q G V pc (.int x :: rest) :=
  fun H locs ls hP hS hz hL => lv_istore C.1 C.2.1 hdg (gL_has hL) hn rfl (fun ls' h' => kk H locs ls' hP hS hz (gL_set hL rfl h'))
theorem gx_astore_n (C : gC p s m args meth c cc ret Ts own nm D A nL hs0) {k : Fin 4} {x : Nat} (hdg : decode cc pc = .ok (.astore_n k, 1)) (hn : (k : Nat) < nL)
    (kk : gX p l e R s m args below meth c D A nL hs cells slots Q G (V.set (k : Nat) (some (.ref x))) (pc + 1) rest) : gX p l e R s m args below meth c D A nL hs cells slots Q G V pc (.ref x :: rest) :=
  fun H locs ls hP hS hz hL => lv_astore_n C.1 C.2.1 hdg rfl (gL_has hL) hn rfl (fun ls' h' => kk H locs ls' hP hS hz (gL_set hL rfl h'))
theorem gx_astore (C : gC p s m args meth c cc ret Ts own nm D A nL hs0) {i : Nat} {x : Nat} (hdg : decode cc pc = .ok (.astore i, 2)) (hn : i < nL)
    (kk : gX p l e R s m args below meth c D A nL hs cells slots Q G (V.set i (some (.ref x))) (pc + 2) rest) : gX p l e R s m args below meth c D A nL hs cells slots Q G V pc (.ref x :: rest) :=
  fun H locs ls hP hS hz hL => lv_astore C.1 C.2.1 hdg (gL_has hL) hn rfl (fun ls' h' => kk H locs ls' hP hS hz (gL_set hL rfl h'))
theorem gx_iinc (C : gC p s m args meth c cc ret Ts own nm D A nL hs0) {i : Nat} {n : Int} {x v : Int32} (hdg : decode cc pc = .ok (.iinc i n, 3)) (hV : V[i]? = some (some (.int x))) (hv : x + Int32.ofInt n = v) (hn : i < nL)
    (kk : gX p l e R s m args below meth c D A nL hs cells slots Q G (V.set i (some (.int v))) (pc + 3) rest) : gX p l e R s m args below meth c D A nL hs cells slots Q G V pc rest := by
  intro H locs ls hP hS hz hL
  obtain ⟨k, hk⟩ := List.getElem?_of_mem (gLl_mem (q := (i, .int x)).mpr hV)
  exact lv_iinc C.1 C.2.1 hdg (gL_has hL) hk hv hn rfl (fun ls' h' => kk H locs ls' hP hS hz (gL_set hL rfl h'))
theorem gx_iconst (C : gC p s m args meth c cc ret Ts own nm D A nL hs0) {n : Int} {v : Int32} (hdg : decode cc pc = .ok (.iconst n, 1)) (hv : Int32.ofInt n = v)
    (kk : gX p l e R s m args below meth c D A nL hs cells slots Q G V (pc + 1) (.int v :: rest)) : gX p l e R s m args below meth c D A nL hs cells slots Q G V pc rest :=
  fun H locs ls hP hS hz hL => lv_iconst C.1 C.2.1 hdg hv (kk H locs ls hP hS hz hL)
theorem gx_bipush (C : gC p s m args meth c cc ret Ts own nm D A nL hs0) {n : Int} {v : Int32} (hdg : decode cc pc = .ok (.bipush n, 2)) (hv : (Int8.ofInt n).toInt32 = v)
    (kk : gX p l e R s m args below meth c D A nL hs cells slots Q G V (pc + 2) (.int v :: rest)) : gX p l e R s m args below meth c D A nL hs cells slots Q G V pc rest :=
  fun H locs ls hP hS hz hL => lv_bipush C.1 C.2.1 hdg hv (kk H locs ls hP hS hz hL)
theorem gx_sipush (C : gC p s m args meth c cc ret Ts own nm D A nL hs0) {n : Int} {v : Int32} (hdg : decode cc pc = .ok (.sipush n, 3)) (hv : (Int16.ofInt n).toInt32 = v)
    (kk : gX p l e R s m args below meth c D A nL hs cells slots Q G V (pc + 3) (.int v :: rest)) : gX p l e R s m args below meth c D A nL hs cells slots Q G V pc rest :=
  fun H locs ls hP hS hz hL => lv_sipush C.1 C.2.1 hdg hv (kk H locs ls hP hS hz hL)
theorem gx_dup (C : gC p s m args meth c cc ret Ts own nm D A nL hs0) {va : Value} (hdg : decode cc pc = .ok (.dup, 1)) (hva : va.category = 1)
    (kk : gX p l e R s m args below meth c D A nL hs cells slots Q G V (pc + 1) (va :: va :: rest)) : gX p l e R s m args below meth c D A nL hs cells slots Q G V pc (va :: rest) :=
  fun H locs ls hP hS hz hL => lv_dup C.1 C.2.1 hdg hva (kk H locs ls hP hS hz hL)
theorem gx_dup2 (C : gC p s m args meth c cc ret Ts own nm D A nL hs0) {va vb : Value} (hdg : decode cc pc = .ok (.dup2, 1)) (hva : va.category = 1) (hvb : vb.category = 1)
    (kk : gX p l e R s m args below meth c D A nL hs cells slots Q G V (pc + 1) (va :: vb :: va :: vb :: rest)) : gX p l e R s m args below meth c D A nL hs cells slots Q G V pc (va :: vb :: rest) :=
  fun H locs ls hP hS hz hL => lv_dup2_11 C.1 C.2.1 hdg hva hvb (kk H locs ls hP hS hz hL)
theorem gx_iadd (C : gC p s m args meth c cc ret Ts own nm D A nL hs0) {x y : Int32} (hdg : decode cc pc = .ok (.iadd, 1))
    (kk : gX p l e R s m args below meth c D A nL hs cells slots Q G V (pc + 1) (.int (x + y) :: rest)) : gX p l e R s m args below meth c D A nL hs cells slots Q G V pc (.int y :: .int x :: rest) :=
  fun H locs ls hP hS hz hL => lv_iadd C.1 C.2.1 hdg (kk H locs ls hP hS hz hL)
theorem gx_isub (C : gC p s m args meth c cc ret Ts own nm D A nL hs0) {x y : Int32} (hdg : decode cc pc = .ok (.isub, 1))
    (kk : gX p l e R s m args below meth c D A nL hs cells slots Q G V (pc + 1) (.int (x - y) :: rest)) : gX p l e R s m args below meth c D A nL hs cells slots Q G V pc (.int y :: .int x :: rest) :=
  fun H locs ls hP hS hz hL => lv_isub C.1 C.2.1 hdg (kk H locs ls hP hS hz hL)
theorem gx_imul (C : gC p s m args meth c cc ret Ts own nm D A nL hs0) {x y : Int32} (hdg : decode cc pc = .ok (.imul, 1))
    (kk : gX p l e R s m args below meth c D A nL hs cells slots Q G V (pc + 1) (.int (x * y) :: rest)) : gX p l e R s m args below meth c D A nL hs cells slots Q G V pc (.int y :: .int x :: rest) :=
  fun H locs ls hP hS hz hL => lv_imul C.1 C.2.1 hdg (kk H locs ls hP hS hz hL)
theorem gx_idiv (C : gC p s m args meth c cc ret Ts own nm D A nL hs0) {x y : Int32} (hdg : decode cc pc = .ok (.idiv, 1)) (hne : ¬ y = 0)
    (kk : gX p l e R s m args below meth c D A nL hs cells slots Q G V (pc + 1) (.int (x / y) :: rest)) : gX p l e R s m args below meth c D A nL hs cells slots Q G V pc (.int y :: .int x :: rest) :=
  fun H locs ls hP hS hz hL => lv_idiv C.1 C.2.1 hdg hne (kk H locs ls hP hS hz hL)
theorem gx_ishl (C : gC p s m args meth c cc ret Ts own nm D A nL hs0) {x y : Int32} (hdg : decode cc pc = .ok (.ishl, 1))
    (kk : gX p l e R s m args below meth c D A nL hs cells slots Q G V (pc + 1) (.int (x <<< (y &&& 31)) :: rest)) : gX p l e R s m args below meth c D A nL hs cells slots Q G V pc (.int y :: .int x :: rest) :=
  fun H locs ls hP hS hz hL => lv_ishl C.1 C.2.1 hdg (kk H locs ls hP hS hz hL)
theorem gx_ishr (C : gC p s m args meth c cc ret Ts own nm D A nL hs0) {x y : Int32} (hdg : decode cc pc = .ok (.ishr, 1))
    (kk : gX p l e R s m args below meth c D A nL hs cells slots Q G V (pc + 1) (.int (x >>> (y &&& 31)) :: rest)) : gX p l e R s m args below meth c D A nL hs cells slots Q G V pc (.int y :: .int x :: rest) :=
  fun H locs ls hP hS hz hL => lv_ishr C.1 C.2.1 hdg (kk H locs ls hP hS hz hL)
theorem gx_iand (C : gC p s m args meth c cc ret Ts own nm D A nL hs0) {x y : Int32} (hdg : decode cc pc = .ok (.iand, 1))
    (kk : gX p l e R s m args below meth c D A nL hs cells slots Q G V (pc + 1) (.int (x &&& y) :: rest)) : gX p l e R s m args below meth c D A nL hs cells slots Q G V pc (.int y :: .int x :: rest) :=
  fun H locs ls hP hS hz hL => lv_iand C.1 C.2.1 hdg (kk H locs ls hP hS hz hL)
theorem gx_ior (C : gC p s m args meth c cc ret Ts own nm D A nL hs0) {x y : Int32} (hdg : decode cc pc = .ok (.ior, 1))
    (kk : gX p l e R s m args below meth c D A nL hs cells slots Q G V (pc + 1) (.int (x ||| y) :: rest)) : gX p l e R s m args below meth c D A nL hs cells slots Q G V pc (.int y :: .int x :: rest) :=
  fun H locs ls hP hS hz hL => lv_ior C.1 C.2.1 hdg (kk H locs ls hP hS hz hL)
theorem gx_goto (C : gC p s m args meth c cc ret Ts own nm D A nL hs0) {off : Int} {tgt : Nat} (hdg : decode cc pc = .ok (.goto off, 3)) (ht : (pc : Int) + off = (tgt : Int))
    (kk : gX p l e R s m args below meth c D A nL hs cells slots Q G V tgt rest) : gX p l e R s m args below meth c D A nL hs cells slots Q G V pc rest :=
  fun H locs ls hP hS hz hL => lv_goto C.1 C.2.1 hdg ht (kk H locs ls hP hS hz hL)
theorem gx_tableIn (C : gC p s m args meth c cc ret Ts own nm D A nL hs0) {dflt lo hi : Int} {offs : Array Int} {len : Nat} {x : Int32} {off : Int} {tgt : Nat} (hdg : decode cc pc = .ok (.tableswitch dflt lo hi offs, len)) (h1 : ¬ x.toInt < lo) (h2 : ¬ hi < x.toInt) (ho : offs[(x.toInt - lo).toNat]? = some off) (ht : (pc : Int) + off = (tgt : Int))
    (kk : gX p l e R s m args below meth c D A nL hs cells slots Q G V tgt rest) : gX p l e R s m args below meth c D A nL hs cells slots Q G V pc (.int x :: rest) :=
  fun H locs ls hP hS hz hL => lv_tableIn C.1 C.2.1 hdg h1 h2 ho ht (kk H locs ls hP hS hz hL)
theorem gx_tableOut (C : gC p s m args meth c cc ret Ts own nm D A nL hs0) {dflt lo hi : Int} {offs : Array Int} {len : Nat} {x : Int32} {tgt : Nat} (hdg : decode cc pc = .ok (.tableswitch dflt lo hi offs, len)) (h : x.toInt < lo ∨ hi < x.toInt) (ht : (pc : Int) + dflt = (tgt : Int))
    (kk : gX p l e R s m args below meth c D A nL hs cells slots Q G V tgt rest) : gX p l e R s m args below meth c D A nL hs cells slots Q G V pc (.int x :: rest) :=
  fun H locs ls hP hS hz hL => lv_tableOut C.1 C.2.1 hdg h ht (kk H locs ls hP hS hz hL)
theorem gx_icmp_eq (C : gC p s m args meth c cc ret Ts own nm D A nL hs0) {x y : Int32} {off : Int} {tgt : Nat} (hdg : decode cc pc = .ok (.if_icmp .eq off, 3)) (ht : (pc : Int) + off = (tgt : Int))
    (kt : x = y → gX p l e R s m args below meth c D A nL hs cells slots Q G V tgt rest) (kf : ¬ x = y → gX p l e R s m args below meth c D A nL hs cells slots Q G V (pc + 3) rest) : gX p l e R s m args below meth c D A nL hs cells slots Q G V pc (.int y :: .int x :: rest) :=
  fun H locs ls hP hS hz hL => lv_icmp_eq C.1 C.2.1 hdg ht (fun h => kt h H locs ls hP hS hz hL) (fun h => kf h H locs ls hP hS hz hL)
theorem gx_if_eq (C : gC p s m args meth c cc ret Ts own nm D A nL hs0) {x : Int32} {off : Int} {tgt : Nat} (hdg : decode cc pc = .ok (.ifCond .eq off, 3)) (ht : (pc : Int) + off = (tgt : Int))
    (kt : x = 0 → gX p l e R s m args below meth c D A nL hs cells slots Q G V tgt rest) (kf : ¬ x = 0 → gX p l e R s m args below meth c D A nL hs cells slots Q G V (pc + 3) rest) : gX p l e R s m args below meth c D A nL hs cells slots Q G V pc (.int x :: rest) :=
  fun H locs ls hP hS hz hL => lv_if_eq C.1 C.2.1 hdg ht (fun h => kt h H locs ls hP hS hz hL) (fun h => kf h H locs ls hP hS hz hL)
theorem gx_icmp_ne (C : gC p s m args meth c cc ret Ts own nm D A nL hs0) {x y : Int32} {off : Int} {tgt : Nat} (hdg : decode cc pc = .ok (.if_icmp .ne off, 3)) (ht : (pc : Int) + off = (tgt : Int))
    (kt : ¬ x = y → gX p l e R s m args below meth c D A nL hs cells slots Q G V tgt rest) (kf : x = y → gX p l e R s m args below meth c D A nL hs cells slots Q G V (pc + 3) rest) : gX p l e R s m args below meth c D A nL hs cells slots Q G V pc (.int y :: .int x :: rest) :=
  fun H locs ls hP hS hz hL => lv_icmp_ne C.1 C.2.1 hdg ht (fun h => kt h H locs ls hP hS hz hL) (fun h => kf h H locs ls hP hS hz hL)
theorem gx_if_ne (C : gC p s m args meth c cc ret Ts own nm D A nL hs0) {x : Int32} {off : Int} {tgt : Nat} (hdg : decode cc pc = .ok (.ifCond .ne off, 3)) (ht : (pc : Int) + off = (tgt : Int))
    (kt : ¬ x = 0 → gX p l e R s m args below meth c D A nL hs cells slots Q G V tgt rest) (kf : x = 0 → gX p l e R s m args below meth c D A nL hs cells slots Q G V (pc + 3) rest) : gX p l e R s m args below meth c D A nL hs cells slots Q G V pc (.int x :: rest) :=
  fun H locs ls hP hS hz hL => lv_if_ne C.1 C.2.1 hdg ht (fun h => kt h H locs ls hP hS hz hL) (fun h => kf h H locs ls hP hS hz hL)
theorem gx_icmp_lt (C : gC p s m args meth c cc ret Ts own nm D A nL hs0) {x y : Int32} {off : Int} {tgt : Nat} (hdg : decode cc pc = .ok (.if_icmp .lt off, 3)) (ht : (pc : Int) + off = (tgt : Int))
    (kt : x < y → gX p l e R s m args below meth c D A nL hs cells slots Q G V tgt rest) (kf : ¬ x < y → gX p l e R s m args below meth c D A nL hs cells slots Q G V (pc + 3) rest) : gX p l e R s m args below meth c D A nL hs cells slots Q G V pc (.int y :: .int x :: rest) :=
  fun H locs ls hP hS hz hL => lv_icmp_lt C.1 C.2.1 hdg ht (fun h => kt h H locs ls hP hS hz hL) (fun h => kf h H locs ls hP hS hz hL)
theorem gx_if_lt (C : gC p s m args meth c cc ret Ts own nm D A nL hs0) {x : Int32} {off : Int} {tgt : Nat} (hdg : decode cc pc = .ok (.ifCond .lt off, 3)) (ht : (pc : Int) + off = (tgt : Int))
    (kt : x < 0 → gX p l e R s m args below meth c D A nL hs cells slots Q G V tgt rest) (kf : ¬ x < 0 → gX p l e R s m args below meth c D A nL hs cells slots Q G V (pc + 3) rest) : gX p l e R s m args below meth c D A nL hs cells slots Q G V pc (.int x :: rest) :=
  fun H locs ls hP hS hz hL => lv_if_lt C.1 C.2.1 hdg ht (fun h => kt h H locs ls hP hS hz hL) (fun h => kf h H locs ls hP hS hz hL)
theorem gx_icmp_ge (C : gC p s m args meth c cc ret Ts own nm D A nL hs0) {x y : Int32} {off : Int} {tgt : Nat} (hdg : decode cc pc = .ok (.if_icmp .ge off, 3)) (ht : (pc : Int) + off = (tgt : Int))
    (kt : y ≤ x → gX p l e R s m args below meth c D A nL hs cells slots Q G V tgt rest) (kf : ¬ y ≤ x → gX p l e R s m args below meth c D A nL hs cells slots Q G V (pc + 3) rest) : gX p l e R s m args below meth c D A nL hs cells slots Q G V pc (.int y :: .int x :: rest) :=
  fun H locs ls hP hS hz hL => lv_icmp_ge C.1 C.2.1 hdg ht (fun h => kt h H locs ls hP hS hz hL) (fun h => kf h H locs ls hP hS hz hL)
theorem gx_if_ge (C : gC p s m args meth c cc ret Ts own nm D A nL hs0) {x : Int32} {off : Int} {tgt : Nat} (hdg : decode cc pc = .ok (.ifCond .ge off, 3)) (ht : (pc : Int) + off = (tgt : Int))
    (kt : 0 ≤ x → gX p l e R s m args below meth c D A nL hs cells slots Q G V tgt rest) (kf : ¬ 0 ≤ x → gX p l e R s m args below meth c D A nL hs cells slots Q G V (pc + 3) rest) : gX p l e R s m args below meth c D A nL hs cells slots Q G V pc (.int x :: rest) :=
  fun H locs ls hP hS hz hL => lv_if_ge C.1 C.2.1 hdg ht (fun h => kt h H locs ls hP hS hz hL) (fun h => kf h H locs ls hP hS hz hL)
theorem gx_icmp_gt (C : gC p s m args meth c cc ret Ts own nm D A nL hs0) {x y : Int32} {off : Int} {tgt : Nat} (hdg : decode cc pc = .ok (.if_icmp .gt off, 3)) (ht : (pc : Int) + off = (tgt : Int))
    (kt : y < x → gX p l e R s m args below meth c D A nL hs cells slots Q G V tgt rest) (kf : ¬ y < x → gX p l e R s m args below meth c D A nL hs cells slots Q G V (pc + 3) rest) : gX p l e R s m args below meth c D A nL hs cells slots Q G V pc (.int y :: .int x :: rest) :=
  fun H locs ls hP hS hz hL => lv_icmp_gt C.1 C.2.1 hdg ht (fun h => kt h H locs ls hP hS hz hL) (fun h => kf h H locs ls hP hS hz hL)
theorem gx_if_gt (C : gC p s m args meth c cc ret Ts own nm D A nL hs0) {x : Int32} {off : Int} {tgt : Nat} (hdg : decode cc pc = .ok (.ifCond .gt off, 3)) (ht : (pc : Int) + off = (tgt : Int))
    (kt : 0 < x → gX p l e R s m args below meth c D A nL hs cells slots Q G V tgt rest) (kf : ¬ 0 < x → gX p l e R s m args below meth c D A nL hs cells slots Q G V (pc + 3) rest) : gX p l e R s m args below meth c D A nL hs cells slots Q G V pc (.int x :: rest) :=
  fun H locs ls hP hS hz hL => lv_if_gt C.1 C.2.1 hdg ht (fun h => kt h H locs ls hP hS hz hL) (fun h => kf h H locs ls hP hS hz hL)
theorem gx_icmp_le (C : gC p s m args meth c cc ret Ts own nm D A nL hs0) {x y : Int32} {off : Int} {tgt : Nat} (hdg : decode cc pc = .ok (.if_icmp .le off, 3)) (ht : (pc : Int) + off = (tgt : Int))
    (kt : x ≤ y → gX p l e R s m args below meth c D A nL hs cells slots Q G V tgt rest) (kf : ¬ x ≤ y → gX p l e R s m args below meth c D A nL hs cells slots Q G V (pc + 3) rest) : gX p l e R s m args below meth c D A nL hs cells slots Q G V pc (.int y :: .int x :: rest) :=
  fun H locs ls hP hS hz hL => lv_icmp_le C.1 C.2.1 hdg ht (fun h => kt h H locs ls hP hS hz hL) (fun h => kf h H locs ls hP hS hz hL)
theorem gx_if_le (C : gC p s m args meth c cc ret Ts own nm D A nL hs0) {x : Int32} {off : Int} {tgt : Nat} (hdg : decode cc pc = .ok (.ifCond .le off, 3)) (ht : (pc : Int) + off = (tgt : Int))
    (kt : x ≤ 0 → gX p l e R s m args below meth c D A nL hs cells slots Q G V tgt rest) (kf : ¬ x ≤ 0 → gX p l e R s m args below meth c D A nL hs cells slots Q G V (pc + 3) rest) : gX p l e R s m args below meth c D A nL hs cells slots Q G V pc (.int x :: rest) :=
  fun H locs ls hP hS hz hL => lv_if_le C.1 C.2.1 hdg ht (fun h => kt h H locs ls hP hS hz hL) (fun h => kf h H locs ls hP hS hz hL)
theorem gx_aload_nN (C : gC p s m args meth c cc ret Ts own nm D A nL hs0) {k : Fin 4} (hdg : decode cc pc = .ok (.aload_n k, 1)) (hV : V[(k : Nat)]? = some (some .null))
    (kk : gX p l e R s m args below meth c D A nL hs cells slots Q G V (pc + 1) (.null :: rest)) : gX p l e R s m args below meth c D A nL hs cells slots Q G V pc rest :=
  fun H locs ls hP hS hz hL => lv_aload_nN C.1 C.2.1 hdg rfl (gL_at hL hV) (kk H locs ls hP hS hz hL)
theorem gx_aloadN (C : gC p s m args meth c cc ret Ts own nm D A nL hs0) {i : Nat} (hdg : decode cc pc = .ok (.aload i, 2)) (hV : V[i]? = some (some .null))
    (kk : gX p l e R s m args below meth c D A nL hs cells slots Q G V (pc + 2) (.null :: rest)) : gX p l e R s m args below meth c D A nL hs cells slots Q G V pc rest :=
  fun H locs ls hP hS hz hL => lv_aloadN C.1 C.2.1 hdg (gL_at hL hV) (kk H locs ls hP hS hz hL)
theorem gx_astore_nN (C : gC p s m args meth c cc ret Ts own nm D A nL hs0) {k : Fin 4} (hdg : decode cc pc = .ok (.astore_n k, 1)) (hn : (k : Nat) < nL)
    (kk : gX p l e R s m args below meth c D A nL hs cells slots Q G (V.set (k : Nat) (some .null)) (pc + 1) rest) : gX p l e R s m args below meth c D A nL hs cells slots Q G V pc (.null :: rest) :=
  fun H locs ls hP hS hz hL => lv_astore_nN C.1 C.2.1 hdg rfl (gL_has hL) hn rfl (fun ls' h' => kk H locs ls' hP hS hz (gL_set hL rfl h'))
theorem gx_astoreN (C : gC p s m args meth c cc ret Ts own nm D A nL hs0) {i : Nat} (hdg : decode cc pc = .ok (.astore i, 2)) (hn : i < nL)
    (kk : gX p l e R s m args below meth c D A nL hs cells slots Q G (V.set i (some .null)) (pc + 2) rest) : gX p l e R s m args below meth c D A nL hs cells slots Q G V pc (.null :: rest) :=
  fun H locs ls hP hS hz hL => lv_astoreN C.1 C.2.1 hdg (gL_has hL) hn rfl (fun ls' h' => kk H locs ls' hP hS hz (gL_set hL rfl h'))
theorem gx_null (C : gC p s m args meth c cc ret Ts own nm D A nL hs0) (hdg : decode cc pc = .ok (.aconst_null, 1)) (kk : gX p l e R s m args below meth c D A nL hs cells slots Q G V (pc + 1) (.null :: rest)) : gX p l e R s m args below meth c D A nL hs cells slots Q G V pc rest :=
  fun H locs ls hP hS hz hL => lv_null C.1 C.2.1 hdg (kk H locs ls hP hS hz hL)
theorem gx_ifnull (C : gC p s m args meth c cc ret Ts own nm D A nL hs0) {x : Nat} {off : Int} (hdg : decode cc pc = .ok (.ifnull off, 3)) (kk : gX p l e R s m args below meth c D A nL hs cells slots Q G V (pc + 3) rest) : gX p l e R s m args below meth c D A nL hs cells slots Q G V pc (.ref x :: rest) :=
  fun H locs ls hP hS hz hL => lv_ifnull C.1 C.2.1 hdg (kk H locs ls hP hS hz hL)
theorem gx_ifnullN (C : gC p s m args meth c cc ret Ts own nm D A nL hs0) {off : Int} {tgt : Nat} (hdg : decode cc pc = .ok (.ifnull off, 3)) (ht : (pc : Int) + off = (tgt : Int)) (kk : gX p l e R s m args below meth c D A nL hs cells slots Q G V tgt rest) : gX p l e R s m args below meth c D A nL hs cells slots Q G V pc (.null :: rest) :=
  fun H locs ls hP hS hz hL => lv_ifnullN C.1 C.2.1 hdg ht (kk H locs ls hP hS hz hL)
theorem gx_ifnonnull (C : gC p s m args meth c cc ret Ts own nm D A nL hs0) {x : Nat} {off : Int} {tgt : Nat} (hdg : decode cc pc = .ok (.ifnonnull off, 3)) (ht : (pc : Int) + off = (tgt : Int)) (kk : gX p l e R s m args below meth c D A nL hs cells slots Q G V tgt rest) : gX p l e R s m args below meth c D A nL hs cells slots Q G V pc (.ref x :: rest) :=
  fun H locs ls hP hS hz hL => lv_ifnonnull C.1 C.2.1 hdg ht (kk H locs ls hP hS hz hL)
theorem gx_ifnonnullN (C : gC p s m args meth c cc ret Ts own nm D A nL hs0) {off : Int} (hdg : decode cc pc = .ok (.ifnonnull off, 3)) (kk : gX p l e R s m args below meth c D A nL hs cells slots Q G V (pc + 3) rest) : gX p l e R s m args below meth c D A nL hs cells slots Q G V pc (.null :: rest) :=
  fun H locs ls hP hS hz hL => lv_ifnonnullN C.1 C.2.1 hdg (kk H locs ls hP hS hz hL)
/-- a name for a computed number -/
theorem gx_topi {x : Int32} (kk : ∀ y : Int32, y = x → gX p l e R s m args below meth c D A nL hs cells slots Q G V pc (.int y :: rest)) : gX p l e R s m args below meth c D A nL hs cells slots Q G V pc (.int x :: rest) := kk x rfl
theorem gx_top {x y : Int32} (h : x = y) (kk : gX p l e R s m args below meth c D A nL hs cells slots Q G V pc (.int y :: rest)) : gX p l e R s m args below meth c D A nL hs cells slots Q G V pc (.int x :: rest) := h ▸ kk
end GX
def gFd (Ts : List Cond) (own : String) (index ci : Nat) (Cn : String) (T : u_T) (N k : Nat) : Prop := (∀ w ∈ u_ws Cn T N, w ∈ Ts) ∧ vwCl[ci]? = some (Cn, T, N) ∧ k < N ∧ Cond.fieldLink own index (T k).1 (T k).2.1 (T k).2.2.1 ∈ Ts
def gFn (Ts : List Cond) (own : String) (index ci : Nat) (Cn : String) (T : u_T) (N k : Nat) : Prop := (∀ w ∈ u_ws Cn T N, w ∈ Ts) ∧ vwCl[ci]? = some (Cn, T, N) ∧ k < N ∧ Cond.fieldLinkNest own index (T k).1 (T k).2.1 (T k).2.2.1 "ProofSheets" ∈ gNest
theorem gNest_tab : ∀ w ∈ gNest, w.onTables = true := by
  intro w hw
  simp only [gNest, List.mem_cons, List.not_mem_nil, or_false] at hw
  rcases hw with rfl | rfl | rfl | rfl | rfl | rfl | rfl | rfl | rfl | rfl | rfl | rfl | rfl | rfl | rfl | rfl | rfl | rfl | rfl | rfl | rfl | rfl | rfl | rfl | rfl | rfl | rfl | rfl | rfl | rfl | rfl <;> rfl
section GY
variable {p : Program} {l : Launch} {e : Env} {R : Room} {s : State} {m : MethodId} {args : Array Value} {below : List Frame} {meth : Method} {c : Code} {cc : ByteArray} {ret : Option FieldType} {Ts : List Cond} {own nm : String} {D : gD} {A : Nat → Prop} {nL hs0 hs cells slots : Nat} {Q : State → Prop} {G : gH} {V : List (Option Value)} {pc : Nat} {rest : List Value} {index ci N k a n : Nat} {Cn : String} {T : u_T} {fs : List Value} {f : Nat → Int32} {fq : Nat → Option Nat}
theorem gx_get (C : gC p s m args meth c cc ret Ts own nm D A nL hs0) (F : gFd Ts own index ci Cn T N k) {v : Value} (hG : G a = some (.inr (ci, fs))) (hv : fs[k]? = some v) (hdg : decode cc pc = .ok (.getfield index, 3))
    (kk : gX p l e R s m args below meth c D A nL hs cells slots Q G V (pc + 3) (v :: rest)) : gX p l e R s m args below meth c D A nL hs cells slots Q G V pc (.ref a :: rest) :=
  fun H locs ls hP hS hz hL => va_get C.1 C.2.1 C.2.2.2.1 F.1 C.2.2.2.2.1 C.2.2.2.2.2.2.2.1.1 (gP_one hP hG) 0 rfl F.2.1 k F.2.2.1 (C.2.2.2.1 _ F.2.2.2) (fun _ h => h) hv hdg (kk H locs ls hP hS hz hL)
theorem gx_getN (C : gC p s m args meth c cc ret Ts own nm D A nL hs0) (F : gFn Ts own index ci Cn T N k) {v : Value} (hG : G a = some (.inr (ci, fs))) (hv : fs[k]? = some v) (hdg : decode cc pc = .ok (.getfield index, 3))
    (kk : gX p l e R s m args below meth c D A nL hs cells slots Q G V (pc + 3) (v :: rest)) : gX p l e R s m args below meth c D A nL hs cells slots Q G V pc (.ref a :: rest) :=
  fun H locs ls hP hS hz hL => va_getN C.1 C.2.1 C.2.2.2.1 F.1 C.2.2.2.2.1 C.2.2.2.2.2.2.2.1.1 (gP_one hP hG) 0 rfl F.2.1 k F.2.2.1 (va_Nw.use (gNest_tab _ F.2.2.2) (C.2.2.2.2.2.2.2.1.2.1 _ F.2.2.2)) (fun _ h => h) hv hdg (kk H locs ls hP hS hz hL)
theorem gx_put (C : gC p s m args meth c cc ret Ts own nm D A nL hs0) (F : gFd Ts own index ci Cn T N k) {ty0 : Nat → FieldType} (hty : ∀ k, k < N → parseFieldDescriptor (T k).2.2.1 = some (ty0 k)) (hnm : ∀ a, a < N → ∀ b, b < N → a ≠ b → (T a).2.1 ≠ (T b).2.1) (hfin : (T k).2.2.2 = false) {v : Value} (hn : narrow (ty0 k) v = v) (hfit : fits (ty0 k) v = true) (hG : G a = some (.inr (ci, fs))) (hl : k < fs.length) (hdg : decode cc pc = .ok (.putfield index, 3))
    (kk : gX p l e R s m args below meth c D A nL hs cells slots Q (gU G a (.inr (ci, fs.set k v))) V (pc + 3) rest) : gX p l e R s m args below meth c D A nL hs cells slots Q G V pc (v :: .ref a :: rest) := by
  intro H locs ls hP hS0 hz hL
  obtain ⟨hx, hb, -, hts, hown, -, -, ⟨hK, -⟩, -, -⟩ := C
  obtain ⟨hin, hc, hk, hlk⟩ := F
  have hap := va_apart (own := own) hts hin ty0 hty hnm hK hc
  obtain ⟨hAa, r, h1, cell, q1, q2, q3, q4⟩ := hP a _ hG
  have hr : r = (Cn, T, N) := Option.some.inj (h1.symm.trans hc)
  subst hr
  obtain ⟨hS, hfc, kC, hkC, hkind⟩ := hK.1 ci _ hc
  obtain ⟨cf, kf, fi, fd, hi, hsl⟩ := hS k hk
  have hlay := hts _ (hin _ (u_in_lay hk))
  unfold u_lay at hlay
  rw [if_neg (by rw [hfin]; decide)] at hlay
  have hst := (u_facts hfc hkC (u_lays hts hin hk) hi).1
  have h6 := u_store hfc hkC hkind hlay hi (hty k hk) hn hfit
  refine W.putK hx hb (f := fd) ⟨hown, hts _ hlk, ⟨_, _, _, hi⟩, hst⟩ (by rw [q2]; exact h6) q1 q3 (by rw [hsl]; exact k2_hasslot (q4 k hk)) rfl rfl hdg fun H' e1 e2 e3 => ?_
  rw [hsl] at e1 ⊢
  exact kk H' _ ls (gP_up hP hAa ⟨_, hc, t_OB.to (V := updV (vp_V fs) k v) ⟨_, e1, q2, q3, t_set q4 hap hk v⟩ (fun j _ => vp_updV_set hl v j)⟩ e3) (hS0.put e2 e3 hAa) (e2.trans hz) hL
theorem gx_putN (C : gC p s m args meth c cc ret Ts own nm D A nL hs0) (F : gFn Ts own index ci Cn T N k) {ty0 : Nat → FieldType} (hty : ∀ k, k < N → parseFieldDescriptor (T k).2.2.1 = some (ty0 k)) (hnm : ∀ a, a < N → ∀ b, b < N → a ≠ b → (T a).2.1 ≠ (T b).2.1) (hfin : (T k).2.2.2 = false) {v : Value} (hn : narrow (ty0 k) v = v) (hfit : fits (ty0 k) v = true) (hG : G a = some (.inr (ci, fs))) (hl : k < fs.length) (hdg : decode cc pc = .ok (.putfield index, 3))
    (kk : gX p l e R s m args below meth c D A nL hs cells slots Q (gU G a (.inr (ci, fs.set k v))) V (pc + 3) rest) : gX p l e R s m args below meth c D A nL hs cells slots Q G V pc (v :: .ref a :: rest) := by
  intro H locs ls hP hS0 hz hL
  obtain ⟨hx, hb, -, hts, hown, -, -, ⟨hK, hNe, -⟩, -, -⟩ := C
  obtain ⟨hin, hc, hk, hlk⟩ := F
  have hap := va_apart (own := own) hts hin ty0 hty hnm hK hc
  obtain ⟨hAa, r, h1, cell, q1, q2, q3, q4⟩ := hP a _ hG
  have hr : r = (Cn, T, N) := Option.some.inj (h1.symm.trans hc)
  subst hr
  obtain ⟨hS, hfc, kC, hkC, hkind⟩ := hK.1 ci _ hc
  obtain ⟨cf, kf, fi, fd, hi, hsl⟩ := hS k hk
  have hlay := hts _ (hin _ (u_in_lay hk))
  unfold u_lay at hlay
  rw [if_neg (by rw [hfin]; decide)] at hlay
  have hst := (u_facts hfc hkC (u_lays hts hin hk) hi).1
  have h6 := u_store hfc hkC hkind hlay hi (hty k hk) hn hfit
  refine va_WputK hx hb (f := fd) hown (va_Nw.use (gNest_tab _ hlk) (hNe _ hlk)) hi hst (by rw [q2]; exact h6) q1 q3 (by rw [hsl]; exact k2_hasslot (q4 k hk)) rfl rfl hdg fun H' e1 e2 e3 => ?_
  rw [hsl] at e1 ⊢
  exact kk H' _ ls (gP_up hP hAa ⟨_, hc, t_OB.to (V := updV (vp_V fs) k v) ⟨_, e1, q2, q3, t_set q4 hap hk v⟩ (fun j _ => vp_updV_set hl v j)⟩ e3) (hS0.put e2 e3 hAa) (e2.trans hz) hL
theorem gx_putF (C : gC p s m args meth c cc ret Ts own nm D A nL hs0) (F : gFd Ts own index ci Cn T N k) {ty0 : Nat → FieldType} (hty : ∀ k, k < N → parseFieldDescriptor (T k).2.2.1 = some (ty0 k)) (hnm : ∀ a, a < N → ∀ b, b < N → a ≠ b → (T a).2.1 ≠ (T b).2.1) (hfin : (T k).2.2.2 = true) (hini : nm = "<init>") (hdecl : (T k).1 = own) {v : Value} (hn : narrow (ty0 k) v = v) (hfit : fits (ty0 k) v = true) (hG : G a = some (.inr (ci, fs))) (hl : k < fs.length) (hdg : decode cc pc = .ok (.putfield index, 3))
    (kk : gX p l e R s m args below meth c D A nL hs cells slots Q (gU G a (.inr (ci, fs.set k v))) V (pc + 3) rest) : gX p l e R s m args below meth c D A nL hs cells slots Q G V pc (v :: .ref a :: rest) := by
  intro H locs ls hP hS0 hz hL
  obtain ⟨hx, hb, -, hts, hown, -, -, ⟨hK, -⟩, hnm2, -⟩ := C
  obtain ⟨hin, hc, hk, hlk⟩ := F
  have hap := va_apart (own := own) hts hin ty0 hty hnm hK hc
  obtain ⟨hAa, r, h1, cell, q1, q2, q3, q4⟩ := hP a _ hG
  have hr : r = (Cn, T, N) := Option.some.inj (h1.symm.trans hc)
  subst hr
  obtain ⟨hS, hfc, kC, hkC, hkind⟩ := hK.1 ci _ hc
  obtain ⟨cf, kf, fi, fd, hi, hsl⟩ := hS k hk
  have hlay := hts _ (hin _ (u_in_lay hk))
  unfold u_lay at hlay
  rw [if_pos hfin] at hlay
  have hst := (u_facts hfc hkC (u_lays hts hin hk) hi).1
  have hcf : m.cls = cf := by
    obtain ⟨_, _, c', _, _, _, -, -, hf', -, -, -, hown2, -⟩ := Cond.laysFinal_spec hlay
    have e1 : c' = cf := by have := hi.symm.trans hf'; simp at this; exact this.1.symm
    rw [hdecl] at hown2
    rw [← e1]; exact Option.some.inj (hown.symm.trans hown2)
  have h6 := u_fits hfc hkC hkind (Or.inr hlay) hi (hty k hk) hn hfit
  refine W.putFinK hx hb hown (hts _ hlk) hi hst hcf (hnm2.trans hini) (by rw [q2]; exact h6) q1 q3 (by rw [hsl]; exact k2_hasslot (q4 k hk)) rfl rfl hdg fun H' e1 e2 e3 => ?_
  rw [hsl] at e1 ⊢
  exact kk H' _ ls (gP_up hP hAa ⟨_, hc, t_OB.to (V := updV (vp_V fs) k v) ⟨_, e1, q2, q3, t_set q4 hap hk v⟩ (fun j _ => vp_updV_set hl v j)⟩ e3) (hS0.put e2 e3 hAa) (e2.trans hz) hL
theorem gx_iald (C : gC p s m args meth c cc ret Ts own nm D A nL hs0) {i : Int32} (hG : G a = some (.inl (D.1.1 100, n, .inl f))) (hin : vp_in i n) (hdg : decode cc pc = .ok (.iaload, 1))
    (kk : gX p l e R s m args below meth c D A nL hs cells slots Q G V (pc + 1) (.int (f i.toNatClampNeg) :: rest)) : gX p l e R s m args below meth c D A nL hs cells slots Q G V pc (.int i :: .ref a :: rest) :=
  fun H locs ls hP hS hz hL => va_iald C.1 C.2.1 C.2.2.2.2.2.2.2.1.1 (gP_one hP hG) 0 0 rfl rfl hin hdg (kk H locs ls hP hS hz hL)
theorem gx_iast (C : gC p s m args meth c cc ret Ts own nm D A nL hs0) {i x : Int32} (hG : G a = some (.inl (D.1.1 100, n, .inl f))) (hin : vp_in i n) (hdg : decode cc pc = .ok (.iastore, 1))
    (kk : gX p l e R s m args below meth c D A nL hs cells slots Q (gU G a (.inl (D.1.1 100, n, .inl (upd f i.toNatClampNeg x)))) V (pc + 1) rest) : gX p l e R s m args below meth c D A nL hs cells slots Q G V pc (.int x :: .int i :: .ref a :: rest) := by
  intro H locs ls hP hS hz hL
  obtain ⟨hAa, ha⟩ := hP a _ hG
  refine W.iast C.1 C.2.1 ha ((C.2.2.2.2.2.2.2.1.1.2 0 _ rfl).1 n (fun j => .int (f j))) (fun q => by cases q) (by show ¬ (i < 0 ∨ (arrV _ _ _).slots.size ≤ _); rw [arrV_size]; exact hin) rfl rfl hdg fun H1 e z oq => ?_
  refine kk H1 _ ls (gP_up hP hAa ?_ oq) (hS.put z oq hAa) (z.trans hz) hL
  show H1[a]? = some (vp_cell _ _)
  rw [e]
  rw [vp_cell_i, vp_cell_i, arrV_store]
  congr 2
  funext q
  by_cases hq : q = i.toNatClampNeg
  · subst hq
    simp [updV, upd]
  · simp [updV, upd, hq]
theorem gx_alen (C : gC p s m args meth c cc ret Ts own nm D A nL hs0) {t0 : Nat} {cA : ClassId} {ty : FieldType} {x : vp_A} (hG : G a = some (.inl (cA, x))) (ht : (gTys D)[t0]? = some (cA, ty)) {v : Int32} (hv : Int32.ofNat x.1 = v) (hdg : decode cc pc = .ok (.arraylength, 1))
    (kk : gX p l e R s m args below meth c D A nL hs cells slots Q G V (pc + 1) (.int v :: rest)) : gX p l e R s m args below meth c D A nL hs cells slots Q G V pc (.ref a :: rest) :=
  fun H locs ls hP hS hz hL => va_alen C.1 C.2.1 C.2.2.2.2.2.2.2.1.1 (gP_one hP hG) 0 t0 rfl ht hv hdg (kk H locs ls hP hS hz hL)
theorem gx_aald (C : gC p s m args meth c cc ret Ts own nm D A nL hs0) {t0 : Nat} {cA : ClassId} {i : Int32} (hG : G a = some (.inl (cA, n, .inr (.inr (.inr (.inr fq)))))) (ht : (gTys D)[t0]? = some (cA, .object Cn)) (hin : vp_in i n) (hdg : decode cc pc = .ok (.aaload, 1))
    (kk : gX p l e R s m args below meth c D A nL hs cells slots Q G V (pc + 1) (va_rf (fq i.toNatClampNeg) :: rest)) : gX p l e R s m args below meth c D A nL hs cells slots Q G V pc (.int i :: .ref a :: rest) :=
  fun H locs ls hP hS hz hL => va_aldq C.1 C.2.1 C.2.2.2.2.2.2.2.1.1 (gP_one hP hG) 0 t0 rfl ht hin hdg (kk H locs ls hP hS hz hL)
theorem gx_aast (C : gC p s m args meth c cc ret Ts own nm D A nL hs0) {t0 v ck : Nat} {vs : List Value} {r : vw_C} {cA : ClassId} {i : Int32} (hG : G a = some (.inl (cA, n, .inr (.inr (.inr (.inr fq)))))) (ht : (gTys D)[t0]? = some (cA, .object r.1)) (hv : G v = some (.inr (ck, vs))) (hc : vwCl[ck]? = some r) (hin : vp_in i n) (hdg : decode cc pc = .ok (.aastore, 1))
    (kk : gX p l e R s m args below meth c D A nL hs cells slots Q (gU G a (.inl (cA, n, .inr (.inr (.inr (.inr (va_up fq i.toNatClampNeg (some v)))))))) V (pc + 1) rest) : gX p l e R s m args below meth c D A nL hs cells slots Q G V pc (.ref v :: .int i :: .ref a :: rest) := by
  intro H locs ls hP hS hz hL
  obtain ⟨hAa, ha⟩ := hP a _ hG
  have hK := C.2.2.2.2.2.2.2.1.1
  have hlt : i.toNatClampNeg < n := Nat.not_le.mp fun q => hin (Or.inr q)
  have h0 : ¬ i < 0 := fun q => hin (Or.inl q)
  obtain ⟨-, r', hr', cellV, g1, g2, g3, -⟩ := hP v _ hv
  have hcls := (hK.1 ck r hc).2
  obtain ⟨kA, comp, k1, k2, k3, -⟩ := (hK.2 t0 _ ht).2
  have hcomp : comp = D.1.1 ck := Option.some.inj (k3.symm.trans hcls.1)
  subst hcomp
  obtain ⟨kC, hkC, -⟩ := hcls.2
  refine W.aast C.1 C.2.1 ha (fun q h => by cases h) (fun h => by cases h) k1 k2 rfl hkC ⟨h0, by show _ < (arrV _ _ _).slots.size; rw [arrV_size]; exact hlt⟩ g1 (fun q h => by rw [g3] at h; cases h) (by rw [g2]; exact hkC) (by rw [g2]; exact va_assign hcls) rfl rfl hdg fun H1 e z oq => ?_
  refine kk H1 _ ls (gP_up hP hAa ?_ oq) (hS.put z oq hAa) (z.trans hz) hL
  show H1[a]? = some (vp_cell _ _)
  rw [e]
  rw [vp_cell_q, vp_cell_q, arrV_store]
  congr 2
  funext q
  by_cases hq : q = i.toNatClampNeg
  · subst hq
    simp [updV, va_up, va_rf]
  · simp [updV, va_up, hq]
theorem gP_push {H H1 : Heap} {e1 : va_E} (h : gP D A G H) (z1 : H1.size = H.size + 1) (hA : A H.size) (he : va_at D.1 vwCl (H.size, e1) H1) (oq : ∀ q : Nat, q < H.size → H1[q]? = H[q]?) : gP D A (gU G H.size e1) H1 := by
  intro q x hq
  unfold gU at hq
  by_cases cq : q = H.size
  · rw [if_pos cq] at hq
    cases hq
    subst cq
    exact ⟨hA, he⟩
  · rw [if_neg cq] at hq
    exact ⟨(h q x hq).1, (h q x hq).2.kept (oq q (h q x hq).2.lt)⟩
theorem gx_new (C : gC p s m args meth c cc ret Ts own nm D A nL hs0) (hin : ∀ w ∈ u_ws Cn T N, w ∈ Ts) (hc : vwCl[ci]? = some (Cn, T, N)) {ty : Nat → FieldType} (hty : ∀ k, k < N → parseFieldDescriptor (T k).2.2.1 = some (ty k)) (hcl : Cond.classLink own index Cn ∈ Ts) (hinst : Cond.instantiable Cn N ∈ Ts) (hini : Cond.initialized Cn ∈ Ts) (hA : ∀ q, hs0 ≤ q → A q) (hfs : ∀ j, j < N → defaultValue (ty j) = vp_V fs j) (hcells : cells + 1 ≤ R.cells) (hslots : slots + N ≤ R.slots) (hdg : decode cc pc = .ok (.new index, 3))
    (kk : gX p l e R s m args below meth c D A nL (hs + 1) (cells + 1) (slots + N) Q (gU G hs (.inr (ci, fs))) V (pc + 3) (.ref hs :: rest)) : gX p l e R s m args below meth c D A nL hs cells slots Q G V pc rest := by
  intro H locs ls hP hS hz hL
  obtain ⟨hx, hb, -, hts, hown, -, -, ⟨hK, -⟩, -, hs0e⟩ := C
  have hKn := hK.1 ci _ hc
  refine W.newcK hx hb hown (hts _ hcl) (hts _ hinst) (hts _ hini) rfl hdg hcells hslots hKn.2.1 hz fun H1 kC hkC e1 z1 o1 => ?_
  have hAh : A H.size := hA _ (by have := hS.1; omega)
  refine kk H1 locs ls ?_ ⟨Nat.le_trans hS.1 (by omega), fun x h1 h2 => (o1 x (by have := hS.1; omega)).trans (hS.2.1 x h1 h2), hS.2.2⟩ z1 hL
  subst hz
  exact gP_push hP z1 hAh ⟨_, hc, (u_born ty hts hin hKn hkC e1 hty).to hfs⟩ o1
theorem gx_newa (C : gC p s m args meth c cc ret Ts own nm D A nL hs0) (harr : Cond.arrayClass .int ∈ Ts) (hA : ∀ q, hs0 ≤ q → A q) {x : Int32} (hn : ¬ x < 0) (hN : x.toNatClampNeg = n) (hbytes : n * 4 ≤ 536870912) (hcells : cells + 1 ≤ R.cells) (hslots : slots + n ≤ R.slots) (hdg : decode cc pc = .ok (.newarray .int, 2))
    (kk : gX p l e R s m args below meth c D A nL (hs + 1) (cells + 1) (slots + n) Q (gU G hs (.inl (D.1.1 100, n, .inl (fun _ => 0)))) V (pc + 2) (.ref hs :: rest)) : gX p l e R s m args below meth c D A nL hs cells slots Q G V pc (.int x :: rest) := by
  intro H locs ls hP hS hz hL
  obtain ⟨hx, hb, -, hts, hown, -, -, ⟨hK, -⟩, -, hs0e⟩ := C
  refine va_newaK hx hb (atype := .int) (hts _ harr) rfl hdg rfl hn hN hbytes hcells hslots hz fun H1 cA e1 z1 o1 hAr hNm => ?_
  have hAh : A H.size := hA _ (by have := hS.1; omega)
  have hcA : cA = D.1.1 100 := Option.some.inj (hNm.symm.trans ((hK.2 0 _ rfl).2 : s.vm.findClass _ = some (D.1.1 100)))
  subst hcA
  refine kk H1 locs ls ?_ ⟨Nat.le_trans hS.1 (by omega), fun x h1 h2 => (o1 x (by have := hS.1; omega)).trans (hS.2.1 x h1 h2), hS.2.2⟩ z1 hL
  subst hz
  refine gP_push hP z1 hAh ?_ o1
  show H1[H.size]? = some (vp_cell _ _)
  rw [vp_cell_i]
  exact e1
theorem gx_newq (C : gC p s m args meth c cc ret Ts own nm D A nL hs0) {t0 : Nat} {cA : ClassId} (ht : (gTys D)[t0]? = some (cA, .object Cn)) (hcl : Cond.classLink own index Cn ∈ Ts) (hover : ∀ (U : State) (H : Heap), gStr D.2 A U H → va_AO Cn U) (hA : ∀ q, hs0 ≤ q → A q) {x : Int32} (hn : ¬ x < 0) (hN : x.toNatClampNeg = n) (hbytes : n * 4 ≤ 536870912) (hcells : cells + 1 ≤ R.cells) (hslots : slots + n ≤ R.slots) (hdg : decode cc pc = .ok (.anewarray index, 3))
    (kk : gX p l e R s m args below meth c D A nL (hs + 1) (cells + 1) (slots + n) Q (gU G hs (.inl (cA, n, .inr (.inr (.inr (.inr (fun _ => none))))))) V (pc + 3) (.ref hs :: rest)) : gX p l e R s m args below meth c D A nL hs cells slots Q G V pc (.int x :: rest) := by
  intro H locs ls hP hS hz hL
  obtain ⟨hx, hb, -, hts, hown, -, -, ⟨hK, -, hSt⟩, -, hs0e⟩ := C
  subst hN
  refine W.anew hx hb hown (hts _ hcl) (hover _ _ hSt).use rfl hdg rfl hn hbytes hcells hslots fun cA' kA comp f1 f2 f3 f4 => ?_
  generalize hH1 : H.push ({ cls := cA', slots := Array.replicate x.toNatClampNeg .null, vm := .none } : Cell) = H1
  have z1 : H1.size = H.size + 1 := by rw [← hH1, Array.size_push]
  have e1 : H1[H.size]? = some (arrV cA' x.toNatClampNeg (fun _ => .null)) := by rw [← hH1, Array.getElem?_push_size, ← arrV_new]
  have o1 : ∀ q : Nat, q < H.size → H1[q]? = H[q]? := fun q hq => by rw [← hH1, Array.getElem?_push, if_neg (Nat.ne_of_lt hq)]
  have hAh : A H.size := hA _ (by have := hS.1; omega)
  obtain ⟨kA2, comp2, k1, k2, k3, k4⟩ := (hK.2 t0 _ ht).2
  have hcA : cA' = cA := Option.some.inj (f1.symm.trans k4)
  subst hcA
  subst hz
  refine kk H1 locs ls ?_ ⟨Nat.le_trans hS.1 (by omega), fun x h1 h2 => (o1 x (by have := hS.1; omega)).trans (hS.2.1 x h1 h2), hS.2.2⟩ z1 hL
  refine gP_push hP z1 hAh ?_ o1
  show H1[H.size]? = some (vp_cell _ _)
  rw [vp_cell_q]
  exact e1
theorem gx_objInit (C : gC p s m args meth c cc ret Ts own nm D A nL hs0) (hl1 : Cond.methodLink own index objectInit ∈ Ts) (hl2 : Cond.instanceMethod objectInit ∈ Ts) (hl3 : Cond.code objectInit ⟨#[0xb1]⟩ 1 none ∈ Ts) (hroom : (rest.map fun v => v.category).sum + 12 ≤ R.locals) (hfr : 1 ≤ R.frames) (hdg : decode cc pc = .ok (.invokespecial index, 3))
    (kk : gX p l e R s m args below meth c D A nL hs cells slots Q G V (pc + 3) rest) : gX p l e R s m args below meth c D A nL hs cells slots Q G V pc (.ref a :: rest) := by
  intro H locs ls hP hS hz hL
  obtain ⟨hx, hb, -, hts, hown, -, hml, -⟩ := C
  refine W.objInit hx hb hown (hts _ hl1) (hts _ hl2) (hts _ hl3) rfl (by rw [hml]; exact hL.1) rfl hdg hfr ?_ (kk H locs ls hP hS hz hL)
  show 2 * 0 + _ + 12 ≤ _
  omega
end GY
section GZ
variable {p : Program} {l : Launch} {e : Env} {R : Room} {s : State} {m : MethodId} {args : Array Value} {below : List Frame} {meth : Method} {c : Code} {cc : ByteArray} {ret : Option FieldType} {Ts : List Cond} {own nm : String} {D : gD} {A : Nat → Prop} {nL hs0 hs cells slots mc ms : Nat} {Q : State → Prop} {G : gH} {V : List (Option Value)} {pc : Nat} {rest : List Value} {index ci N k a n : Nat} {Cn : String} {T : u_T} {fs : List Value} {post : Option Value → gH → Prop}
theorem gQ_of {H : Heap} {locs : List Loc} {v : Option Value} {t : State} (hs0e : s.heap.size = hs0) (hq : post v G) (hP : gP D A G H) (hS : va_S A s.heap H locs) (hz : H.size = hs0 + mc) (ht : t.heap = H) : gQ D A hs0 mc post args s (.returned v) t := by
  refine ⟨⟨v, G, rfl, hq, by rw [ht]; exact hP⟩, by rw [ht]; exact hz, fun q h1 h2 => ?_⟩
  rw [ht]
  exact hS.2.1 q (by omega) h2
theorem gx_zret {ty : FieldType} (C : gC p s m args meth c cc (some ty) Ts own nm D A nL hs0) {v : Int32} (hn : narrow ty (.int v) = .int v) (hq : post (some (.int v)) G) (hdg : decode cc pc = .ok (.ireturn, 1)) :
    gX p l e R s m args below meth c D A nL (hs0 + mc) cells slots (MQ below (gQ D A hs0 mc post) args s cells slots A) G V pc [.int v] := by
  intro H locs ls hP hS hz hL
  obtain ⟨hx, hb, hr, hts, hown, hlk, hml, hK, hnm, hs0e⟩ := C
  exact W.zret hx hb hr hn (fun t ht hW => gQ_of hs0e hq hP hS hz ht) hS.2.2 hdg hlk
theorem gx_vret (C : gC p s m args meth c cc none Ts own nm D A nL hs0) (hq : post none G) (hdg : decode cc pc = .ok (.return_, 1)) :
    gX p l e R s m args below meth c D A nL (hs0 + mc) cells slots (MQ below (gQ D A hs0 mc post) args s cells slots A) G V pc [] := by
  intro H locs ls hP hS hz hL
  obtain ⟨hx, hb, hr, hts, hown, hlk, hml, hK, hnm, hs0e⟩ := C
  exact W.vret hx hb hr (fun t ht hW => gQ_of hs0e hq hP hS hz ht) hS.2.2 hdg hlk
theorem gx_aret {ty : FieldType} (C : gC p s m args meth c cc (some ty) Ts own nm D A nL hs0) {v : Value} (hty : (∃ n, ty = .object n) ∨ ∃ t, ty = .array t) (hv : v = .null ∨ ∃ a, v = .ref a) (hq : post (some v) G) (hdg : decode cc pc = .ok (.areturn, 1)) :
    gX p l e R s m args below meth c D A nL (hs0 + mc) cells slots (MQ below (gQ D A hs0 mc post) args s cells slots A) G V pc [v] := by
  intro H locs ls hP hS hz hL
  obtain ⟨hx, hb, hr, hts, hown, hlk, hml, hK, hnm, hs0e⟩ := C
  exact W.aret hx hb hr hty hv (fun t ht hW => gQ_of hs0e hq hP hS hz ht) hS.2.2 hdg hlk
theorem gx_ofRun (C : gC p s m args meth c cc ret Ts own nm D A nL hs0) {st0 : List Value} {a0 : Array Value} (hr : ∀ (H : Heap) (locs : List Loc) (ls : Array Slot), gP D A G H → va_S A s.heap H locs → H.size = hs → gL ls nL V → va_Run p l e R s m args below meth c H locs cells slots mc ms (F0 m pc ls st0) rest (gQ D A hs mc post a0) A)
    (kk : ∀ (v : Option Value) (G' : gH), post v G' → gX p l e R s m args below meth c D A nL (hs + mc) (cells + mc) (slots + ms) Q G' V (pc + 3) (v.toList ++ rest)) : gX p l e R s m args below meth c D A nL hs cells slots Q G V pc st0 := by
  intro H locs ls hP hS hz hL T hT X
  obtain ⟨v, st₀, t, T', L, h0, X', hL', e1, e2, ⟨⟨v', G', hv, hp, hb⟩, hz', hk⟩, st⟩ := hr H locs ls hP hS hz hL T hT X
  cases hv
  have hs0e := C.2.2.2.2.2.2.2.2.2
  obtain ⟨t2, a1, b1⟩ := kk v G' hp T'.heap (locs ++ L) ls (by rw [e1]; exact hb) ⟨by rw [e1, hz']; have := hS.1; omega, fun q h1 h2 => by
      rw [e1, hk q (by have := hS.1; omega) h2, h0]
      exact hS.2.1 q h1 h2, fun q hq => by
      rcases List.mem_append.mp hq with h | h
      · exact hS.2.2 q h
      · exact hL' q h⟩ (by rw [e1]; exact hz') hL T' rfl X'
  exact ⟨t2, st t2 a1, b1⟩
theorem gPc_of {H : Heap} {locs : List Loc} {av : List Value} (hK : gK D A s s.heap) (hP : gP D A G H) (hS : va_S A s.heap H locs) (hz : H.size = hs) : ∀ U : State, U.heap = H → s.WarmedH U.vm → gPc D A hs av G av.toArray U := fun U hU hW =>
  ⟨rfl, by rw [hU]; exact hz, by rw [hU]; exact hP, gK_warm hW (by rw [hU]; exact hS.2.1) hK⟩
/-- what a call's words say: the same for every state -/
def gCb (y : MethodName) (bytes : ByteArray) (maxL : Nat) (ret : Option FieldType) (ws : List Cond) (rm R : Room) (mc ms n : Nat) : Prop :=
  ws = Cond.code y bytes maxL ret :: ws.tail ∧ rm.cells = mc ∧ rm.slots = ms ∧ (y.cls ≠ "java/lang/invoke/MethodHandle" ∧ y.cls ≠ "java/lang/invoke/VarHandle" ∧ (parseMethodDescriptor y.desc).map (fun d => d.parameters.length) = some n) ∧ (rm.frames + 1 ≤ R.frames ∧ 8 + (maxL + 11) + rm.locals ≤ R.locals)
variable {y : MethodName} {bytes : ByteArray} {maxL : Nat} {ret2 : Option FieldType} {ws : List Cond} {rm : Room} {As : List Value} {b : Nat} {st0 : List Value}
theorem gx_callV (C : gC p s m args meth c cc ret Ts own nm D A nL hs0) (hM : gM l y ws rm D A hs mc ms (.ref b :: As) G post) (F : gCb y bytes maxL ret2 ws rm R mc ms n) (hT : GoodIn Ts (wsV own index y.cls y ws)) (hc : vwCl[ci]? = some (y.cls, T, N)) (hG : G b = some (.inr (ci, fs))) (hn : As.length = n) (hst : st0 = As.reverse ++ .ref b :: rest) (hroom : (rest.map fun v => v.category).sum ≤ 8) (hf : cells + mc ≤ R.cells ∧ slots + ms ≤ R.slots) (hdg : decode cc pc = .ok (.invokevirtual index, 3))
    (kk : ∀ (v : Option Value) (G' : gH), post v G' → gX p l e R s m args below meth c D A nL (hs + mc) (cells + mc) (slots + ms) Q G' V (pc + 3) (v.toList ++ rest)) : gX p l e R s m args below meth c D A nL hs cells slots Q G V pc st0 := by
  obtain ⟨f1, f2, f3, f4, f5⟩ := F
  refine gx_ofRun C (a0 := (.ref b :: As).toArray) (fun H locs ls hP hS hz hL => ?_) kk
  exact va_runV (As := As) (rest := rest) ⟨C.1, C.2.1, C.2.2.2.2.2.2.1, C.2.2.2.2.1, C.2.2.2.1⟩ hM (cwV n C.2.2.2.1 hT f1 f2 f3 ⟨rfl, f4⟩ f5) ⟨gPc_blind, va_recv C.2.2.2.2.2.2.2.1.1 (gP_one hP hG) hc (q0 := 0) rfl, gPc_of C.2.2.2.2.2.2.2.1 hP hS hz⟩ rfl hn hL.1 hst (lv_room hroom) hdg hf
theorem gx_callS (C : gC p s m args meth c cc ret Ts own nm D A nL hs0) (hM : gM l y ws rm D A hs mc ms As G post) (F : gCb y bytes maxL ret2 ws rm R mc ms n) (hT : GoodIn Ts (va_wsS own index y ws)) (hn : As.length = n) (hst : st0 = As.reverse ++ rest) (hroom : (rest.map fun v => v.category).sum ≤ 8) (hf : cells + mc ≤ R.cells ∧ slots + ms ≤ R.slots) (hdg : decode cc pc = .ok (.invokestatic index, 3))
    (kk : ∀ (v : Option Value) (G' : gH), post v G' → gX p l e R s m args below meth c D A nL (hs + mc) (cells + mc) (slots + ms) Q G' V (pc + 3) (v.toList ++ rest)) : gX p l e R s m args below meth c D A nL hs cells slots Q G V pc st0 := by
  obtain ⟨f1, f2, f3, f4, f5⟩ := F
  refine gx_ofRun C (a0 := As.toArray) (fun H locs ls hP hS hz hL => ?_) kk
  exact va_runS (As := As) (rest := rest) ⟨C.1, C.2.1, C.2.2.2.2.2.2.1, C.2.2.2.2.1, C.2.2.2.1⟩ hM (va_cwS n C.2.2.2.1 hT f1 f2 f3 f4 f5) ⟨gPc_blind, gPc_of C.2.2.2.2.2.2.2.1 hP hS hz⟩ rfl hn hL.1 hst (lv_room hroom) hdg hf
theorem gx_callSN (C : gC p s m args meth c cc ret Ts own nm D A nL hs0) (hM : gM l y ws rm D A hs mc ms As G post) (F : gCb y bytes maxL ret2 ws rm R mc ms n) (hT : GoodIn Ts ws) (h1 : Cond.methodLinkNest own index y "ProofSheets" ∈ gNest) (h2 : Cond.initialized y.cls ∈ Ts) (h3 : Cond.static y ∈ Ts) (hn : As.length = n) (hst : st0 = As.reverse ++ rest) (hroom : (rest.map fun v => v.category).sum ≤ 8) (hf : cells + mc ≤ R.cells ∧ slots + ms ≤ R.slots) (hdg : decode cc pc = .ok (.invokestatic index, 3))
    (kk : ∀ (v : Option Value) (G' : gH), post v G' → gX p l e R s m args below meth c D A nL (hs + mc) (cells + mc) (slots + ms) Q G' V (pc + 3) (v.toList ++ rest)) : gX p l e R s m args below meth c D A nL hs cells slots Q G V pc st0 := by
  obtain ⟨f1, f2, f3, f4, f5⟩ := F
  refine gx_ofRun C (a0 := As.toArray) (fun H locs ls hP hS hz hL => ?_) kk
  exact va_runSN (As := As) (rest := rest) ⟨C.1, C.2.1, C.2.2.2.2.2.2.1, C.2.2.2.2.1, C.2.2.2.1⟩ hM ⟨va_cnB n C.2.2.2.1 hT f1 f2 f3 (C.2.2.2.2.2.2.2.1.2.1 _ h1) (C.2.2.2.1 _ h2) f4 f5, C.2.2.2.1 _ h3, trivial⟩ ⟨gPc_blind, gPc_of C.2.2.2.2.2.2.2.1 hP hS hz⟩ rfl hn hL.1 hst (lv_room hroom) hdg hf
theorem gx_callI (C : gC p s m args meth c cc ret Ts own nm D A nL hs0) (hM : gM l y ws rm D A hs mc ms (.ref b :: As) G post) (F : gCb y bytes maxL none ws rm R mc ms n) (hT : GoodIn Ts ws) (h1 : Cond.methodLink own index y ∈ Ts) (h2 : Cond.initialized y.cls ∈ Ts) (h3 : Cond.instanceMethod y ∈ Ts) (h4 : y.name = "<init>") (hn : As.length = n) (hst : st0 = As.reverse ++ .ref b :: rest) (hroom : (rest.map fun v => v.category).sum ≤ 8) (hf : cells + mc ≤ R.cells ∧ slots + ms ≤ R.slots) (hdg : decode cc pc = .ok (.invokespecial index, 3))
    (kk : ∀ (v : Option Value) (G' : gH), post v G' → gX p l e R s m args below meth c D A nL (hs + mc) (cells + mc) (slots + ms) Q G' V (pc + 3) (v.toList ++ rest)) : gX p l e R s m args below meth c D A nL hs cells slots Q G V pc st0 := by
  obtain ⟨f1, f2, f3, f4, f5⟩ := F
  refine gx_ofRun C (a0 := (.ref b :: As).toArray) (fun H locs ls hP hS hz hL => ?_) kk
  exact va_runI (As := As) (rest := rest) ⟨C.1, C.2.1, C.2.2.2.2.2.2.1, C.2.2.2.2.1, C.2.2.2.1⟩ hM (cwI n C.2.2.2.1 hT f1 f2 f3 (C.2.2.2.1 _ h2) (C.2.2.2.1 _ h1) (C.2.2.2.1 _ h3) h4 f4 f5) ⟨gPc_blind, gPc_of C.2.2.2.2.2.2.2.1 hP hS hz⟩ rfl hn hL.1 hst (lv_room hroom) hdg hf
theorem gx_callIN (C : gC p s m args meth c cc ret Ts own nm D A nL hs0) (hM : gM l y ws rm D A hs mc ms (.ref b :: As) G post) (F : gCb y bytes maxL none ws rm R mc ms n) (hT : GoodIn Ts ws) (h1 : Cond.methodLinkNest own index y "ProofSheets" ∈ gNest) (h2 : Cond.initialized y.cls ∈ Ts) (h3 : Cond.instanceMethod y ∈ Ts) (h4 : y.name = "<init>") (hn : As.length = n) (hst : st0 = As.reverse ++ .ref b :: rest) (hroom : (rest.map fun v => v.category).sum ≤ 8) (hf : cells + mc ≤ R.cells ∧ slots + ms ≤ R.slots) (hdg : decode cc pc = .ok (.invokespecial index, 3))
    (kk : ∀ (v : Option Value) (G' : gH), post v G' → gX p l e R s m args below meth c D A nL (hs + mc) (cells + mc) (slots + ms) Q G' V (pc + 3) (v.toList ++ rest)) : gX p l e R s m args below meth c D A nL hs cells slots Q G V pc st0 := by
  obtain ⟨f1, f2, f3, f4, f5⟩ := F
  refine gx_ofRun C (a0 := (.ref b :: As).toArray) (fun H locs ls hP hS hz hL => ?_) kk
  exact va_runIN (As := As) (rest := rest) ⟨C.1, C.2.1, C.2.2.2.2.2.2.1, C.2.2.2.2.1, C.2.2.2.1⟩ hM ⟨va_cnB n C.2.2.2.1 hT f1 f2 f3 (C.2.2.2.2.2.2.2.1.2.1 _ h1) (C.2.2.2.1 _ h2) f4 f5, h4, C.2.2.2.1 _ h3⟩ ⟨gPc_blind, gPc_of C.2.2.2.2.2.2.2.1 hP hS hz⟩ rfl hn hL.1 hst (lv_room hroom) hdg hf
end GZ
/-- answers: a number; nothing; a cell or null -/
def gPi (po : Int32 → gH → Prop) : Option Value → gH → Prop := fun v G' => ∃ r : Int32, v = some (.int r) ∧ po r G'
def gPv (po : gH → Prop) : Option Value → gH → Prop := fun v G' => v = none ∧ po G'
def gPr (po : Value → gH → Prop) : Option Value → gH → Prop := fun v G' => ∃ w : Value, v = some w ∧ (w = .null ∨ ∃ a, w = .ref a) ∧ po w G'
section GK
variable {p : Program} {l : Launch} {e : Env} {R : Room} {s : State} {m : MethodId} {args : Array Value} {below : List Frame} {meth : Method} {c : Code} {D : gD} {A : Nat → Prop} {nL hs cells slots : Nat} {Q : State → Prop} {V : List (Option Value)} {pc : Nat} {rest : List Value}
theorem gx_ki {po : Int32 → gH → Prop} (kk : ∀ (r : Int32) (G' : gH), po r G' → gX p l e R s m args below meth c D A nL hs cells slots Q G' V pc (.int r :: rest)) : ∀ (v : Option Value) (G' : gH), gPi po v G' → gX p l e R s m args below meth c D A nL hs cells slots Q G' V pc (v.toList ++ rest) := by
  rintro v G' ⟨r, rfl, h⟩
  exact kk r G' h
theorem gx_kv {po : gH → Prop} (kk : ∀ (G' : gH), po G' → gX p l e R s m args below meth c D A nL hs cells slots Q G' V pc rest) : ∀ (v : Option Value) (G' : gH), gPv po v G' → gX p l e R s m args below meth c D A nL hs cells slots Q G' V pc (v.toList ++ rest) := by
  rintro v G' ⟨rfl, h⟩
  exact kk G' h
theorem gx_kr {po : Value → gH → Prop} (kk : ∀ (w : Value) (G' : gH), (w = .null ∨ ∃ a, w = .ref a) → po w G' → gX p l e R s m args below meth c D A nL hs cells slots Q G' V pc (w :: rest)) : ∀ (v : Option Value) (G' : gH), gPr po v G' → gX p l e R s m args below meth c D A nL hs cells slots Q G' V pc (v.toList ++ rest) := by
  rintro v G' ⟨w, rfl, h1, h⟩
  exact kk w G' h1 h
end GK
/-- a contract out of a walk of gX -/
theorem gM_intro {l : Launch} {y : MethodName} {ws ws' : List Cond} {rm : Room} {D : gD} {A : Nat → Prop} {hs mc ms : Nat} {av : List Value} {G : gH} {post : Option Value → gH → Prop} {cc : ByteArray} {maxL : Nat} {ret : Option FieldType}
    (hy : plainName y.cls = true) (hw : ws = Cond.code y cc maxL ret :: ws') (hav : av.all (fun v => v.category == 1) = true) (hlen : av.length ≤ maxL)
    (body : ∀ p e s m args below meth c, gC p s m args meth c cc ret ws y.cls y.name D A maxL hs → gX p l e rm s m args below meth c D A maxL hs 0 0 (MQ below (gQ D A hs mc post) args s mc ms A) G (av.map some ++ List.replicate (maxL - av.length) none) 0 []) : gM l y ws rm D A hs mc ms av G post := by
  refine Met.ofW (cc := cc) (maxL := maxL) (ret := ret) hy hw ?_
  intro p e s m args below meth c s₁ B hml hv
  obtain ⟨rfl, hsz, hP, hK⟩ := hv
  have hcat : ∀ v ∈ av, v.category = 1 := fun v hv => by simpa using List.all_eq_true.mp hav v hv
  have hsl : ∀ av : List Value, (∀ v ∈ av, v.category = 1) → lg_sl av = av.map Slot.val := by
    intro av
    induction av with
    | nil => intro _; rfl
    | cons v av ih =>
      intro h
      have h1 := h v List.mem_cons_self
      have h2 := ih (fun w hw => h w (List.mem_cons_of_mem _ hw))
      unfold lg_sl at h2 ⊢
      rw [List.flatMap_cons, if_neg (by omega), h2]
      rfl
  have hls := hsl av hcat
  have hen : ∀ (xs : List Value) (i : Nat), (∀ v ∈ xs, v.category = 1) → lv_args i xs = (xs.zipIdx i).map (fun q => (q.2, q.1)) := by
    intro xs
    induction xs with
    | nil => intro i _; rfl
    | cons v xs ih =>
      intro i h
      have h1 := h v List.mem_cons_self
      have h2 := ih (i + 1) (fun w hw => h w (List.mem_cons_of_mem _ hw))
      rw [lv_args, if_neg (by omega), h2]
      rfl
  have hl := lv_entry av (n := maxL) (by rw [hls]; simpa using hlen)
  rw [lg_entry_eq]
  have C : gC p s m av.toArray meth c cc ret ws y.cls y.name D A maxL hs := ⟨B.exec, B.bytes, B.returns, atoms_spec (ws := ws) B.pre, findClass_of_methodNamed B.named, B.notSynchronized, hml, hK, (name_of_methodNamed B.named B.method).1, hsz⟩
  refine body p e s m _ below meth c C s.heap [] _ hP va_S.rf hsz ⟨hl.1, hl.2.1, fun i v hi => ?_⟩
  have hlt : i < av.length := by
    rcases Nat.lt_or_ge i av.length with q | q
    · exact q
    · rw [List.getElem?_append_right (by simpa using q)] at hi
      have := List.mem_of_getElem? hi
      simp at this
  rw [List.getElem?_append_left (by simpa using hlt), List.getElem?_map] at hi
  have hiv : av[i]? = some v := by
    cases hx : av[i]? with
    | none => rw [hx] at hi; simp at hi
    | some w => rw [hx] at hi; simp at hi; rw [hi]
  refine ⟨hl.2.2 (i, v) ?_, hcat v (List.mem_of_getElem? hiv)⟩
  rw [hen av 0 hcat]
  refine List.mem_map.mpr ⟨(v, i), ?_, rfl⟩
  rw [List.mem_zipIdx_iff_getElem?]
  exact hiv
theorem gz_ne {x k : Int32} {n : Int} (hk : k.toInt = n) (h : ¬ x = k) : x.toInt ≠ n := fun q => h (Int32.toInt_inj.mp (q.trans hk.symm))
section GSP
variable {p : Program} {l : Launch} {e : Env} {R : Room} {s : State} {m : MethodId} {args : Array Value} {below : List Frame} {meth : Method} {c : Code} {D : gD} {A : Nat → Prop} {nL hs cells slots : Nat} {Q : State → Prop} {G : gH} {V : List (Option Value)} {pc : Nat} {rest : List Value}
theorem gx_split {x : Int32} (k : Int32) (kt : x = k → gX p l e R s m args below meth c D A nL hs cells slots Q G V pc (.int x :: rest)) (kf : ¬ x = k → gX p l e R s m args below meth c D A nL hs cells slots Q G V pc (.int x :: rest)) : gX p l e R s m args below meth c D A nL hs cells slots Q G V pc (.int x :: rest) := by
  by_cases h : x = k
  · exact kt h
  · exact kf h
end GSP
section GV2
variable {p : Program} {l : Launch} {e : Env} {R : Room} {s : State} {m : MethodId} {args : Array Value} {below : List Frame} {meth : Method} {c : Code} {D : gD} {A : Nat → Prop} {nL hs cells slots : Nat} {Q : State → Prop} {G : gH} {V V' : List (Option Value)} {pc : Nat} {rest : List Value}
theorem gx_V (h : V = V') (k : gX p l e R s m args below meth c D A nL hs cells slots Q G V' pc rest) : gX p l e R s m args below meth c D A nL hs cells slots Q G V pc rest := h ▸ k
end GV2
section GIN
variable {p : Program} {l : Launch} {e : Env} {R : Room} {s : State} {m : MethodId} {args : Array Value} {below : List Frame} {meth : Method} {c : Code} {cc : ByteArray} {ret : Option FieldType} {Ts : List Cond} {own nm : String} {D : gD} {A : Nat → Prop} {nL hs0 hs cells slots : Nat} {Q : State → Prop} {G : gH} {V : List (Option Value)} {pc : Nat} {rest : List Value}
theorem gx_iincN (C : gC p s m args meth c cc ret Ts own nm D A nL hs0) {i j : Nat} (hdg : decode cc pc = .ok (.iinc i 1, 3)) (hV : V[i]? = some (some (.int (nI j)))) (hn : i < nL)
    (kk : gX p l e R s m args below meth c D A nL hs cells slots Q G (V.set i (some (.int (nI (j + 1))))) (pc + 3) rest) : gX p l e R s m args below meth c D A nL hs cells slots Q G V pc rest :=
  gx_iinc C hdg hV (nI_1 j) hn kk
theorem gx_iinc1 (C : gC p s m args meth c cc ret Ts own nm D A nL hs0) {i : Nat} {x : Int32} (hdg : decode cc pc = .ok (.iinc i 1, 3)) (hV : V[i]? = some (some (.int x))) (hn : i < nL)
    (kk : gX p l e R s m args below meth c D A nL hs cells slots Q G (V.set i (some (.int (x + 1)))) (pc + 3) rest) : gX p l e R s m args below meth c D A nL hs cells slots Q G V pc rest :=
  gx_iinc C hdg hV rfl hn kk
theorem gx_iincm (C : gC p s m args meth c cc ret Ts own nm D A nL hs0) {i : Nat} {x : Int32} (hdg : decode cc pc = .ok (.iinc i (-1), 3)) (hV : V[i]? = some (some (.int x))) (hn : i < nL)
    (kk : gX p l e R s m args below meth c D A nL hs cells slots Q G (V.set i (some (.int (x + (-1))))) (pc + 3) rest) : gX p l e R s m args below meth c D A nL hs cells slots Q G V pc rest :=
  gx_iinc C hdg hV rfl hn kk
end GIN
