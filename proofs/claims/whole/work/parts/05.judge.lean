/-! ===== what holds of the old cells, the judgement, calls ===== -/
def am_ov (j : Nat) : Int32 := ([-1, 0, 1, 0, 3] : List Int32).getD j 0
def am_fa (j : Nat) : Int32 := ([1, 1, 2, 6, 24, 120, 720, 5040] : List Int32).getD j 0
/-- the nine words of the text: lengths, bytes, entries -/
def am_sn : List Nat := [4, 5, 4, 5, 6, 4, 5, 4, 3]
def am_sb : List (List Int32) := [[104, 97, 108, 108], [115, 107, 105, 108, 108], [108, 105, 107, 101], [112, 108, 97, 105, 110], [116, 105, 114, 105, 110, 103], [104, 111, 108, 121], [115, 119, 101, 101, 116], [114, 105, 110, 103], [100, 105, 100]]
def am_si (i : Nat) : Nat := 60 + (if i = 0 then 0 else 2 * i + 4)
def am_st (i : Nat) : String := (["hall", "skill", "like", "plain", "tiring", "holy", "sweet", "ring", "did"] : List String).getD i ""
def am_nw : List Cond := [.fieldLinkNest RX2 39 RX9 "OVER" "[I" RX9, .fieldLinkNest RX3 9 RX9 "FACTORIALS" "[I" RX9, .fieldLinkNest RX8 46 RX9 "FACTORIALS" "[I" RX9, .fieldLinkNest RX4 37 RX9 "FACTORIALS" "[I" RX9, .methodLinkNest RX9 9 yX6_init RX9, .methodLinkNest RX9 18 yX2_init RX9, .methodLinkNest RX9 25 yX1_init RX9, .methodLinkNest RX6 90 yX9_isRing RX9]
def am_S (E : Nat × (Nat → Int32)) (g : am_G) (U : State) (H : Heap) : Prop :=
  va_K g.2.2.2 vwCl [(g.2.2.1 .int, .int), (g.2.2.1 .long, .long), (g.2.2.1 .boolean, .boolean), (g.2.2.1 (.object RX1), .object RX1), (g.2.2.1 (.object RX8), .object RX8)] U ∧
  (va_Z RX9 "OVER" "[I" (.ref (g.2.1 1000)) (am_A g) U H ∧ va_T .int (g.2.1 1000) 5 (fun j => .int (am_ov j)) (am_A g) U H) ∧
  (va_Z RX9 "FACTORIALS" "[I" (.ref (g.2.1 1001)) (am_A g) U H ∧ va_T .int (g.2.1 1001) 8 (fun j => .int (am_fa j)) (am_A g) U H) ∧
  va_T .int (g.2.1 1002) E.1 (fun j => .int (E.2 j)) (am_A g) U H ∧
  (va_Z RJ0 "COMPACT_STRINGS" "Z" (.int 1) (am_A g) U H ∧ (va_Z RJ3 "SIOOBE_FORMATTER" "Ljava/util/function/BiFunction;" .null (am_A g) U H ∨ va_Z RJ3 "SIOOBE_FORMATTER" "Ljava/util/function/BiFunction;" (.ref (g.2.1 1003)) (am_A g) U H)) ∧
  vk_S 9 am_sn am_sb (fun i => g.2.1 (1010 + i)) (fun i => g.2.1 (1020 + i)) (am_A g) U H ∧
  (∀ i, i < 9 → vk_R RX6 (am_si i) (am_st i) (g.2.1 (1010 + i)) U) ∧
  (va_AO RX1 U ∧ va_AO RX8 U) ∧ (∀ w ∈ am_nw, va_Nw w U)
theorem am_S.kept {E : Nat × (Nat → Int32)} {g : am_G} {U : State} {H H1 : Heap} (h : am_S E g U H) (hq : ∀ a : Nat, a < H.size → ¬ am_A g a → H1[a]? = H[a]?) : am_S E g U H1 := by
  obtain ⟨h1, ⟨h2, h3⟩, ⟨h4, h5⟩, h6, ⟨h7, h8⟩, h9, h10, h11, h12⟩ := h
  exact ⟨h1, ⟨h2.kept hq, h3.kept hq⟩, ⟨h4.kept hq, h5.kept hq⟩, h6.kept hq, ⟨h7.kept hq, h8.imp (fun z => z.kept hq) (fun z => z.kept hq)⟩, h9.kept hq, h10, h11, h12⟩
theorem am_S.warm {E : Nat × (Nat → Int32)} {g : am_G} {s U : State} {H : Heap} (hW : s.WarmedH U.vm) (h : am_S E g s H) : am_S E g U H := by
  obtain ⟨h1, ⟨h2, h3⟩, ⟨h4, h5⟩, h6, ⟨h7, h8⟩, h9, h10, ⟨h11, h13⟩, h12⟩ := h
  have ha := hW.alike
  refine ⟨va_K.moved ha h1, ⟨va_Z.moved ha h2, va_T.moved ha h3⟩, ⟨va_Z.moved ha h4, va_T.moved ha h5⟩, va_T.moved ha h6, ⟨va_Z.moved ha h7, h8.imp (fun z => va_Z.moved ha z) (fun z => va_Z.moved ha z)⟩, vk_S.moved ha h9, fun i hi => vk_R.warm hW (h10 i hi), ⟨va_AO.moved ha h11, va_AO.moved ha h13⟩, fun w hw => ?_⟩
  have h0 := h12 w hw
  simp only [am_nw, List.mem_cons, List.not_mem_nil, or_false] at hw
  rcases hw with rfl | rfl | rfl | rfl | rfl | rfl | rfl | rfl
  · exact va_Nw.warmF hW h0
  · exact va_Nw.warmF hW h0
  · exact va_Nw.warmF hW h0
  · exact va_Nw.warmF hW h0
  · exact va_Nw.warmM hW h0
  · exact va_Nw.warmM hW h0
  · exact va_Nw.warmM hW h0
  · exact va_Nw.warmM hW h0
theorem am_S.calling {E : Nat × (Nat → Int32)} {g : am_G} {U : State} {H : Heap} (h : am_S E g U H) (f : JFrame) (mk : MethodId) (a : Array Value) : am_S E g (U.calling f mk a) H := am_S.warm (s := U) (State.WarmedH.refl U) h
/-- the locals -/
def am_L (g : am_G) (lsc : Array Slot) (nL : Nat) (ls : List (Option Value)) : Prop := lsc.size = nL ∧ lv_wf lsc ∧ ls.length = nL ∧ ∀ (i : Nat) (v : Value), ls[i]? = some (some v) → lsc[i]? = some (.val (am_v g v))
def am_l (g : am_G) (ls : List (Option Value)) : List (Nat × Value) := (List.range ls.length).filterMap (fun i => (ls.getD i none).map (fun v => (i, am_v g v)))
theorem am_l_mem {g : am_G} {ls : List (Option Value)} {q : Nat × Value} : q ∈ am_l g ls ↔ ∃ v, ls[q.1]? = some (some v) ∧ q.2 = am_v g v := by
  unfold am_l
  rw [List.mem_filterMap]
  constructor
  · rintro ⟨i, hi, he⟩
    rw [List.mem_range] at hi
    cases hv : ls.getD i none with
    | none => rw [hv] at he; cases he
    | some v =>
      rw [hv] at he
      cases he
      refine ⟨v, ?_, rfl⟩
      rw [List.getD_eq_getElem?_getD] at hv
      rw [List.getElem?_eq_getElem hi] at hv ⊢
      exact congrArg some hv
  · rintro ⟨v, h1, h2⟩
    refine ⟨q.1, List.mem_range.mpr (List.getElem?_eq_some_iff.mp h1).1, ?_⟩
    rw [List.getD_eq_getElem?_getD, h1]
    show some (q.1, am_v g v) = some q
    rw [← h2]
theorem am_L.has {g : am_G} {lsc : Array Slot} {nL : Nat} {ls : List (Option Value)} (h : am_L g lsc nL ls) : lv_has lsc nL (am_l g ls) := ⟨h.1, h.2.1, fun q hq => by
  obtain ⟨v, h1, h2⟩ := am_l_mem.mp hq
  rw [h2]
  exact h.2.2.2 _ _ h1⟩
theorem am_cat (g : am_G) (v : Value) : (am_v g v).category = v.category := by cases v <;> rfl
def am_o1 (ls : List (Option Value)) (i : Nat) : Bool := match i with
  | 0 => true
  | j + 1 => match ls.getD j none with
    | some v => v.category == 1
    | none => true
theorem am_L.st1 {g : am_G} {lsc lsc' : Array Slot} {nL i : Nat} {ls : List (Option Value)} {v : Value} (h : am_L g lsc nL ls) (hi : i < nL) (ho : am_o1 ls i = true) (h' : lv_has lsc' nL ((i, am_v g v) :: (am_l g ls).filter (fun q => !(q.1 == i) && !(q.1 + 1 == i && q.2.category == 2)))) : am_L g lsc' nL (ls.set i (some v)) := by
  refine ⟨h'.1, h'.2.1, by rw [List.length_set]; exact h.2.2.1, fun j w hj => ?_⟩
  by_cases e : j = i
  · subst e
    rw [List.getElem?_set_self (by rw [h.2.2.1]; exact hi)] at hj
    cases hj
    exact h'.2.2 (j, am_v g v) List.mem_cons_self
  · rw [List.getElem?_set_ne (Ne.symm e)] at hj
    refine h'.2.2 (j, am_v g w) (List.mem_cons_of_mem _ (List.mem_filter.mpr ⟨am_l_mem.mpr ⟨w, hj, rfl⟩, ?_⟩))
    have e1 : (j == i) = false := by simp [e]
    have e2 : (j + 1 == i && (am_v g w).category == 2) = false := by
      by_cases e3 : j + 1 = i
      · subst e3
        simp only [am_o1, List.getD_eq_getElem?_getD, hj, Option.getD_some, beq_iff_eq] at ho
        rw [am_cat, ho]
        simp
      · simp [e3]
    show (!(j == i) && !(j + 1 == i && (am_v g w).category == 2)) = true
    rw [e1, e2]
    rfl
theorem am_L.st2 {g : am_G} {lsc lsc' : Array Slot} {nL i : Nat} {ls : List (Option Value)} {v : Value} (h : am_L g lsc nL ls) (hi : i + 1 < nL) (ho : am_o1 ls i = true) (h' : lv_has lsc' nL ((i, am_v g v) :: (am_l g ls).filter (fun q => !(q.1 == i) && (!(q.1 == i + 1) && !(q.1 + 1 == i && q.2.category == 2))))) : am_L g lsc' nL ((ls.set i (some v)).set (i + 1) none) := by
  refine ⟨h'.1, h'.2.1, by rw [List.length_set, List.length_set]; exact h.2.2.1, fun j w hj => ?_⟩
  by_cases e0 : j = i + 1
  · subst e0
    rw [List.getElem?_set_self (by rw [List.length_set, h.2.2.1]; exact hi)] at hj
    cases hj
  · rw [List.getElem?_set_ne (Ne.symm e0)] at hj
    by_cases e : j = i
    · subst e
      rw [List.getElem?_set_self (by rw [h.2.2.1]; omega)] at hj
      cases hj
      exact h'.2.2 (j, am_v g v) List.mem_cons_self
    · rw [List.getElem?_set_ne (Ne.symm e)] at hj
      refine h'.2.2 (j, am_v g w) (List.mem_cons_of_mem _ (List.mem_filter.mpr ⟨am_l_mem.mpr ⟨w, hj, rfl⟩, ?_⟩))
      have e1 : (j == i) = false := by simp [e]
      have e4 : (j == i + 1) = false := by simp [e0]
      have e2 : (j + 1 == i && (am_v g w).category == 2) = false := by
        by_cases e3 : j + 1 = i
        · subst e3
          simp only [am_o1, List.getD_eq_getElem?_getD, hj, Option.getD_some, beq_iff_eq] at ho
          rw [am_cat, ho]
          simp
        · simp [e3]
      show (!(j == i) && (!(j == i + 1) && !(j + 1 == i && (am_v g w).category == 2))) = true
      rw [e1, e2, e4]
      rfl
/-- the locals at a method's entry -/
def am_e0 : List Value → List (Option Value)
  | [] => []
  | v :: vs => if v.category = 2 then some v :: none :: am_e0 vs else some v :: am_e0 vs
def am_en (vs : List Value) (nL : Nat) : List (Option Value) := am_e0 vs ++ List.replicate (nL - (am_e0 vs).length) none
theorem am_e0_len (g : am_G) (vs : List Value) : (lg_sl (vs.map (am_v g))).length = (am_e0 vs).length := by
  induction vs with
  | nil => rfl
  | cons v vs ih =>
    show (lg_sl (am_v g v :: vs.map (am_v g))).length = _
    unfold lg_sl at ih ⊢
    rw [List.flatMap_cons, List.length_append, ih, am_e0]
    by_cases h : v.category = 2
    · rw [if_pos h, if_pos (by rw [am_cat]; exact h)]
      simp; omega
    · rw [if_neg h, if_neg (by rw [am_cat]; exact h)]
      simp; omega
theorem am_e0_mem (g : am_G) (vs : List Value) : ∀ (k i : Nat) (v : Value), (am_e0 vs)[i]? = some (some v) → (k + i, am_v g v) ∈ lv_args k (vs.map (am_v g)) := by
  induction vs with
  | nil => intro k i v h; simp [am_e0] at h
  | cons w vs ih =>
    intro k i v h
    rw [am_e0] at h
    show _ ∈ lv_args k (am_v g w :: vs.map (am_v g))
    rw [lv_args]
    by_cases hc : w.category = 2
    · rw [if_pos hc] at h
      rw [if_pos (by rw [am_cat]; exact hc)]
      match i, h with
      | 0, h => simp at h; rw [h]; exact List.mem_cons_self
      | 1, h => simp at h
      | i + 2, h =>
        simp at h
        have := ih (k + 2) i v h
        rw [show k + 2 + i = k + (i + 2) by omega] at this
        exact List.mem_cons_of_mem _ this
    · rw [if_neg hc] at h
      rw [if_neg (by rw [am_cat]; exact hc)]
      match i, h with
      | 0, h => simp at h; rw [h]; exact List.mem_cons_self
      | i + 1, h =>
        simp at h
        have := ih (k + 1) i v h
        rw [show k + 1 + i = k + (i + 1) by omega] at this
        exact List.mem_cons_of_mem _ this
theorem am_L.entry (g : am_G) (vs : List Value) {nL : Nat} (h : (am_e0 vs).length ≤ nL) : am_L g ((lg_sl (vs.map (am_v g)) ++ List.replicate (nL - (lg_sl (vs.map (am_v g))).length) Slot.unset).toArray) nL (am_en vs nL) := by
  have h0 := lv_entry (vs.map (am_v g)) (n := nL) (by rw [am_e0_len]; exact h)
  refine ⟨h0.1, h0.2.1, by unfold am_en; simp; omega, fun i v hi => ?_⟩
  unfold am_en at hi
  rcases Nat.lt_or_ge i (am_e0 vs).length with q | q
  · rw [List.getElem?_append_left q] at hi
    have := am_e0_mem g vs 0 i v hi
    rw [Nat.zero_add] at this
    exact h0.2.2 _ this
  · rw [List.getElem?_append_right q] at hi
    have := List.mem_of_getElem? hi
    have := List.eq_of_mem_replicate this
    cases this
/-- how a method ends at pc -/
def am_K (M : am_M) (pc : Nat) (r : Option Value) : Prop := match r with
  | none => decode M.2.1 pc = .ok (.return_, 1) ∧ M.2.2.2.1 = none
  | some (.int v) => decode M.2.1 pc = .ok (.ireturn, 1) ∧ ∃ ty, M.2.2.2.1 = some ty ∧ narrow ty (.int v) = .int v
  | some (.long _) => decode M.2.1 pc = .ok (.lreturn, 1) ∧ M.2.2.2.1 = some .long
  | some (.ref _) => decode M.2.1 pc = .ok (.areturn, 1) ∧ ∃ rt, M.2.2.2.1 = some rt ∧ ((∃ n, rt = .object n) ∨ ∃ t, rt = .array t)
  | _ => False
def am_C (E : Nat × (Nat → Int32)) (M : am_M) (p : Program) (s : State) (m : MethodId) (args : Array Value) (meth : Method) (c : Code) (g : am_G) (Rm : Room) : Prop :=
  p.tables.exec = Jvm.exec ∧ c.code = M.2.1 ∧ meth.sig.returnType = M.2.2.2.1 ∧ c.maxLocals = M.2.2.1 ∧ s.vm.findClass M.1.cls = some m.cls ∧ (∀ w ∈ am_TB, w.before args s = true) ∧ meth.locks = false ∧ (M.1.name = "<init>" → meth.name = "<init>") ∧ (M.2.2.2.2.1 ≤ Rm.frames ∧ M.2.2.2.2.2 ≤ Rm.locals) ∧ am_S E g s s.heap
def am_R (E : Nat × (Nat → Int32)) (M : am_M) (pc : Nat) (ls : List (Option Value)) (st : List Value) (h : am_H) (n n1 : Nat) (Q : Option Value → am_H → Prop) : Prop :=
  ∀ (p : Program) (l : Launch) (e : Env) (s : State) (m : MethodId) (args : Array Value) (below : List Frame) (meth : Method) (c : Code) (g : am_G) (n0 : Nat) (Z : State → Prop) (H : Heap) (locs : List Loc) (lsc : Array Slot) (Rm : Room),
    am_C E M p s m args meth c g Rm → (n1 - n0 ≤ Rm.cells ∧ am_cs n1 - am_cs n0 ≤ Rm.slots) → am_P g h n H → va_S (am_A g) s.heap H locs → (n0 ≤ n ∧ n ≤ n1) → am_L g lsc M.2.2.1 ls →
    (∀ (pc' : Nat) (r : Option Value) (h' : am_H) (H' : Heap) (locs' : List Loc) (lsc' : Array Slot), Q r h' → am_P g h' n1 H' → va_S (am_A g) s.heap H' locs' → am_K M pc' r → W p l e Rm s m args below meth c H' locs' (n1 - n0) (am_cs n1 - am_cs n0) Z (F0 m pc' lsc' (r.toList.map (am_v g)))) →
    W p l e Rm s m args below meth c H locs (n - n0) (am_cs n - am_cs n0) Z (F0 m pc lsc (st.map (am_v g)))
