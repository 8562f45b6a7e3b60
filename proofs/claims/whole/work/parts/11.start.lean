/-! THE CLAIM OUT OF ONE WALK OF THE LAW'S BODY. Your part is whole_start (and what it stands on); all else here is the same for every law, but numbers. -/
def R_law : String := "DutiesHatLaw"
def lw_P (b : Addr) (xs : List Int32) (args : Array Value) (s : State) : Prop := args = #[.ref b] ∧ s.IntsAt b xs ∧ xs.length ≤ 320 ∧ (Jvm.Cond.and given_1 narrow_1).before args s = true
def lw_Q (_ : Array Value) (s : State) (o : Outcome) (t : State) : Prop := o = .returned (some (.int 1)) ∧ Framed s o t [] 64 13480
def lw_Z (below : List Frame) (a : Array Value) (s : State) : State → Prop := fun t => ∃ o, t.status = .running ∧ Ended t below o ∧ lw_Q a s o t
/-- the law's own end, with 1 on the stack, nothing written that was there before, its room as the claim has it -/
theorem lw_ret {p : Program} {l : Launch} {e : Env} {s : State} {m : MethodId} {below : List Frame} {meth : Method} {c : Code} {b : Nat} (hx : p.tables.exec = Jvm.exec) (hb : c.code = code) (hr : meth.sig.returnType = ret) (hlocks : meth.locks = false) {pc : Nat} {H : Heap} {ls : Array Slot} (hdg : decode code pc = .ok (.ireturn, 1)) : W p l e room_1 s m #[Value.ref b] below meth c H [] 64 13480 (lw_Z below #[Value.ref b] s) (F0 m pc ls [.int 1]) := by
  intro T hT X
  obtain ⟨fs, hret, hrun, hended, hW, hframe⟩ := X.leave (v := some (.int 1)) (hlocks := hlocks) (fun h => by rw [hr] at h; cases h)
  have hmeth' : T.vm.method? m = some meth := X.method'
  refine ⟨T.setFrames fs, ?_, .returned (some (.int 1)), hrun, hended, rfl, ⟨_, rfl⟩, hW, hframe⟩
  jvm_step X.here [X.here.top, hx, hb, hdg, hmeth', hr, ret, narrow_b1]
  (try refine ⟨rfl, ?_⟩); (try refine ⟨rfl, ?_⟩)
  first | (intro acts; rw [hret _ acts rfl rfl rfl]) | rw [hret _ _ rfl rfl rfl]
  exact Steps.refl _
/-- what holds at the law's entry: the machine, the code, the tables' words (any of lw_tbl by 'hts w (by decide +kernel)'), the script of L ints xs at the cell b, what the Statement gives of the start (any of its parts by flat_of_before) -/
def lw_At (p : Program) (s : State) (m : MethodId) (meth : Method) (c : Code) (b L : Nat) (xs : Nat → Int32) : Prop :=
  p.tables.exec = Jvm.exec ∧ c.code = code ∧ meth.sig.returnType = ret ∧ c.maxLocals = 4 ∧ s.vm.findClass R_law = some m.cls ∧ (∀ w ∈ lw_tbl, w.before #[Value.ref b] s = true) ∧ va_X b L xs s s.heap ∧ b < s.heap.size ∧ meth.locks = false ∧ (Jvm.Cond.and given_1 narrow_1).before #[Value.ref b] s = true
set_option maxRecDepth 20000 in
theorem am_inst : ∀ ci, ci < 9 → Cond.instantiable (am_cn ci) (am_nf ci) ∈ am_TB := by decide +kernel
theorem am_sub : ∀ w ∈ am_TB, w ∈ lw_tbl := fun _ h => (List.mem_filter.mp h).1
def am_x (b tO tF tS : Nat) (adK adV : Nat → Nat) (k : Nat) : Nat := if k = 1000 then tO else if k = 1001 then tF else if k = 1002 then b else if k = 1003 then tS else if 1020 ≤ k then adV (k - 1020) else adK (k - 1010)
theorem am_x10 {b tO tF tS : Nat} {adK adV : Nat → Nat} {i : Nat} (hi : i < 9) : am_x b tO tF tS adK adV (1010 + i) = adK i := by
  unfold am_x
  rw [if_neg (by omega), if_neg (by omega), if_neg (by omega), if_neg (by omega), if_neg (by omega), show 1010 + i - 1010 = i by omega]
theorem am_x20 {b tO tF tS : Nat} {adK adV : Nat → Nat} {i : Nat} : am_x b tO tF tS adK adV (1020 + i) = adV i := by
  unfold am_x
  rw [if_neg (by omega), if_neg (by omega), if_neg (by omega), if_neg (by omega), if_pos (by omega), show 1020 + i - 1020 = i by omega]
def am_kt (cI cL cZ cD cT : ClassId) : FieldType → ClassId
  | .int => cI
  | .long => cL
  | .boolean => cZ
  | .object C => if C = RX1 then cD else cT
  | _ => cI
def am_stT (i : Nat) : Term := .string RX6 (am_si i)
set_option maxRecDepth 20000 in
set_option maxHeartbeats 4000000 in
theorem am_start {p : Program} {s : State} {m : MethodId} {meth : Method} {c : Code} {b L : Nat} {xs : Nat → Int32} (hL : L ≤ 320) (C0 : lw_At p s m meth c b L xs) : ∃ g : am_G, g.1 = s.heap.size ∧ g.2.1 1002 = b ∧ am_S (L, xs) g s s.heap := by
  obtain ⟨hx, hb, hr, hml, hown, hts0, hX, hbl, hlk, hgv⟩ := C0
  have hs := flat_of_before _ hgv
  have hts : ∀ w ∈ am_TB, w.before #[Value.ref b] s = true := fun w hw => hts0 w (am_sub w hw)
  have hA : ∀ a : Nat, a < s.heap.size → ¬ (s.heap.size ≤ a) := fun a h => by omega
  have hcls : ∀ ci : Nat, ∃ q : ClassId × (Nat → Nat), ci < 9 → u_Kn s (am_cn ci) (am_tb ci) (am_nf ci) q.1 q.2 := by
    intro ci
    by_cases h : ci < 9
    · obtain ⟨cC, iS, h1⟩ := u_known hts (am_in h) (hts _ (am_inst ci h))
      exact ⟨(cC, iS), fun _ => h1⟩
    · exact ⟨(0, fun _ => 0), fun q => absurd q h⟩
  obtain ⟨dd, hdd⟩ := Classical.axiomOfChoice hcls
  obtain ⟨cI, kI, oI, iI1, iI2, iI3⟩ := Cond.arrayClass_spec (hts (.arrayClass .int) (by decide +kernel))
  obtain ⟨cL, kL, oL, iL1, iL2, iL3⟩ := Cond.arrayClass_spec (hts (.arrayClass .long) (by decide +kernel))
  obtain ⟨cZ, kZ, oZ, iZ1, iZ2, iZ3⟩ := Cond.arrayClass_spec (hts (.arrayClass .boolean) (by decide +kernel))
  have hoD : (Cond.arrayOver (.object RX1)).before #[Value.ref b] s = true := hts0 _ (by decide +kernel)
  have hoT : (Cond.arrayOver (.object RX8)).before #[Value.ref b] s = true := hts0 _ (by decide +kernel)
  obtain ⟨oD, cD, kD, iD1, iD2, iD3, iD4, iD5⟩ := Cond.arrayOver_spec hoD
  obtain ⟨oT, cT, kT, iT1, iT2, iT3, iT4, iT5⟩ := Cond.arrayOver_spec hoT
  obtain ⟨tO, vO, hO⟩ := va_Tof (args := #[Value.ref b]) (s := s) (tm := .static RX9 "OVER" "[I") (ty := .int) (N := 5) (f := fun j => .int (am_ov j)) (A := fun q => s.heap.size ≤ q) (by decide) (hs _ (by decide +kernel)) (va_eqt (hs _ (by decide +kernel))) (fun j hj => by
    rcases (show j = 0 ∨ j = 1 ∨ j = 2 ∨ j = 3 ∨ j = 4 by omega) with rfl | rfl | rfl | rfl | rfl <;> exact va_eqt (hs _ (by decide +kernel))) hA
  obtain ⟨tF, vF, hF⟩ := va_Tof (args := #[Value.ref b]) (s := s) (tm := .static RX9 "FACTORIALS" "[I") (ty := .int) (N := 8) (f := fun j => .int (am_fa j)) (A := fun q => s.heap.size ≤ q) (by decide) (hs _ (by decide +kernel)) (va_eqt (hs _ (by decide +kernel))) (fun j hj => by
    rcases (show j = 0 ∨ j = 1 ∨ j = 2 ∨ j = 3 ∨ j = 4 ∨ j = 5 ∨ j = 6 ∨ j = 7 by omega) with rfl | rfl | rfl | rfl | rfl | rfl | rfl | rfl <;> exact va_eqt (hs _ (by decide +kernel))) hA
  have zO := va_Zof (A := fun q => s.heap.size ≤ q) (hts0 (.laysStatic RX9 "OVER" "[I") (by decide +kernel)) (hts (.initialized RX9) (by decide +kernel)) vO hA
  have zF := va_Zof (A := fun q => s.heap.size ≤ q) (hts0 (.laysStatic RX9 "FACTORIALS" "[I") (by decide +kernel)) (hts (.initialized RX9) (by decide +kernel)) vF hA
  have zC := va_Zof (A := fun q => s.heap.size ≤ q) (hts0 (.laysStatic RJ0 "COMPACT_STRINGS" "Z") (by decide +kernel)) (hts (.initialized RJ0) (by decide +kernel)) (va_eqi (z := 1) (hs _ (by decide +kernel))) hA
  have zS : ∃ tS : Nat, va_Z RJ3 "SIOOBE_FORMATTER" "Ljava/util/function/BiFunction;" .null (fun q => s.heap.size ≤ q) s s.heap ∨ va_Z RJ3 "SIOOBE_FORMATTER" "Ljava/util/function/BiFunction;" (.ref tS) (fun q => s.heap.size ≤ q) s s.heap := by
    rcases va_Zqof (A := fun q => s.heap.size ≤ q) (hts0 (.laysStatic RJ3 "SIOOBE_FORMATTER" "Ljava/util/function/BiFunction;") (by decide +kernel)) (hts (.initialized RJ3) (by decide +kernel)) (hs _ (by decide +kernel)) hA with h | ⟨t, h⟩
    · exact ⟨0, Or.inl h⟩
    · exact ⟨t, Or.inr h⟩
  obtain ⟨tS, zS⟩ := zS
  have h9 : ∀ i, i < 9 → i = 0 ∨ i = 1 ∨ i = 2 ∨ i = 3 ∨ i = 4 ∨ i = 5 ∨ i = 6 ∨ i = 7 ∨ i = 8 := fun i h => by omega
  obtain ⟨adK, adV, hK, hKe⟩ := vk_Sof (args := #[Value.ref b]) (s := s) (N := 9) (tm := am_stT) (len := am_sn) (byt := am_sb) (A := fun q => s.heap.size ≤ q)
    (fun i hi => by rcases h9 i hi with rfl | rfl | rfl | rfl | rfl | rfl | rfl | rfl | rfl <;> decide)
    (fun i hi => hs _ ((by decide +kernel : ∀ i, i < 9 → Cond.exactly (am_stT i) "java/lang/String" ∈ flatC (given_1.and narrow_1)) i hi))
    (fun i hi => hs _ ((by decide +kernel : ∀ i, i < 9 → Cond.eq (.field (am_stT i) "java/lang/String" "coder" "B") (.int 0) ∈ flatC (given_1.and narrow_1)) i hi))
    (fun i hi => hs _ ((by decide +kernel : ∀ i, i < 9 → Cond.arrayOf (.field (am_stT i) "java/lang/String" "value" "[B") .byte ∈ flatC (given_1.and narrow_1)) i hi))
    (fun i hi => hs _ ((by decide +kernel : ∀ i, i < 9 → Cond.eq (.length (.field (am_stT i) "java/lang/String" "value" "[B")) (.int (Int32.ofNat (am_sn.getD i 0))) ∈ flatC (given_1.and narrow_1)) i hi))
    (fun i hi j hj => hs _ ((by decide +kernel : ∀ i, i < 9 → ∀ j, j < am_sn.getD i 0 → Cond.eq (.elem (.field (am_stT i) "java/lang/String" "value" "[B") (.int (Int32.ofNat j))) (.int ((am_sb.getD i []).getD j 0)) ∈ flatC (given_1.and narrow_1)) i hi j hj))
    (fun i j hi hj hne => ((by decide +kernel : ∀ i, i < 9 → ∀ j, j < 9 → i ≠ j → (Cond.not (Cond.eq (am_stT i) (am_stT j)) ∈ flatC (given_1.and narrow_1) ∨ Cond.not (Cond.eq (am_stT j) (am_stT i)) ∈ flatC (given_1.and narrow_1))) i hi j hj hne).imp (fun h => hs _ h) (fun h => hs _ h)) hA
  refine ⟨(s.heap.size, am_x b tO tF tS adK adV, am_kt cI cL cZ cD cT, (fun ci => (dd ci).1, fun ci => (dd ci).2)), rfl, rfl, ⟨fun ci q hq => ?_, fun k q hq => ?_⟩, ⟨zO, hO⟩, ⟨zF, hF⟩, ?_, ⟨zC, zS⟩, ⟨fun i hi => ?_, fun i j hi hj he => ?_⟩, fun i hi => ?_, ⟨hoD, hoT⟩, fun w hw => ?_⟩
  · have hci : ci < 9 := (List.getElem?_eq_some_iff.mp hq).1
    have e := (am_cl hci).symm.trans hq
    cases e
    exact hdd ci hci
  · have hk : k < 5 := (List.getElem?_eq_some_iff.mp hq).1
    rcases (show k = 0 ∨ k = 1 ∨ k = 2 ∨ k = 3 ∨ k = 4 by omega) with rfl | rfl | rfl | rfl | rfl
    · cases hq; exact ⟨fun n z => ⟨fun k h => (by cases h), kI, iI2, oI, iI3⟩, iI1⟩
    · cases hq; exact ⟨fun n z => ⟨fun k h => (by cases h), kL, iL2, oL, iL3⟩, iL1⟩
    · cases hq; exact ⟨fun n z => ⟨fun k h => (by cases h), kZ, iZ2, oZ, iZ3⟩, iZ1⟩
    · cases hq
      have e : am_kt cI cL cZ cD cT (.object RX1) = cD := by simp [am_kt]
      show ArrOfT s (am_kt cI cL cZ cD cT (.object RX1)) _ ∧ va_RA s (am_kt cI cL cZ cD cT (.object RX1)) _
      rw [e]
      exact ⟨fun n z => ⟨fun k h => (by cases h), kD, iD3, oD, iD4⟩, kD, oD, iD3, iD4, iD1, iD5⟩
    · cases hq
      have e : am_kt cI cL cZ cD cT (.object RX8) = cT := by simp [am_kt, show ¬ (RX8 = RX1) by decide]
      show ArrOfT s (am_kt cI cL cZ cD cT (.object RX8)) _ ∧ va_RA s (am_kt cI cL cZ cD cT (.object RX8)) _
      rw [e]
      exact ⟨fun n z => ⟨fun k h => (by cases h), kT, iT3, oT, iT4⟩, kT, oT, iT3, iT4, iT1, iT5⟩
  · obtain ⟨scr, h1, h2, h3, h4, h5⟩ := hX
    exact ⟨scr, h1, h2, h3, by rw [h4]; exact Nat.le_refl _, by rw [h4], h5, hA b hbl⟩
  · show va_O _ (am_x b tO tF tS adK adV (1010 + i)) _ _ _ ∧ va_OF _ _ _ _ (am_x b tO tF tS adK adV (1010 + i)) _ _ _ ∧ va_OF _ _ _ (.ref (am_x b tO tF tS adK adV (1020 + i))) (am_x b tO tF tS adK adV (1010 + i)) _ _ _ ∧ va_T _ (am_x b tO tF tS adK adV (1020 + i)) _ _ _ _ _
    rw [am_x10 hi, am_x20]
    exact hK.1 i hi
  · have he : am_x b tO tF tS adK adV (1010 + i) = am_x b tO tF tS adK adV (1010 + j) := he
    rw [am_x10 hi, am_x10 hj] at he
    exact hK.2 i j hi hj he
  · show vk_R RX6 (am_si i) (am_st i) (am_x b tO tF tS adK adV (1010 + i)) s
    rw [am_x10 hi]
    exact vk_R.of (A := #[Value.ref b]) (hts0 _ ((by decide +kernel : ∀ i, i < 9 → Cond.stringRef RX6 (am_si i) (am_st i) ∈ lw_tbl) i hi)) (hKe i hi)
  · exact va_Nw.of ((by decide +kernel : ∀ w ∈ am_nw, w.onTables = true) w hw) (hts0 w ((by decide +kernel : ∀ w ∈ am_nw, w ∈ lw_tbl) w hw))

def am_h0 : am_H := (fun _ _ => 0, fun _ _ => 0, fun _ _ => none)
def am_law : am_M := (⟨R_law, "law", "([I)Z"⟩, code, 4, ret, 12, 436)
/-- the claim's walk out of the law's run on the abstract machine -/
theorem am_whole (hlaw : ∀ (L : Nat) (xs : Nat → Int32), L ≤ 320 → am_R (L, xs) am_law 0 [some (.ref 1002), none, none, none] [] am_h0 0 64 (fun r _ => r = some (.int 1))) {p : Program} {e : Env} {s : State} {m : MethodId} {below : List Frame} {meth : Method} {c : Code} (l : Launch) {b L : Nat} {xs : Nat → Int32} (hL : L ≤ 320) (C0 : lw_At p s m meth c b L xs) : W p l e room_1 s m #[Value.ref b] below meth c s.heap [] 0 0 (lw_Z below #[Value.ref b] s) (entryFrame m ([Value.ref b] : List Value).toArray 4) := by
  obtain ⟨g, hg, hg2, hSt⟩ := am_start hL C0
  obtain ⟨hx, hb, hr, hml, hown, hts0, hX, hbl, hlk, hgv⟩ := C0
  have hl := am_L.entry g [Value.ref 1002] (nL := 4) (by decide)
  have ea : am_a g 1002 = b := by rw [← hg2]; rfl
  have em : [Value.ref 1002].map (am_v g) = [Value.ref b] := by show [Value.ref (am_a g 1002)] = _; rw [ea]
  rw [em] at hl
  rw [lg_entry_eq]
  have K := hlaw L xs hL p l e s m #[Value.ref b] below meth c g 0 (lw_Z below #[Value.ref b] s) s.heap [] _ room_1 ⟨hx, hb, hr, hml, hown, fun w hw => hts0 w (am_sub w hw), hlk, fun q => absurd q (by decide), ⟨Nat.le_refl _, Nat.le_refl _⟩, hSt⟩ ⟨Nat.le_refl _, by rw [am_cs64]; exact Nat.le_refl _⟩ ⟨by rw [hg]; rfl, by decide, fun k hk => absurd hk (Nat.not_lt_zero k)⟩ va_S.rf ⟨Nat.le_refl _, by decide⟩ hl ?_
  · exact K
  · intro pc' r h' H' locs' lsc' hQ hP' hS' hK
    subst hQ
    rw [am_cs64]
    have h1 : decode code pc' = .ok (.ireturn, 1) := hK.1
    exact va_forget (fun q hq => by have := hS'.2.2 q hq; unfold am_A at this; rw [hg] at this; exact this) (lw_ret hx hb hr hlk h1)
