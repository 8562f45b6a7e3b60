/-! ===== places by natural numbers; heaps behind the constructors ===== -/
theorem am_vin {i : Int32} {j N : Nat} (e : i = nI j) (hj : j < N) (hN : N ≤ 6000) : vp_in i N ∧ i.toNatClampNeg = j := by
  subst e
  exact ⟨vp_in_nI hj (by omega), nI_clamp (by omega)⟩
section AM6
variable {E : Nat × (Nat → Int32)} {M : am_M} {pc : Nat} {ls : List (Option Value)} {st : List Value} {h : am_H} {n n1 : Nat} {Q : Option Value → am_H → Prop}
theorem am_ialdN {k N j : Nat} {i : Int32} (hd : decode M.2.1 pc = .ok (.iaload, 1)) (hs : am_s k = .inl (.int, N)) (hk : k < n) (e : i = nI j) (hj : j < N) (hN : N ≤ 6000) (kk : am_R E M (pc + 1) ls (.int (h.1 k j) :: st) h n n1 Q) : am_R E M pc ls (.int i :: .ref k :: st) h n n1 Q := by
  obtain ⟨h1, h2⟩ := am_vin e hj hN
  exact am_iald hd hs hk h1 (by rw [h2]; exact kk)
theorem am_zaldN {k N j : Nat} {i : Int32} (hd : decode M.2.1 pc = .ok (.baload, 1)) (hs : am_s k = .inl (.boolean, N)) (hk : k < n) (e : i = nI j) (hj : j < N) (hN : N ≤ 6000) (kk : am_R E M (pc + 1) ls (.int (h.1 k j) :: st) h n n1 Q) : am_R E M pc ls (.int i :: .ref k :: st) h n n1 Q := by
  obtain ⟨h1, h2⟩ := am_vin e hj hN
  exact am_zald hd hs hk h1 (by rw [h2]; exact kk)
theorem am_laldN {k N j : Nat} {i : Int32} (hd : decode M.2.1 pc = .ok (.laload, 1)) (hs : am_s k = .inl (.long, N)) (hk : k < n) (e : i = nI j) (hj : j < N) (hN : N ≤ 6000) (kk : am_R E M (pc + 1) ls (.long (h.2.1 k j) :: st) h n n1 Q) : am_R E M pc ls (.int i :: .ref k :: st) h n n1 Q := by
  obtain ⟨h1, h2⟩ := am_vin e hj hN
  exact am_lald hd hs hk h1 (by rw [h2]; exact kk)
theorem am_aaldN {k N j r : Nat} {C0 : String} {i : Int32} (hd : decode M.2.1 pc = .ok (.aaload, 1)) (hs : am_s k = .inl (.object C0, N)) (h5 : am_t5 (.object C0)) (hk : k < n) (e : i = nI j) (hj : j < N) (hN : N ≤ 6000) (hr : h.2.2 k j = some r) (kk : am_R E M (pc + 1) ls (.ref r :: st) h n n1 Q) : am_R E M pc ls (.int i :: .ref k :: st) h n n1 Q := by
  obtain ⟨h1, h2⟩ := am_vin e hj hN
  exact am_aald hd hs h5 hk h1 (by rw [h2]; exact hr) kk
theorem am_iastN {k N j : Nat} {i x : Int32} (hd : decode M.2.1 pc = .ok (.iastore, 1)) (hs : am_s k = .inl (.int, N)) (hk : k < n) (e : i = nI j) (hj : j < N) (hN : N ≤ 6000) (kk : am_R E M (pc + 1) ls st (am_sI h k j x) n n1 Q) : am_R E M pc ls (.int x :: .int i :: .ref k :: st) h n n1 Q := by
  obtain ⟨h1, h2⟩ := am_vin e hj hN
  exact am_iast hd hs hk h1 (by rw [h2]; exact kk)
theorem am_zastN {k N j : Nat} {i x : Int32} (hd : decode M.2.1 pc = .ok (.bastore, 1)) (hs : am_s k = .inl (.boolean, N)) (hk : k < n) (e : i = nI j) (hj : j < N) (hN : N ≤ 6000) (hx : x = 0 ∨ x = 1) (kk : am_R E M (pc + 1) ls st (am_sI h k j x) n n1 Q) : am_R E M pc ls (.int x :: .int i :: .ref k :: st) h n n1 Q := by
  obtain ⟨h1, h2⟩ := am_vin e hj hN
  exact am_zast hd hs hk h1 hx (by rw [h2]; exact kk)
theorem am_lastN {k N j : Nat} {i : Int32} {x : Int64} (hd : decode M.2.1 pc = .ok (.lastore, 1)) (hs : am_s k = .inl (.long, N)) (hk : k < n) (e : i = nI j) (hj : j < N) (hN : N ≤ 6000) (kk : am_R E M (pc + 1) ls st (am_sJ h k j x) n n1 Q) : am_R E M pc ls (.long x :: .int i :: .ref k :: st) h n n1 Q := by
  obtain ⟨h1, h2⟩ := am_vin e hj hN
  exact am_last hd hs hk h1 (by rw [h2]; exact kk)
theorem am_ildFN {j : Nat} {i : Int32} (hd : decode M.2.1 pc = .ok (.iaload, 1)) (e : i = nI j) (hj : j < 8) (kk : am_R E M (pc + 1) ls (.int (am_fa j) :: st) h n n1 Q) : am_R E M pc ls (.int i :: .ref 1001 :: st) h n n1 Q := by
  obtain ⟨h1, h2⟩ := am_vin e hj (by decide)
  exact am_ildF hd h1 (by rw [h2]; exact kk)
theorem am_ildON {j : Nat} {i : Int32} (hd : decode M.2.1 pc = .ok (.iaload, 1)) (e : i = nI j) (hj : j < 5) (kk : am_R E M (pc + 1) ls (.int (am_ov j) :: st) h n n1 Q) : am_R E M pc ls (.int i :: .ref 1000 :: st) h n n1 Q := by
  obtain ⟨h1, h2⟩ := am_vin e hj (by decide)
  exact am_ildO hd h1 (by rw [h2]; exact kk)
theorem am_ildXN {j : Nat} {i : Int32} (hd : decode M.2.1 pc = .ok (.iaload, 1)) (e : i = nI j) (hj : j < E.1) (hE : E.1 ≤ 320) (kk : am_R E M (pc + 1) ls (.int (E.2 j) :: st) h n n1 Q) : am_R E M pc ls (.int i :: .ref 1002 :: st) h n n1 Q := by
  obtain ⟨h1, h2⟩ := am_vin e hj (by omega)
  exact am_ildX hd h1 (by rw [h2]; exact kk)
theorem am_copyN {idx a0 a1 N0 N1 s0 d0 x0 : Nat} {sp dp x : Int32} (hd : decode M.2.1 pc = .ok (.invokestatic idx, 3)) (hk : Cond.methodLink M.1.cls idx arraycopyName ∈ am_TB) (hkn : Cond.native arraycopyName ∈ am_TB ∧ Cond.static arraycopyName ∈ am_TB ∧ Cond.initialized "java/lang/System" ∈ am_TB) (hs0 : am_s a0 = .inl (.int, N0)) (hs1 : am_s a1 = .inl (.int, N1)) (hk0 : a0 < n) (hk1 : a1 < n) (h1 : sp = nI s0) (h2 : dp = nI d0) (h3 : x = nI x0) (h4 : s0 + x0 ≤ N0) (h5 : d0 + x0 ≤ N1) (hN : N0 ≤ 6000 ∧ N1 ≤ 6000) (hst : (st.map fun v => v.category).sum ≤ 8) (hF : 1 ≤ M.2.2.2.2.1 ∧ 8 + (nativeFrameWords "java/lang/System" "arraycopy" 5 + 11) ≤ M.2.2.2.2.2) (kk : am_R E M (pc + 3) ls st (am_sR h a1 (va_cpy (h.1 a0) (h.1 a1) s0 d0 x0)) n n1 Q) : am_R E M pc ls (.int x :: .int dp :: .ref a1 :: .int sp :: .ref a0 :: st) h n n1 Q := by
  subst h1; subst h2; subst h3
  have e1 : (nI s0).toNatClampNeg = s0 := nI_clamp (by omega)
  have e2 : (nI d0).toNatClampNeg = d0 := nI_clamp (by omega)
  have e3 : (nI x0).toNatClampNeg = x0 := nI_clamp (by omega)
  refine am_copy hd hk hkn.1 hkn.2.1 hkn.2.2 hs0 hs1 hk0 hk1 (nI_pos (by omega)) (nI_pos (by omega)) (nI_pos (by omega)) ?_ ?_ hst hF ?_
  · rw [e1, e3]; exact h4
  · rw [e2, e3]; exact h5
  · rw [e1, e2, e3]; exact kk
/-- fewer locals are told -/
def am_le : List (Option Value) → List (Option Value) → Prop
  | [], [] => True
  | none :: a, _ :: b => am_le a b
  | some v :: a, w :: b => w = some v ∧ am_le a b
  | _, _ => False
theorem am_le_len : ∀ {a b : List (Option Value)}, am_le a b → a.length = b.length
  | [], [], _ => rfl
  | none :: a, _ :: b, h => congrArg (· + 1) (am_le_len (a := a) (b := b) h)
  | some _ :: a, _ :: b, h => congrArg (· + 1) (am_le_len (a := a) (b := b) h.2)
  | [], _ :: _, h => h.elim
  | none :: _, [], h => h.elim
  | some _ :: _, [], h => h.elim
theorem am_le_at : ∀ {a b : List (Option Value)}, am_le a b → ∀ (i : Nat) (v : Value), a[i]? = some (some v) → b[i]? = some (some v)
  | [], [], _, i, v, q => by simp at q
  | none :: a, _ :: b, h, i, v, q => by
    cases i with
    | zero => simp at q
    | succ i => simp only [List.getElem?_cons_succ] at q ⊢; exact am_le_at (a := a) (b := b) h i v q
  | some w :: a, _ :: b, h, i, v, q => by
    cases i with
    | zero => simp only [List.getElem?_cons_zero, Option.some.injEq] at q ⊢; rw [h.1, q]
    | succ i => simp only [List.getElem?_cons_succ] at q ⊢; exact am_le_at (a := a) (b := b) h.2 i v q
  | [], _ :: _, h, _, _, _ => h.elim
  | none :: _, [], h, _, _, _ => h.elim
  | some _ :: _, [], h, _, _, _ => h.elim
theorem am_R.forget {ls' : List (Option Value)} (k : am_R E M pc ls' st h n n1 Q) (hle : am_le ls' ls) : am_R E M pc ls st h n n1 Q := by
  intro p l e s m args below meth c g n0 Z H locs lsc Rm C hR hP hS hn hl hq
  exact k p l e s m args below meth c g n0 Z H locs lsc Rm C hR hP hS hn ⟨hl.1, hl.2.1, (am_le_len hle).trans hl.2.2.1, fun i v q => hl.2.2.2 i v (am_le_at hle i v q)⟩ hq
theorem am_tabC {dflt lo hi : Int} {offs : Array Int} {len : Nat} {x : Int32} {off : Int} {tgt : Nat} (v : Int32) (hd : decode M.2.1 pc = .ok (.tableswitch dflt lo hi offs, len)) (hx : x = v) (h1 : ¬ v.toInt < lo) (h2 : ¬ hi < v.toInt) (ho : offs[(v.toInt - lo).toNat]? = some off) (ht : (pc : Int) + off = (tgt : Int)) (k : am_R E M tgt ls st h n n1 Q) : am_R E M pc ls (.int x :: st) h n n1 Q := by
  subst hx
  exact am_tabIn hd h1 h2 ho ht k
theorem am_lookC {dflt : Int} {ps : Array (Int × Int)} {len : Nat} {x : Int32} {off : Int} {tgt : Nat} (v : Int32) (hd : decode M.2.1 pc = .ok (.lookupswitch dflt ps, len)) (hx : x = v) (hp : (ps.toList.zip (ps.toList.drop 1)).all (fun (a, next) => a.1 < next.1) = true) (ho : Op.lookupswitch.offset ps.toList dflt v.toInt = off) (ht : (pc : Int) + off = (tgt : Int)) (k : am_R E M tgt ls st h n n1 Q) : am_R E M pc ls (.int x :: st) h n n1 Q := by
  subst hx
  exact am_look hd hp ho ht k
end AM6
theorem am_ne {x v : Int32} (h : ¬ x = v) : x.toInt ≠ v.toInt := fun e => h (Int32.toInt_inj.mp e)
/-- a row's cell is new; a place of a cell is new -/
def u1 (I : Nat → Nat → Int32) (k : Nat) (f : Nat → Int32) : Nat → Nat → Int32 := fun a => if a = k then f else I a
def u2 (I : Nat → Nat → Int32) (k j : Nat) (x : Int32) : Nat → Nat → Int32 := fun a => if a = k then upd (I k) j x else I a
def v2 (J : Nat → Nat → Int64) (k j : Nat) (x : Int64) : Nat → Nat → Int64 := fun a => if a = k then vp_updL (J k) j x else J a
theorem u1_s (I : Nat → Nat → Int32) (k : Nat) (f : Nat → Int32) : u1 I k f k = f := if_pos rfl
theorem u1_n (I : Nat → Nat → Int32) {k a : Nat} (f : Nat → Int32) (h : a ≠ k) : u1 I k f a = I a := if_neg h
theorem u2_s (I : Nat → Nat → Int32) (k j : Nat) (x : Int32) : u2 I k j x k = upd (I k) j x := if_pos rfl
theorem u2_n (I : Nat → Nat → Int32) {k a : Nat} (j : Nat) (x : Int32) (h : a ≠ k) : u2 I k j x a = I a := if_neg h
theorem v2_s (J : Nat → Nat → Int64) (k j : Nat) (x : Int64) : v2 J k j x k = vp_updL (J k) j x := if_pos rfl
theorem v2_n (J : Nat → Nat → Int64) {k a : Nat} (j : Nat) (x : Int64) (h : a ≠ k) : v2 J k j x a = J a := if_neg h
theorem u2_u1 (I : Nat → Nat → Int32) (k j : Nat) (f : Nat → Int32) (x : Int32) : u2 (u1 I k f) k j x = u1 I k (upd f j x) := by
  funext a
  by_cases e : a = k
  · subst e; rw [u2_s, u1_s, u1_s]
  · rw [u2_n _ _ _ e, u1_n _ _ e, u1_n _ _ e]
theorem u1_u1 (I : Nat → Nat → Int32) (k : Nat) (f f' : Nat → Int32) : u1 (u1 I k f) k f' = u1 I k f' := by
  funext a
  by_cases e : a = k
  · subst e; rw [u1_s, u1_s]
  · rw [u1_n _ _ e, u1_n _ _ e, u1_n _ _ e]
theorem u1_self (I : Nat → Nat → Int32) (k : Nat) : u1 I k (I k) = I := by
  funext a
  by_cases e : a = k
  · subst e; rw [u1_s]
  · rw [u1_n _ _ e]
theorem u2_eq (I : Nat → Nat → Int32) (k j : Nat) (x : Int32) : u2 I k j x = u1 I k (upd (I k) j x) := rfl
def pbst (b : Bool) : Nat := if b then 46 else 45
def pnxt (b : Bool) : Nat := if b then 45 else 46
/-- the references that the cells hold behind the constructors; b: best and next of the plan are exchanged -/
def rf (b : Bool) : Nat → Nat → Option Nat := fun k => match k with
  | 0 => fun j => ([some 1, some 4, some 9, some 13, some 22, some 23, some 26, some 36, some 41, some 47] : List (Option Nat)).getD j none
  | 1 => fun j => ([some 2, none, some 3] : List (Option Nat)).getD j none
  | 4 => fun j => ([none, none, some 5, some 6, some 7, some 8] : List (Option Nat)).getD j none
  | 9 => fun j => ([none, some 10, some 11, none, some 12] : List (Option Nat)).getD j none
  | 13 => fun j => ([some 14, some 18] : List (Option Nat)).getD j none
  | 14 => fun j => ([none, some 15, some 16, none, some 17] : List (Option Nat)).getD j none
  | 18 => fun j => ([none, some 19, some 20, none, some 21] : List (Option Nat)).getD j none
  | 23 => fun j => ([some 4, some 24, some 25] : List (Option Nat)).getD j none
  | 26 => fun j => ([some 27, some 30, some 33] : List (Option Nat)).getD j none
  | 27 => fun j => ([some 23, none, some 28, none, none, none, none, some 29] : List (Option Nat)).getD j none
  | 30 => fun j => ([some 23, none, some 31, none, none, none, none, some 32] : List (Option Nat)).getD j none
  | 33 => fun j => ([some 23, none, some 34, none, none, none, none, some 35] : List (Option Nat)).getD j none
  | 36 => fun j => ([some 23, some 37, some 38, some 39, some 40] : List (Option Nat)).getD j none
  | 41 => fun j => ([some 4, some 42, some 43, some 44, some (pbst b), some (pnxt b)] : List (Option Nat)).getD j none
  | 48 => fun j => ([none, none, some 49, some 50, some 51, some 52, none, some 53, none, none, none, none, none, none, none, none, some 54, some 55, some 56, some 57, some 58, some 59, some 60, some 61, some 62, some 63] : List (Option Nat)).getD j none
  | _ => fun _ => none
def hp (I : Nat → Nat → Int32) (J : Nat → Nat → Int64) (b : Bool) : am_H := (I, J, rf b)
theorem am_s_pb (b : Bool) : am_s (pbst b) = .inl (.int, 120) := by cases b <;> rfl
theorem am_s_pn (b : Bool) : am_s (pnxt b) = .inl (.int, 120) := by cases b <;> rfl
theorem am_k_pb (b : Bool) : pbst b < 64 := by cases b <;> decide
theorem am_k_pn (b : Bool) : pnxt b < 64 := by cases b <;> decide
theorem am_max {E : Nat × (Nat → Int32)} {M : am_M} {pc : Nat} {ls : List (Option Value)} {st : List Value} {h : am_H} {n n1 idx : Nat} {Q : Option Value → am_H → Prop} {x y : Int32} (hd : decode M.2.1 pc = .ok (.invokestatic idx, 3)) (hk : Cond.methodLink M.1.cls idx Lib.Math.max.name ∈ am_TB) (hw : Cond.static Lib.Math.max.name ∈ am_TB ∧ Cond.initialized "java/lang/Math" ∈ am_TB ∧ Cond.code Lib.Math.max.name Lib.Math.max.code 2 (some .int) ∈ am_TB) (hst : (st.map fun v => v.category).sum ≤ 8) (hF : 1 ≤ M.2.2.2.2.1 ∧ 21 ≤ M.2.2.2.2.2) (kk : am_R E M (pc + 3) ls (.int (if x < y then y else x) :: st) h n n1 Q) : am_R E M pc ls (.int y :: .int x :: st) h n n1 Q := by
  intro p l e s m args below meth c g n0 Z H locs lsc Rm C hR hP hS hn hl hq
  have K := kk p l e s m args below meth c g n0 Z H locs lsc Rm C hR hP hS hn hl hq
  obtain ⟨hx, hb, -, hml, hown, hts, -, -, hrm, hSt⟩ := C
  have e3 := am_catm g st
  have h6 := hF.2
  have h7 := hrm.2
  have e1 := am_cs_mono hn.2
  exact va_mmax hx hb (hml.trans hl.1.symm) hown (hts _ hk) (hts _ hw.1) (hts _ hw.2.1) (hts _ hw.2.2) (Nat.le_trans hF.1 hrm.1) (by omega) (by omega) (by omega) hd K
set_option maxRecDepth 20000 in
theorem kn_max : Cond.static Lib.Math.max.name ∈ am_TB ∧ Cond.initialized "java/lang/Math" ∈ am_TB ∧ Cond.code Lib.Math.max.name Lib.Math.max.code 2 (some .int) ∈ am_TB := ⟨by decide +kernel, by decide +kernel, by decide +kernel⟩
