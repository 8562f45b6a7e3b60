/-! ===== calls ===== -/
def am_ws (Z : am_M) : List Cond := Cond.code Z.1 Z.2.1 Z.2.2.1 Z.2.2.2.1 :: am_TB
def am_rm (Z : am_M) (n n1 : Nat) : Room := { frames := Z.2.2.2.2.1, cells := n1 - n, slots := am_cs n1 - am_cs n, locals := Z.2.2.2.2.2 }
def am_Pc (E : Nat × (Nat → Int32)) (g : am_G) (As : List Value) (h : am_H) (n : Nat) : Array Value → State → Prop := va_Pc (As.map (am_v g)) (fun U => am_P g h n U.heap ∧ am_S E g U U.heap)
def am_Qc (g : am_G) (n1 : Nat) (Q : Option Value → am_H → Prop) : Array Value → State → Outcome → State → Prop := fun _ st o t => (∃ r h', o = .returned (r.map (am_v g)) ∧ Q r h' ∧ am_P g h' n1 t.heap) ∧ va_F (am_A g) st t
theorem am_good : ∀ w ∈ am_TB, (w.onTables && w.keeps) = true ∨ ∃ ty, w = .arrayClass ty := fun w hw => good_of_word (List.mem_filter.mp hw).2
theorem am_goodIn {Z : am_M} (hc : Cond.code Z.1 Z.2.1 Z.2.2.1 Z.2.2.2.1 ∈ am_TB) : GoodIn am_TB (am_ws Z) := fun w hw => by
  rcases List.mem_cons.mp hw with e | e
  · rw [e]; exact ⟨hc, am_good _ hc⟩
  · exact ⟨e, am_good _ e⟩
/-- what the tables say of a method -/
def am_mC (Z : am_M) (np : Nat) : Prop := plainName Z.1.cls = true ∧ Cond.code Z.1 Z.2.1 Z.2.2.1 Z.2.2.2.1 ∈ am_TB ∧ (Z.1.cls ≠ "java/lang/invoke/MethodHandle" ∧ Z.1.cls ≠ "java/lang/invoke/VarHandle" ∧ (parseMethodDescriptor Z.1.desc).map (fun d => d.parameters.length) = some np) ∧ Cond.initialized Z.1.cls ∈ am_TB
def am_mS (Z : am_M) (np : Nat) : Prop := am_mC Z np ∧ Cond.static Z.1 ∈ am_TB
def am_mV (Z : am_M) (np : Nat) : Prop := am_mC Z np ∧ Cond.instanceMethod Z.1 ∈ am_TB ∧ Cond.selects Z.1.cls Z.1 Z.1 ∈ am_TB
def am_mI (Z : am_M) (np : Nat) : Prop := am_mC Z np ∧ Cond.instanceMethod Z.1 ∈ am_TB ∧ Z.1.name = "<init>" ∧ Z.2.2.2.1 = none
/-- the callee's frames and locals fit below the caller's -/
def am_fit (M Z : am_M) : Prop := Z.2.2.2.2.1 + 1 ≤ M.2.2.2.2.1 ∧ 8 + (Z.2.2.1 + 11) + Z.2.2.2.2.2 ≤ M.2.2.2.2.2
section AM4
variable {E : Nat × (Nat → Int32)} {M : am_M} {pc : Nat} {ls : List (Option Value)} {st : List Value} {h : am_H} {n n1 : Nat} {Q : Option Value → am_H → Prop}
theorem am_met {Z : am_M} {np : Nat} {As : List Value} {lsZ : List (Option Value)} (l : Launch) (g : am_G) (hm : am_mC Z np) (hlen : (am_e0 As).length ≤ Z.2.2.1) (hen : am_en As Z.2.2.1 = lsZ) (hn : n ≤ n1) (k : am_R E Z 0 lsZ [] h n n1 Q) :
    Met l Z.1 (am_ws Z) (am_rm Z n n1) (am_Pc E g As h n) (am_Qc g n1 Q) (n1 - n) (am_cs n1 - am_cs n) (fun q => g.1 ≤ q) := by
  refine Met.ofW (cc := Z.2.1) (maxL := Z.2.2.1) (ret := Z.2.2.2.1) hm.1 rfl ?_
  intro p e s m args below meth c s₁ B hml hv
  obtain ⟨rfl, hP, hSt⟩ := hv
  have hx := B.exec
  have hb := B.bytes
  have hr := B.returns
  have hts := atoms_spec (ws := am_ws Z) B.pre
  have hown : s.vm.findClass Z.1.cls = some m.cls := findClass_of_methodNamed B.named
  have hlocks : meth.locks = false := B.notSynchronized
  have hin : meth.name = Z.1.name := (name_of_methodNamed B.named B.method).1
  rw [lg_entry_eq]
  have hl := am_L.entry g As hlen
  rw [hen] at hl
  have K := k p l e s m (As.map (am_v g)).toArray below meth c g n (MQ below (am_Qc g n1 Q) (As.map (am_v g)).toArray s (n1 - n) (am_cs n1 - am_cs n) (fun q => g.1 ≤ q)) s.heap [] _ (headSpec (am_ws Z) (am_rm Z n n1)).room
    ⟨hx, hb, hr, hml, hown, fun w hw => hts w (List.mem_cons_of_mem _ hw), hlocks, fun q => hin.trans q, ⟨Nat.le_refl _, Nat.le_refl _⟩, hSt⟩ ⟨Nat.le_refl _, Nat.le_refl _⟩ hP va_S.rf ⟨Nat.le_refl _, hn⟩ hl ?_
  · rw [Nat.sub_self, Nat.sub_self] at K
    exact K
  · intro pc' r h' H' locs' lsc' hQ hP' hS' hK
    match r, hK, hQ with
    | none, hK, hQ => exact W.vret hx hb (hr.trans hK.2) (fun t ht hW => ⟨⟨none, h', rfl, hQ, by rw [ht]; exact hP'⟩, hS'.F ht⟩) hS'.2.2 hK.1
    | some (.int v), hK, hQ =>
      obtain ⟨h1, ty, h2, h3⟩ := hK
      exact W.zret hx hb (hr.trans h2) h3 (fun t ht hW => ⟨⟨some (.int v), h', rfl, hQ, by rw [ht]; exact hP'⟩, hS'.F ht⟩) hS'.2.2 h1
    | some (.long v), hK, hQ => exact W.lret hx hb (hr.trans hK.2) (fun t ht hW => ⟨⟨some (.long v), h', rfl, hQ, by rw [ht]; exact hP'⟩, hS'.F ht⟩) hS'.2.2 hK.1
    | some (.ref v), hK, hQ =>
      obtain ⟨h1, rt, h2, h3⟩ := hK
      exact W.aret hx hb (hr.trans h2) h3 (Or.inr ⟨_, rfl⟩) (fun t ht hW => ⟨⟨some (.ref v), h', rfl, hQ, by rw [ht]; exact hP'⟩, hS'.F ht⟩) hS'.2.2 h1
theorem am_back {p : Program} {l : Launch} {e : Env} {Rm : Room} {s : State} {m : MethodId} {args : Array Value} {below : List Frame} {meth : Method} {c : Code} {H : Heap} {locs : List Loc} {cells slots mc ms : Nat} {g : am_G} {lsc : Array Slot} {st0 rest : List Value} {a : Array Value} {Z : State → Prop}
    (hr : va_Run p l e Rm s m args below meth c H locs cells slots mc ms (F0 m pc lsc st0) rest (am_Qc g n1 Q a) (fun q => g.1 ≤ q)) (hS : va_S (am_A g) s.heap H locs)
    (kk : ∀ (r : Option Value) (h' : am_H) (H1 : Heap) (locs1 : List Loc), Q r h' → am_P g h' n1 H1 → va_S (am_A g) s.heap H1 locs1 → W p l e Rm s m args below meth c H1 locs1 (cells + mc) (slots + ms) Z (F0 m (pc + 3) lsc ((r.map (am_v g)).toList ++ rest))) : W p l e Rm s m args below meth c H locs cells slots Z (F0 m pc lsc st0) := by
  intro T hT X
  obtain ⟨v, st₀, t, T', L, h0, X', hL, e1, e2, ⟨⟨r, h', hv, hQ, hP'⟩, hz, hk⟩, stp⟩ := hr T hT X
  cases hv
  rw [h0] at hz hk
  obtain ⟨t2, a1, b1⟩ := kk r h' T'.heap (locs ++ L) hQ (by rw [e1]; exact hP') ⟨Nat.le_trans hS.1 (by rw [e1]; exact hz), fun q h1 h2 => by rw [e1, hk q (Nat.lt_of_lt_of_le h1 hS.1) h2]; exact hS.2.1 q h1 h2, fun q hq => by
      rcases List.mem_append.mp hq with h | h
      · exact hS.2.2 q h
      · exact hL q h⟩ T' rfl X'
  exact ⟨t2, stp t2 a1, b1⟩
/-- the callee's start, out of the caller's state -/
theorem am_preS {g : am_G} {s : State} {H : Heap} {locs : List Loc} {As : List Value} (hP : am_P g h n H) (hS : va_S (am_A g) s.heap H locs) (hSt : am_S E g s s.heap) : PreS s H (am_Pc E g As h n) (As.map (am_v g)) := by
  refine ⟨fun a U f mk q => ⟨q.1, q.2.1, q.2.2.calling f mk a⟩, fun U hU hW => ⟨rfl, by rw [hU]; exact hP, am_S.warm hW (by rw [hU]; exact hSt.kept hS.2.1)⟩⟩
theorem am_sum {n0 n2 : Nat} {Rm : Room} (hR : n1 - n0 ≤ Rm.cells ∧ am_cs n1 - am_cs n0 ≤ Rm.slots) (hn : n0 ≤ n ∧ n ≤ n1) (h2 : n ≤ n2 ∧ n2 ≤ n1) : ((n - n0) + (n2 - n) ≤ Rm.cells ∧ (am_cs n - am_cs n0) + (am_cs n2 - am_cs n) ≤ Rm.slots) ∧ (n - n0) + (n2 - n) = n2 - n0 ∧ (am_cs n - am_cs n0) + (am_cs n2 - am_cs n) = am_cs n2 - am_cs n0 := by
  have e1 := am_cs_mono hn.1
  have e2 := am_cs_mono h2.1
  have e3 := am_cs_mono h2.2
  omega
theorem am_catm (g : am_G) (st : List Value) : ((st.map (am_v g)).map fun v => v.category).sum = (st.map fun v => v.category).sum := by
  congr 1
  rw [List.map_map]
  exact List.map_congr_left (fun v _ => am_cat g v)
theorem am_tl (g : am_G) (r : Option Value) (st : List Value) : (r.map (am_v g)).toList ++ st.map (am_v g) = (r.toList ++ st).map (am_v g) := by cases r <;> simp
theorem am_invS {Z : am_M} {idx np n2 : Nat} {As : List Value} {lsZ : List (Option Value)} {st0 : List Value} (hd : decode M.2.1 pc = .ok (.invokestatic idx, 3)) (hm : am_mS Z np) (hk : Cond.methodLink M.1.cls idx Z.1 ∈ am_TB) (hfit : am_fit M Z) (hst : st0 = As.reverse ++ st) (hnp : As.length = np) (hlen : (am_e0 As).length ≤ Z.2.2.1) (hen : am_en As Z.2.2.1 = lsZ) (hc8 : (st.map fun v => v.category).sum ≤ 8) (h2 : n ≤ n2 ∧ n2 ≤ n1)
    (k : am_R E Z 0 lsZ [] h n n2 (fun r h' => am_R E M (pc + 3) ls (r.toList ++ st) h' n2 n1 Q)) : am_R E M pc ls st0 h n n1 Q := by
  intro p l e s m args below meth c g n0 Y H locs lsc Rm C hR hP hS hn hl hq
  have C0 := C
  obtain ⟨hx, hb, -, hml, hown, hts, -, -, hrm, hSt⟩ := C
  obtain ⟨a1, a2, a3⟩ := am_sum hR hn h2
  subst hst
  refine am_back (va_runS (Ts := am_TB) (As := As.map (am_v g)) (rest := st.map (am_v g)) ⟨hx, hb, hml, hown, hts⟩ (am_met l g hm.1 hlen hen h2.1 k) ⟨callB_of np hts (am_goodIn hm.1.2.1) rfl rfl rfl (hts _ hm.1.2.2.2) (hts _ hk) hm.1.2.2.1 ⟨Nat.le_trans hfit.1 hrm.1, Nat.le_trans hfit.2 hrm.2⟩, hts _ hm.2⟩ (am_preS hP hS hSt) rfl (by rw [List.length_map]; exact hnp) hl.1 (by simp [F0, List.map_append, List.map_reverse]) (lv_room (by rw [am_catm]; exact hc8)) hd a1) hS ?_
  intro r h' H1 locs1 hQ hP1 hS1
  rw [am_tl, a2, a3]
  exact hQ p l e s m args below meth c g n0 Y H1 locs1 lsc Rm C0 hR hP1 hS1 ⟨Nat.le_trans hn.1 h2.1, h2.2⟩ hl hq
theorem am_recv {g : am_G} {s : State} {H : Heap} {k ci : Nat} (hci : ci < 9) (hP : am_P g h n H) (hSt : am_S E g s s.heap) (hk : k < n) (hs : am_s k = .inr ci) : ∃ cellB : Cell, H[am_a g k]? = some cellB ∧ cellB.vm.isStatics = false ∧ s.vm.findClass (am_cn ci) = some cellB.cls := by
  obtain ⟨cell, q1, q2, q3, q4⟩ := hP.obj hk hs
  exact ⟨cell, q1, by rw [q3]; rfl, by rw [q2]; exact (hSt.1.1 ci _ (am_cl hci)).2.1⟩
theorem am_invVg {Z : am_M} {idx np n2 b : Nat} {As : List Value} {lsZ : List (Option Value)} {st0 : List Value} (hd : decode M.2.1 pc = .ok (.invokevirtual idx, 3)) (hm : am_mV Z np) (hk : Cond.methodLink M.1.cls idx Z.1 ∈ am_TB) (hfit : am_fit M Z) (hrec : ∀ (g : am_G) (s : State) (H : Heap) (locs : List Loc), am_P g h n H → va_S (am_A g) s.heap H locs → am_S E g s s.heap → ∃ cellB : Cell, H[am_a g b]? = some cellB ∧ cellB.vm.isStatics = false ∧ s.vm.findClass Z.1.cls = some cellB.cls) (hst : st0 = As.reverse ++ .ref b :: st) (hnp : As.length = np) (hlen : (am_e0 (.ref b :: As)).length ≤ Z.2.2.1) (hen : am_en (.ref b :: As) Z.2.2.1 = lsZ) (hc8 : (st.map fun v => v.category).sum ≤ 8) (h2 : n ≤ n2 ∧ n2 ≤ n1)
    (k : am_R E Z 0 lsZ [] h n n2 (fun r h' => am_R E M (pc + 3) ls (r.toList ++ st) h' n2 n1 Q)) : am_R E M pc ls st0 h n n1 Q := by
  intro p l e s m args below meth c g n0 Y H locs lsc Rm C hR hP hS hn hl hq
  have C0 := C
  obtain ⟨hx, hb, -, hml, hown, hts, -, -, hrm, hSt⟩ := C
  obtain ⟨a1, a2, a3⟩ := am_sum hR hn h2
  subst hst
  have hpre := am_preS (As := .ref b :: As) hP hS hSt
  refine am_back (va_runV (Ts := am_TB) (C := Z.1.cls) (b := am_a g b) (As := As.map (am_v g)) (rest := st.map (am_v g)) ⟨hx, hb, hml, hown, hts⟩ (am_met l g hm.1 hlen hen h2.1 k) ⟨callB_of np hts (am_goodIn hm.1.2.1) rfl rfl rfl (hts _ hm.1.2.2.2) (hts _ hk) hm.1.2.2.1 ⟨Nat.le_trans hfit.1 hrm.1, Nat.le_trans hfit.2 hrm.2⟩, hts _ hm.2.1, hts _ hm.2.2⟩ ⟨hpre.1, hrec g s H locs hP hS hSt, hpre.2⟩ rfl (by rw [List.length_map]; exact hnp) hl.1 (by simp [F0, List.map_append, List.map_reverse, am_v]) (lv_room (by rw [am_catm]; exact hc8)) hd a1) hS ?_
  intro r h' H1 locs1 hQ hP1 hS1
  rw [am_tl, a2, a3]
  exact hQ p l e s m args below meth c g n0 Y H1 locs1 lsc Rm C0 hR hP1 hS1 ⟨Nat.le_trans hn.1 h2.1, h2.2⟩ hl hq
theorem am_invV {Z : am_M} {idx np n2 b ci : Nat} {As : List Value} {lsZ : List (Option Value)} {st0 : List Value} (hd : decode M.2.1 pc = .ok (.invokevirtual idx, 3)) (hm : am_mV Z np) (hk : Cond.methodLink M.1.cls idx Z.1 ∈ am_TB) (hfit : am_fit M Z) (hci : ci < 9) (hcn : am_cn ci = Z.1.cls) (hbn : b < n) (hs : am_s b = .inr ci) (hst : st0 = As.reverse ++ .ref b :: st) (hnp : As.length = np) (hlen : (am_e0 (.ref b :: As)).length ≤ Z.2.2.1) (hen : am_en (.ref b :: As) Z.2.2.1 = lsZ) (hc8 : (st.map fun v => v.category).sum ≤ 8) (h2 : n ≤ n2 ∧ n2 ≤ n1)
    (k : am_R E Z 0 lsZ [] h n n2 (fun r h' => am_R E M (pc + 3) ls (r.toList ++ st) h' n2 n1 Q)) : am_R E M pc ls st0 h n n1 Q :=
  am_invVg hd hm hk hfit (fun g s H locs hP hS hSt => hcn ▸ am_recv hci hP hSt hbn hs) hst hnp hlen hen hc8 h2 k
theorem am_invT {Z : am_M} {idx np n2 b i : Nat} {As : List Value} {lsZ : List (Option Value)} {st0 : List Value} (hd : decode M.2.1 pc = .ok (.invokevirtual idx, 3)) (hm : am_mV Z np) (hk : Cond.methodLink M.1.cls idx Z.1 ∈ am_TB) (hfit : am_fit M Z) (hcn : Z.1.cls = "java/lang/String") (hi : i < 9) (hb : 1010 + i = b) (hst : st0 = As.reverse ++ .ref b :: st) (hnp : As.length = np) (hlen : (am_e0 (.ref b :: As)).length ≤ Z.2.2.1) (hen : am_en (.ref b :: As) Z.2.2.1 = lsZ) (hc8 : (st.map fun v => v.category).sum ≤ 8) (h2 : n ≤ n2 ∧ n2 ≤ n1)
    (k : am_R E Z 0 lsZ [] h n n2 (fun r h' => am_R E M (pc + 3) ls (r.toList ++ st) h' n2 n1 Q)) : am_R E M pc ls st0 h n n1 Q :=
  am_invVg hd hm hk hfit (fun g s H locs hP hS hSt => by rw [hcn, ← hb, am_a10]; exact vk_recv (adK := fun i => g.2.1 (1010 + i)) (i := i) hSt.2.2.2.2.2.1 hi hS) hst hnp hlen hen hc8 h2 k
theorem am_invI {Z : am_M} {idx np n2 b : Nat} {As : List Value} {lsZ : List (Option Value)} {st0 : List Value} (hd : decode M.2.1 pc = .ok (.invokespecial idx, 3)) (hm : am_mI Z np) (hk : Cond.methodLink M.1.cls idx Z.1 ∈ am_TB) (hfit : am_fit M Z) (hst : st0 = As.reverse ++ .ref b :: st) (hnp : As.length = np) (hlen : (am_e0 (.ref b :: As)).length ≤ Z.2.2.1) (hen : am_en (.ref b :: As) Z.2.2.1 = lsZ) (hc8 : (st.map fun v => v.category).sum ≤ 8) (h2 : n ≤ n2 ∧ n2 ≤ n1)
    (k : am_R E Z 0 lsZ [] h n n2 (fun r h' => am_R E M (pc + 3) ls (r.toList ++ st) h' n2 n1 Q)) : am_R E M pc ls st0 h n n1 Q := by
  intro p l e s m args below meth c g n0 Y H locs lsc Rm C hR hP hS hn hl hq
  have C0 := C
  obtain ⟨hx, hb, -, hml, hown, hts, -, -, hrm, hSt⟩ := C
  obtain ⟨a1, a2, a3⟩ := am_sum hR hn h2
  subst hst
  refine am_back (va_runI (Ts := am_TB) (b := am_a g b) (As := As.map (am_v g)) (rest := st.map (am_v g)) ⟨hx, hb, hml, hown, hts⟩ (am_met l g hm.1 hlen hen h2.1 k) ⟨callB_of np hts (am_goodIn hm.1.2.1) (by unfold am_ws; rw [hm.2.2.2]) rfl rfl (hts _ hm.1.2.2.2) (hts _ hk) hm.1.2.2.1 ⟨Nat.le_trans hfit.1 hrm.1, Nat.le_trans hfit.2 hrm.2⟩, hm.2.2.1, hts _ hm.2.1⟩ (am_preS (As := .ref b :: As) hP hS hSt) rfl (by rw [List.length_map]; exact hnp) hl.1 (by simp [F0, List.map_append, List.map_reverse, am_v]) (lv_room (by rw [am_catm]; exact hc8)) hd a1) hS ?_
  intro r h' H1 locs1 hQ hP1 hS1
  rw [am_tl, a2, a3]
  exact hQ p l e s m args below meth c g n0 Y H1 locs1 lsc Rm C0 hR hP1 hS1 ⟨Nat.le_trans hn.1 h2.1, h2.2⟩ hl hq
theorem am_invIN {Z : am_M} {idx np n2 b : Nat} {As : List Value} {lsZ : List (Option Value)} {st0 : List Value} (hd : decode M.2.1 pc = .ok (.invokespecial idx, 3)) (hm : am_mI Z np) (hk : Cond.methodLinkNest M.1.cls idx Z.1 RX9 ∈ am_nw) (hfit : am_fit M Z) (hst : st0 = As.reverse ++ .ref b :: st) (hnp : As.length = np) (hlen : (am_e0 (.ref b :: As)).length ≤ Z.2.2.1) (hen : am_en (.ref b :: As) Z.2.2.1 = lsZ) (hc8 : (st.map fun v => v.category).sum ≤ 8) (h2 : n ≤ n2 ∧ n2 ≤ n1)
    (k : am_R E Z 0 lsZ [] h n n2 (fun r h' => am_R E M (pc + 3) ls (r.toList ++ st) h' n2 n1 Q)) : am_R E M pc ls st0 h n n1 Q := by
  intro p l e s m args below meth c g n0 Y H locs lsc Rm C hR hP hS hn hl hq
  have C0 := C
  obtain ⟨hx, hb, -, hml, hown, hts, -, -, hrm, hSt⟩ := C
  obtain ⟨a1, a2, a3⟩ := am_sum hR hn h2
  subst hst
  refine am_back (va_runIN (Ts := am_TB) (b := am_a g b) (As := As.map (am_v g)) (rest := st.map (am_v g)) ⟨hx, hb, hml, hown, hts⟩ (am_met l g hm.1 hlen hen h2.1 k) ⟨va_cnB np hts (am_goodIn hm.1.2.1) (by unfold am_ws; rw [hm.2.2.2]) rfl rfl (hSt.2.2.2.2.2.2.2.2 _ hk) (hts _ hm.1.2.2.2) hm.1.2.2.1 ⟨Nat.le_trans hfit.1 hrm.1, Nat.le_trans hfit.2 hrm.2⟩, hm.2.2.1, hts _ hm.2.1⟩ (am_preS (As := .ref b :: As) hP hS hSt) rfl (by rw [List.length_map]; exact hnp) hl.1 (by simp [F0, List.map_append, List.map_reverse, am_v]) (lv_room (by rw [am_catm]; exact hc8)) hd a1) hS ?_
  intro r h' H1 locs1 hQ hP1 hS1
  rw [am_tl, a2, a3]
  exact hQ p l e s m args below meth c g n0 Y H1 locs1 lsc Rm C0 hR hP1 hS1 ⟨Nat.le_trans hn.1 h2.1, h2.2⟩ hl hq
theorem am_invSN {Z : am_M} {idx np n2 : Nat} {As : List Value} {lsZ : List (Option Value)} {st0 : List Value} (hd : decode M.2.1 pc = .ok (.invokestatic idx, 3)) (hm : am_mS Z np) (hk : Cond.methodLinkNest M.1.cls idx Z.1 RX9 ∈ am_nw) (hfit : am_fit M Z) (hst : st0 = As.reverse ++ st) (hnp : As.length = np) (hlen : (am_e0 As).length ≤ Z.2.2.1) (hen : am_en As Z.2.2.1 = lsZ) (hc8 : (st.map fun v => v.category).sum ≤ 8) (h2 : n ≤ n2 ∧ n2 ≤ n1)
    (k : am_R E Z 0 lsZ [] h n n2 (fun r h' => am_R E M (pc + 3) ls (r.toList ++ st) h' n2 n1 Q)) : am_R E M pc ls st0 h n n1 Q := by
  intro p l e s m args below meth c g n0 Y H locs lsc Rm C hR hP hS hn hl hq
  have C0 := C
  obtain ⟨hx, hb, -, hml, hown, hts, -, -, hrm, hSt⟩ := C
  obtain ⟨a1, a2, a3⟩ := am_sum hR hn h2
  subst hst
  refine am_back (va_runSN (Ts := am_TB) (As := As.map (am_v g)) (rest := st.map (am_v g)) ⟨hx, hb, hml, hown, hts⟩ (am_met l g hm.1 hlen hen h2.1 k) ⟨va_cnB np hts (am_goodIn hm.1.2.1) rfl rfl rfl (hSt.2.2.2.2.2.2.2.2 _ hk) (hts _ hm.1.2.2.2) hm.1.2.2.1 ⟨Nat.le_trans hfit.1 hrm.1, Nat.le_trans hfit.2 hrm.2⟩, hts _ hm.2, trivial⟩ (am_preS hP hS hSt) rfl (by rw [List.length_map]; exact hnp) hl.1 (by simp [F0, List.map_append, List.map_reverse]) (lv_room (by rw [am_catm]; exact hc8)) hd a1) hS ?_
  intro r h' H1 locs1 hQ hP1 hS1
  rw [am_tl, a2, a3]
  exact hQ p l e s m args below meth c g n0 Y H1 locs1 lsc Rm C0 hR hP1 hS1 ⟨Nat.le_trans hn.1 h2.1, h2.2⟩ hl hq
theorem am_obj {idx b : Nat} (hd : decode M.2.1 pc = .ok (.invokespecial idx, 3)) (hk : Cond.methodLink M.1.cls idx objectInit ∈ am_TB) (hi : Cond.instanceMethod objectInit ∈ am_TB) (hc : Cond.code objectInit ⟨#[0xb1]⟩ 1 none ∈ am_TB) (hst : (st.map fun v => v.category).sum ≤ 8) (hF : 1 ≤ M.2.2.2.2.1 ∧ 20 ≤ M.2.2.2.2.2) (k : am_R E M (pc + 3) ls st h n n1 Q) : am_R E M pc ls (.ref b :: st) h n n1 Q := by
  intro p l e s m args below meth c g n0 Z H locs lsc Rm C hR hP hS hn hl hq
  have K := k p l e s m args below meth c g n0 Z H locs lsc Rm C hR hP hS hn hl hq
  obtain ⟨hx, hb, -, hml, hown, hts, -, -, hrm, hSt⟩ := C
  refine W.objInit hx hb hown (hts _ hk) (hts _ hi) (hts _ hc) rfl (by rw [hml]; exact hl.1) rfl hd (Nat.le_trans hF.1 hrm.1) ?_ K
  have := lv_room (m := m) (pc := pc) (ls := lsc) (rest := (Value.ref b :: st).map (am_v g)) (st := st.map (am_v g)) (by rw [am_catm]; exact hst)
  have h3 := hF.2
  have h4 := hrm.2
  omega
end AM4
