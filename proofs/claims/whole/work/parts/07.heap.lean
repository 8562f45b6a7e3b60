/-! ===== fields and arrays ===== -/
def am_sR (h : am_H) (k : Nat) (f : Nat → Int32) : am_H := (fun a => if a = k then f else h.1 a, h.2.1, h.2.2)
def am_sI (h : am_H) (k j : Nat) (x : Int32) : am_H := am_sR h k (upd (h.1 k) j x)
def am_sJ (h : am_H) (k j : Nat) (x : Int64) : am_H := (h.1, fun a => if a = k then vp_updL (h.2.1 k) j x else h.2.1 a, h.2.2)
def am_sA (h : am_H) (k j : Nat) (x : Option Nat) : am_H := (h.1, h.2.1, fun a => if a = k then va_up (h.2.2 k) j x else h.2.2 a)
def am_s0 (h : am_H) (k : Nat) : am_H := (fun a => if a = k then (fun _ => 0) else h.1 a, fun a => if a = k then (fun _ => 0) else h.2.1 a, fun a => if a = k then (fun _ => none) else h.2.2 a)
theorem am_sR_ne {h : am_H} {k : Nat} {f : Nat → Int32} (j : Nat) (e : j ≠ k) : (am_sR h k f).1 j = h.1 j ∧ (am_sR h k f).2.1 j = h.2.1 j ∧ (am_sR h k f).2.2 j = h.2.2 j := ⟨if_neg e, rfl, rfl⟩
theorem am_sJ_ne {h : am_H} {k i : Nat} {x : Int64} (j : Nat) (e : j ≠ k) : (am_sJ h k i x).1 j = h.1 j ∧ (am_sJ h k i x).2.1 j = h.2.1 j ∧ (am_sJ h k i x).2.2 j = h.2.2 j := ⟨rfl, if_neg e, rfl⟩
theorem am_sA_ne {h : am_H} {k i : Nat} {x : Option Nat} (j : Nat) (e : j ≠ k) : (am_sA h k i x).1 j = h.1 j ∧ (am_sA h k i x).2.1 j = h.2.1 j ∧ (am_sA h k i x).2.2 j = h.2.2 j := ⟨rfl, rfl, if_neg e⟩
theorem am_s0_ne {h : am_H} {k : Nat} (j : Nat) (e : j ≠ k) : (am_s0 h k).1 j = h.1 j ∧ (am_s0 h k).2.1 j = h.2.1 j ∧ (am_s0 h k).2.2 j = h.2.2 j := ⟨if_neg e, if_neg e, if_neg e⟩
/-- types whose places hold ints -/
def am_iT (ty : FieldType) : Prop := ty = .int ∨ ty = .boolean
def am_rT (ty : FieldType) : Prop := (∃ C, ty = .object C) ∨ ∃ t, ty = .array t
theorem am_f_i {g : am_G} {h : am_H} {k j : Nat} {ty : FieldType} (ht : am_iT ty) : am_f g h k ty j = .int (h.1 k j) := by
  rcases ht with rfl | rfl <;> rfl
theorem am_f_r {g : am_G} {h : am_H} {k j : Nat} {ty : FieldType} (ht : am_rT ty) : am_f g h k ty j = va_rf ((h.2.2 k j).map (am_a g)) := by
  rcases ht with ⟨C, rfl⟩ | ⟨t, rfl⟩ <;> rfl
theorem am_f_sR {g : am_G} {h : am_H} {k j : Nat} {x : Int32} {ty : FieldType} (ht : am_iT ty) (ty2 : FieldType) (i : Nat) (hh : i = j → ty2 = ty) : am_f g (am_sI h k j x) k ty2 i = if i = j then .int x else am_f g h k ty2 i := by
  by_cases e : i = j
  · subst e
    rw [if_pos rfl, hh rfl, am_f_i ht]
    simp [am_sI, am_sR, upd]
  · rw [if_neg e]
    unfold am_f
    cases ty2 <;> simp [am_sI, am_sR, upd, e]
theorem am_f_sJ {g : am_G} {h : am_H} {k j : Nat} {x : Int64} (ty2 : FieldType) (i : Nat) (hh : i = j → ty2 = .long) : am_f g (am_sJ h k j x) k ty2 i = if i = j then .long x else am_f g h k ty2 i := by
  by_cases e : i = j
  · subst e
    rw [if_pos rfl, hh rfl]
    simp [am_sJ, vp_updL, am_f]
  · rw [if_neg e]
    unfold am_f
    cases ty2 <;> simp [am_sJ, vp_updL, e]
theorem am_f_sA {g : am_G} {h : am_H} {k j : Nat} {x : Option Nat} {ty : FieldType} (ht : am_rT ty) (ty2 : FieldType) (i : Nat) (hh : i = j → ty2 = ty) : am_f g (am_sA h k j x) k ty2 i = if i = j then va_rf (x.map (am_a g)) else am_f g h k ty2 i := by
  by_cases e : i = j
  · subst e
    rw [if_pos rfl, hh rfl, am_f_r ht]
    simp [am_sA, va_up]
  · rw [if_neg e]
    unfold am_f
    cases ty2 <;> simp [am_sA, va_up, e]
/-- a field's link: the class's own entry idx is the place j of class ci -/
def am_fl (own : String) (idx ci j : Nat) : Prop := ci < 9 ∧ j < am_nf ci ∧ Cond.fieldLink own idx (am_tb ci j).1 (am_tb ci j).2.1 (am_tb ci j).2.2.1 ∈ am_TB
section AM2
variable {E : Nat × (Nat → Int32)} {M : am_M} {pc : Nat} {ls : List (Option Value)} {st : List Value} {h : am_H} {n n1 : Nat} {Q : Option Value → am_H → Prop}
theorem am_getW {k j idx ci : Nat} (hd : decode M.2.1 pc = .ok (.getfield idx, 3)) (hf : am_fl M.1.cls idx ci j) (hs : am_s k = .inr ci) (hk : k < n) {v : Value} (hv : ∀ g : am_G, am_f g h k (am_ft ci j) j = am_v g v) (kk : am_R E M (pc + 3) ls (v :: st) h n n1 Q) : am_R E M pc ls (.ref k :: st) h n n1 Q := by
  intro p l e s m args below meth c g n0 Z H locs lsc Rm C hR hP hS hn hl hq
  have K := kk p l e s m args below meth c g n0 Z H locs lsc Rm C hR hP hS hn hl hq
  obtain ⟨hx, hb, -, -, hown, hts, -, -, -, hSt⟩ := C
  obtain ⟨hci, hj, hln⟩ := hf
  obtain ⟨cell, q1, q2, q3, q4⟩ := hP.obj hk hs
  obtain ⟨hSl, hfc, kC, hkC, hkind⟩ := hSt.1.1 ci _ (am_cl hci)
  obtain ⟨cf, kf, fi, f, hi, hsl⟩ := hSl j hj
  refine W.getf hx hb hown (hts _ hln) hi (u_facts hfc hkC (u_lays hts (am_in hci) hj) hi).1 q1 (by rw [q3]; exact fun h => by cases h) (v := am_v g v) ?_ rfl rfl hd K
  rw [hsl, q4 j hj]
  exact congrArg some (hv g)
theorem am_getI {k j idx ci : Nat} (hd : decode M.2.1 pc = .ok (.getfield idx, 3)) (hf : am_fl M.1.cls idx ci j) (ht : am_iT (am_ft ci j)) (hs : am_s k = .inr ci) (hk : k < n) (kk : am_R E M (pc + 3) ls (.int (h.1 k j) :: st) h n n1 Q) : am_R E M pc ls (.ref k :: st) h n n1 Q :=
  am_getW hd hf hs hk (v := .int (h.1 k j)) (fun _ => am_f_i ht) kk
theorem am_getJ {k j idx ci : Nat} (hd : decode M.2.1 pc = .ok (.getfield idx, 3)) (hf : am_fl M.1.cls idx ci j) (ht : am_ft ci j = .long) (hs : am_s k = .inr ci) (hk : k < n) (kk : am_R E M (pc + 3) ls (.long (h.2.1 k j) :: st) h n n1 Q) : am_R E M pc ls (.ref k :: st) h n n1 Q :=
  am_getW hd hf hs hk (v := .long (h.2.1 k j)) (fun _ => by rw [ht]; rfl) kk
theorem am_getA {k j idx ci r : Nat} (hd : decode M.2.1 pc = .ok (.getfield idx, 3)) (hf : am_fl M.1.cls idx ci j) (ht : am_rT (am_ft ci j)) (hs : am_s k = .inr ci) (hk : k < n) (hr : h.2.2 k j = some r) (kk : am_R E M (pc + 3) ls (.ref r :: st) h n n1 Q) : am_R E M pc ls (.ref k :: st) h n n1 Q :=
  am_getW hd hf hs hk (v := .ref r) (fun _ => by rw [am_f_r ht, hr]; rfl) kk
/-- a store into a field -/
theorem am_putW {k j idx ci : Nat} {v : Value} {h' : am_H} (hd : decode M.2.1 pc = .ok (.putfield idx, 3)) (hf : am_fl M.1.cls idx ci j) (hfin : (am_tb ci j).2.2.2 = false ∨ (M.1.name = "<init>" ∧ (am_tb ci j).2.2.2 = true ∧ (am_tb ci j).1 = M.1.cls)) (hs : am_s k = .inr ci) (hk : k < n) (hnv : ∀ g, narrow (am_ft ci j) (am_v g v) = am_v g v) (hfit : ∀ g, fits (am_ft ci j) (am_v g v) = true) (hsame : ∀ i, i ≠ k → h'.1 i = h.1 i ∧ h'.2.1 i = h.2.1 i ∧ h'.2.2 i = h.2.2 i) (hnew : ∀ (g : am_G) (i : Nat), am_f g h' k (am_ft ci i) i = if i = j then am_v g v else am_f g h k (am_ft ci i) i) (kk : am_R E M (pc + 3) ls st h' n n1 Q) : am_R E M pc ls (v :: .ref k :: st) h n n1 Q := by
  intro p l e s m args below meth c g n0 Z H locs lsc Rm C hR hP hS hn hl hq
  have C0 := C
  obtain ⟨hx, hb, -, -, hown, hts, -, hnm, -, hSt⟩ := C
  obtain ⟨hci, hj, hln⟩ := hf
  have hty := am_ty hci
  have hap := va_apart (own := M.1.cls) hts (am_in hci) (am_ft ci) hty (am_nm hci) hSt.1 (am_cl hci)
  obtain ⟨cell, q1, q2, q3, q4⟩ := hP.obj hk hs
  obtain ⟨hSl, hfc, kC, hkC, hkind⟩ := hSt.1.1 ci _ (am_cl hci)
  obtain ⟨cf, kf, fi, f, hi, hsl⟩ := hSl j hj
  have hst := (u_facts hfc hkC (u_lays hts (am_in hci) hj) hi).1
  have hlay := hts _ (am_in hci _ (u_in_lay hj))
  unfold u_lay at hlay
  have key : ∀ H' : Heap, H'[am_a g k]? = some (cell.setSlot f.slot (am_v g v)) → H'.size = H.size → (∀ q, q ≠ am_a g k → H'[q]? = H[q]?) → W p l e Rm s m args below meth c H' (locs ++ [⟨am_a g k, f.slot⟩]) (n - n0) (am_cs n - am_cs n0) Z (F0 m (pc + 3) lsc (st.map (am_v g))) := by
    intro H' e1 e2 e3
    refine kk p l e s m args below meth c g n0 Z H' _ lsc Rm C0 hR (hP.put hk e2 e3 hsame ?_) (hS.put e2 e3 (by rw [hP.a hk]; exact Nat.le_add_right _ _)) hn hl hq
    unfold am_at
    rw [hs]
    show t_OB _ _ _ _ _ _
    rw [← hP.a hk]
    rw [hsl] at e1
    refine t_OB.to (V := updV (fun i => am_f g h k (am_ft ci i) i) j (am_v g v)) ⟨_, e1, q2, q3, t_set q4 hap hj _⟩ (fun i _ => ?_)
    rw [hnew g i]
    rfl
  rcases hfin with hfin | ⟨hin, hfin, hdecl⟩
  · rw [if_neg (by rw [hfin]; decide)] at hlay
    have h6 := u_store hfc hkC hkind hlay hi (hty j hj) (hnv g) (hfit g)
    exact W.putK hx hb (f := f) ⟨hown, hts _ hln, ⟨_, _, _, hi⟩, hst⟩ (by rw [q2]; exact h6) q1 q3 (by rw [hsl]; exact k2_hasslot (q4 j hj)) rfl rfl hd key
  · rw [if_pos hfin] at hlay
    have hcf : m.cls = cf := by
      obtain ⟨_, _, c', _, _, _, -, -, hf', -, -, -, hown2, -⟩ := Cond.laysFinal_spec hlay
      have e1 : c' = cf := by have := hi.symm.trans hf'; simp at this; exact this.1.symm
      rw [hdecl] at hown2
      rw [← e1]; exact Option.some.inj (hown.symm.trans hown2)
    have h6 := u_fits hfc hkC hkind (Or.inr hlay) hi (hty j hj) (hnv g) (hfit g)
    exact W.putFinK hx hb hown (hts _ hln) hi hst hcf (hnm hin) (by rw [q2]; exact h6) q1 q3 (by rw [hsl]; exact k2_hasslot (q4 j hj)) rfl rfl hd key
/-- may the field be written: not final, or its own constructor -/
def am_wf (M : am_M) (ci j : Nat) : Prop := (am_tb ci j).2.2.2 = false ∨ (M.1.name = "<init>" ∧ (am_tb ci j).2.2.2 = true ∧ (am_tb ci j).1 = M.1.cls)
theorem am_putI {k j idx ci : Nat} {x : Int32} (hd : decode M.2.1 pc = .ok (.putfield idx, 3)) (hf : am_fl M.1.cls idx ci j) (hw : am_wf M ci j) (ht : am_ft ci j = .int) (hs : am_s k = .inr ci) (hk : k < n) (kk : am_R E M (pc + 3) ls st (am_sI h k j x) n n1 Q) : am_R E M pc ls (.int x :: .ref k :: st) h n n1 Q :=
  am_putW (v := .int x) hd hf hw hs hk (fun g => by rw [ht]; rfl) (fun g => by rw [ht]; rfl) (fun i e => am_sR_ne i e) (fun g i => am_f_sR (ty := .int) (Or.inl rfl) _ i (fun e => by rw [e]; exact ht)) kk
theorem am_putZ {k j idx ci : Nat} {x : Int32} (hd : decode M.2.1 pc = .ok (.putfield idx, 3)) (hf : am_fl M.1.cls idx ci j) (hw : am_wf M ci j) (ht : am_ft ci j = .boolean) (hs : am_s k = .inr ci) (hk : k < n) (hx : x = 0 ∨ x = 1) (kk : am_R E M (pc + 3) ls st (am_sI h k j x) n n1 Q) : am_R E M pc ls (.int x :: .ref k :: st) h n n1 Q :=
  am_putW (v := .int x) hd hf hw hs hk (fun g => by rw [ht]; rcases hx with rfl | rfl <;> rfl) (fun g => by rw [ht]; rcases hx with rfl | rfl <;> rfl) (fun i e => am_sR_ne i e) (fun g i => am_f_sR (ty := .boolean) (Or.inr rfl) _ i (fun e => by rw [e]; exact ht)) kk
theorem am_putJ {k j idx ci : Nat} {x : Int64} (hd : decode M.2.1 pc = .ok (.putfield idx, 3)) (hf : am_fl M.1.cls idx ci j) (hw : am_wf M ci j) (ht : am_ft ci j = .long) (hs : am_s k = .inr ci) (hk : k < n) (kk : am_R E M (pc + 3) ls st (am_sJ h k j x) n n1 Q) : am_R E M pc ls (.long x :: .ref k :: st) h n n1 Q :=
  am_putW (v := .long x) hd hf hw hs hk (fun g => by rw [ht]; rfl) (fun g => by rw [ht]; rfl) (fun i e => am_sJ_ne i e) (fun g i => am_f_sJ _ i (fun e => by rw [e]; exact ht)) kk
theorem am_putA {k j idx ci x : Nat} (hd : decode M.2.1 pc = .ok (.putfield idx, 3)) (hf : am_fl M.1.cls idx ci j) (hw : am_wf M ci j) (ht : am_rT (am_ft ci j)) (hs : am_s k = .inr ci) (hk : k < n) (kk : am_R E M (pc + 3) ls st (am_sA h k j (some x)) n n1 Q) : am_R E M pc ls (.ref x :: .ref k :: st) h n n1 Q :=
  am_putW (v := .ref x) hd hf hw hs hk (fun g => by rcases ht with ⟨C, e⟩ | ⟨t, e⟩ <;> rw [e] <;> rfl) (fun g => by rcases ht with ⟨C, e⟩ | ⟨t, e⟩ <;> rw [e] <;> rfl) (fun i e => am_sA_ne i e) (fun g i => am_f_sA (ty := am_ft ci j) ht _ i (fun e => by rw [e])) kk
/-- places of tys -/
def am_t5 (ty : FieldType) : Prop := ty = .int ∨ ty = .long ∨ ty = .boolean ∨ ty = .object RX1 ∨ ty = .object RX8
theorem am_t5_at {g : am_G} {U : State} {H : Heap} {ty : FieldType} (hS : am_S E g U H) (ht : am_t5 ty) : ArrOfT U (g.2.2.1 ty) ty ∧ va_RA U (g.2.2.1 ty) ty := by
  rcases ht with rfl | rfl | rfl | rfl | rfl
  · exact hS.1.2 0 _ rfl
  · exact hS.1.2 1 _ rfl
  · exact hS.1.2 2 _ rfl
  · exact hS.1.2 3 _ rfl
  · exact hS.1.2 4 _ rfl
theorem am_iald {k N : Nat} {i : Int32} (hd : decode M.2.1 pc = .ok (.iaload, 1)) (hs : am_s k = .inl (.int, N)) (hk : k < n) (hi : vp_in i N) (kk : am_R E M (pc + 1) ls (.int (h.1 k i.toNatClampNeg) :: st) h n n1 Q) : am_R E M pc ls (.int i :: .ref k :: st) h n n1 Q := by
  intro p l e s m args below meth c g n0 Z H locs lsc Rm C hR hP hS hn hl hq
  have K := kk p l e s m args below meth c g n0 Z H locs lsc Rm C hR hP hS hn hl hq
  obtain ⟨hx, hb, -, -, hown, hts, -, -, -, hSt⟩ := C
  have hlt : i.toNatClampNeg < N := Nat.not_le.mp fun q => hi (Or.inr q)
  exact W.iald (v := .int (h.1 k i.toNatClampNeg)) hx hb (hP.arr hk hs) ((am_t5_at hSt (Or.inl rfl)).1 N _) (fun q => by cases q) (by rw [arrV_size]; exact hi) (by rw [arrV_read _ _ hlt]; rfl) rfl rfl hd K
theorem am_zald {k N : Nat} {i : Int32} (hd : decode M.2.1 pc = .ok (.baload, 1)) (hs : am_s k = .inl (.boolean, N)) (hk : k < n) (hi : vp_in i N) (kk : am_R E M (pc + 1) ls (.int (h.1 k i.toNatClampNeg) :: st) h n n1 Q) : am_R E M pc ls (.int i :: .ref k :: st) h n n1 Q := by
  intro p l e s m args below meth c g n0 Z H locs lsc Rm C hR hP hS hn hl hq
  have K := kk p l e s m args below meth c g n0 Z H locs lsc Rm C hR hP hS hn hl hq
  obtain ⟨hx, hb, -, -, hown, hts, -, -, -, hSt⟩ := C
  have hlt : i.toNatClampNeg < N := Nat.not_le.mp fun q => hi (Or.inr q)
  exact W.zald (v := .int (h.1 k i.toNatClampNeg)) hx hb (hP.arr hk hs) ((am_t5_at hSt (Or.inr (Or.inr (Or.inl rfl)))).1 N _) (fun q => by cases q) (by rw [arrV_size]; exact hi) (by rw [arrV_read _ _ hlt]; rfl) rfl rfl hd K
theorem am_lald {k N : Nat} {i : Int32} (hd : decode M.2.1 pc = .ok (.laload, 1)) (hs : am_s k = .inl (.long, N)) (hk : k < n) (hi : vp_in i N) (kk : am_R E M (pc + 1) ls (.long (h.2.1 k i.toNatClampNeg) :: st) h n n1 Q) : am_R E M pc ls (.int i :: .ref k :: st) h n n1 Q := by
  intro p l e s m args below meth c g n0 Z H locs lsc Rm C hR hP hS hn hl hq
  have K := kk p l e s m args below meth c g n0 Z H locs lsc Rm C hR hP hS hn hl hq
  obtain ⟨hx, hb, -, -, hown, hts, -, -, -, hSt⟩ := C
  have hlt : i.toNatClampNeg < N := Nat.not_le.mp fun q => hi (Or.inr q)
  exact W.lald (v := .long (h.2.1 k i.toNatClampNeg)) hx hb (hP.arr hk hs) ((am_t5_at hSt (Or.inr (Or.inl rfl))).1 N _) (fun q => by cases q) (by rw [arrV_size]; exact hi) (by rw [arrV_read _ _ hlt]; rfl) rfl rfl hd K
theorem am_aald {k N r : Nat} {C0 : String} {i : Int32} (hd : decode M.2.1 pc = .ok (.aaload, 1)) (hs : am_s k = .inl (.object C0, N)) (h5 : am_t5 (.object C0)) (hk : k < n) (hi : vp_in i N) (hr : h.2.2 k i.toNatClampNeg = some r) (kk : am_R E M (pc + 1) ls (.ref r :: st) h n n1 Q) : am_R E M pc ls (.int i :: .ref k :: st) h n n1 Q := by
  intro p l e s m args below meth c g n0 Z H locs lsc Rm C hR hP hS hn hl hq
  have K := kk p l e s m args below meth c g n0 Z H locs lsc Rm C hR hP hS hn hl hq
  obtain ⟨hx, hb, -, -, hown, hts, -, -, -, hSt⟩ := C
  have hlt : i.toNatClampNeg < N := Nat.not_le.mp fun q => hi (Or.inr q)
  exact W.aald (v := .ref (am_a g r)) (ty := .object C0) hx hb (hP.arr hk hs) ((am_t5_at hSt h5).1 N _) rfl (fun q => by cases q) (by rw [arrV_size]; exact hi) (by rw [arrV_read _ _ hlt]; show some (va_rf ((h.2.2 k i.toNatClampNeg).map (am_a g))) = _; rw [hr]; rfl) rfl rfl hd K
theorem am_alen {k N : Nat} {ty : FieldType} (hd : decode M.2.1 pc = .ok (.arraylength, 1)) (hs : am_s k = .inl (ty, N)) (h5 : am_t5 ty) (hk : k < n) (kk : am_R E M (pc + 1) ls (.int (Int32.ofNat N) :: st) h n n1 Q) : am_R E M pc ls (.ref k :: st) h n n1 Q := by
  intro p l e s m args below meth c g n0 Z H locs lsc Rm C hR hP hS hn hl hq
  have K := kk p l e s m args below meth c g n0 Z H locs lsc Rm C hR hP hS hn hl hq
  obtain ⟨hx, hb, -, -, hown, hts, -, -, -, hSt⟩ := C
  exact W.alen (n := Int32.ofNat N) hx hb (hP.arr hk hs) ((am_t5_at hSt h5).1 N _) (by rw [arrV_size]) rfl rfl hd K
/-- behind a store into an array -/
theorem am_astW {k N j : Nat} {ty : FieldType} {v : Value} {h' : am_H} {p : Program} {l : Launch} {e : Env} {s : State} {m : MethodId} {args : Array Value} {below : List Frame} {meth : Method} {c : Code} {g : am_G} {n0 : Nat} {Z : State → Prop} {H : Heap} {locs : List Loc} {lsc : Array Slot} {Rm : Room} (hs : am_s k = .inl (ty, N)) (hk : k < n) (hsame : ∀ i, i ≠ k → h'.1 i = h.1 i ∧ h'.2.1 i = h.2.1 i ∧ h'.2.2 i = h.2.2 i) (hnew : ∀ i, am_f g h' k ty i = if i = j then v else am_f g h k ty i)
    (C : am_C E M p s m args meth c g Rm) (hR : n1 - n0 ≤ Rm.cells ∧ am_cs n1 - am_cs n0 ≤ Rm.slots) (hP : am_P g h n H) (hS : va_S (am_A g) s.heap H locs) (hn : n0 ≤ n ∧ n ≤ n1) (hl : am_L g lsc M.2.2.1 ls)
    (hq : ∀ (pc' : Nat) (r : Option Value) (h' : am_H) (H' : Heap) (locs' : List Loc) (lsc' : Array Slot), Q r h' → am_P g h' n1 H' → va_S (am_A g) s.heap H' locs' → am_K M pc' r → W p l e Rm s m args below meth c H' locs' (n1 - n0) (am_cs n1 - am_cs n0) Z (F0 m pc' lsc' (r.toList.map (am_v g))))
    (kk : am_R E M (pc + 1) ls st h' n n1 Q) : ∀ H' : Heap, H'[am_a g k]? = some ((arrV (g.2.2.1 ty) N (fun j => am_f g h k ty j)).setSlot j v) → H'.size = H.size → (∀ q, q ≠ am_a g k → H'[q]? = H[q]?) → W p l e Rm s m args below meth c H' (locs ++ [⟨am_a g k, j⟩]) (n - n0) (am_cs n - am_cs n0) Z (F0 m (pc + 1) lsc (st.map (am_v g))) := by
  intro H' e1 e2 e3
  refine kk p l e s m args below meth c g n0 Z H' _ lsc Rm C hR (hP.put hk e2 e3 hsame ?_) (hS.put e2 e3 (by rw [hP.a hk]; exact Nat.le_add_right _ _)) hn hl hq
  unfold am_at
  rw [hs]
  show H'[g.1 + k]? = _
  rw [← hP.a hk, e1, arrV_store]
  congr 2
  funext i
  rw [hnew i]
  rfl
theorem am_iast {k N : Nat} {i x : Int32} (hd : decode M.2.1 pc = .ok (.iastore, 1)) (hs : am_s k = .inl (.int, N)) (hk : k < n) (hi : vp_in i N) (kk : am_R E M (pc + 1) ls st (am_sI h k i.toNatClampNeg x) n n1 Q) : am_R E M pc ls (.int x :: .int i :: .ref k :: st) h n n1 Q := by
  intro p l e s m args below meth c g n0 Z H locs lsc Rm C hR hP hS hn hl hq
  have C0 := C
  obtain ⟨hx, hb, -, -, hown, hts, -, -, -, hSt⟩ := C
  exact W.iast hx hb (hP.arr hk hs) ((am_t5_at hSt (Or.inl rfl)).1 N _) (fun q => by cases q) (by rw [arrV_size]; exact hi) rfl rfl hd (am_astW hs hk (fun i e => am_sR_ne i e) (fun i => am_f_sR (ty := .int) (Or.inl rfl) _ i (fun _ => rfl)) C0 hR hP hS hn hl hq kk)
theorem am_zast {k N : Nat} {i x : Int32} (hd : decode M.2.1 pc = .ok (.bastore, 1)) (hs : am_s k = .inl (.boolean, N)) (hk : k < n) (hi : vp_in i N) (hx : x = 0 ∨ x = 1) (kk : am_R E M (pc + 1) ls st (am_sI h k i.toNatClampNeg x) n n1 Q) : am_R E M pc ls (.int x :: .int i :: .ref k :: st) h n n1 Q := by
  intro p l e s m args below meth c g n0 Z H locs lsc Rm C hR hP hS hn hl hq
  have C0 := C
  obtain ⟨hx', hb, -, -, hown, hts, -, -, -, hSt⟩ := C
  have hnx : narrow .boolean (.int x) = .int x := by rcases hx with rfl | rfl <;> rfl
  exact W.zast hx' hb (hP.arr hk hs) ((am_t5_at hSt (Or.inr (Or.inr (Or.inl rfl)))).1 N _) (fun q => by cases q) (by rw [arrV_size]; exact hi) rfl rfl hd (by rw [hnx]; exact am_astW hs hk (fun i e => am_sR_ne i e) (fun i => am_f_sR (ty := .boolean) (Or.inr rfl) _ i (fun _ => rfl)) C0 hR hP hS hn hl hq kk)
theorem am_last {k N : Nat} {i : Int32} {x : Int64} (hd : decode M.2.1 pc = .ok (.lastore, 1)) (hs : am_s k = .inl (.long, N)) (hk : k < n) (hi : vp_in i N) (kk : am_R E M (pc + 1) ls st (am_sJ h k i.toNatClampNeg x) n n1 Q) : am_R E M pc ls (.long x :: .int i :: .ref k :: st) h n n1 Q := by
  intro p l e s m args below meth c g n0 Z H locs lsc Rm C hR hP hS hn hl hq
  have C0 := C
  obtain ⟨hx, hb, -, -, hown, hts, -, -, -, hSt⟩ := C
  exact W.last hx hb (hP.arr hk hs) ((am_t5_at hSt (Or.inr (Or.inl rfl))).1 N _) (fun q => by cases q) (by rw [arrV_size]; exact hi) rfl rfl hd (am_astW hs hk (fun i e => am_sJ_ne i e) (fun i => am_f_sJ _ i (fun _ => rfl)) C0 hR hP hS hn hl hq kk)
theorem am_aast {k N r ci : Nat} {i : Int32} (hd : decode M.2.1 pc = .ok (.aastore, 1)) (hci : ci < 9) (hs : am_s k = .inl (.object (am_cn ci), N)) (h5 : am_t5 (.object (am_cn ci))) (hk : k < n) (hr : am_s r = .inr ci) (hrk : r < n) (hi : vp_in i N) (kk : am_R E M (pc + 1) ls st (am_sA h k i.toNatClampNeg (some r)) n n1 Q) : am_R E M pc ls (.ref r :: .int i :: .ref k :: st) h n n1 Q := by
  intro p l e s m args below meth c g n0 Z H locs lsc Rm C hR hP hS hn hl hq
  have C0 := C
  obtain ⟨hx, hb, -, -, hown, hts, -, -, -, hSt⟩ := C
  have hlt : i.toNatClampNeg < N := Nat.not_le.mp fun q => hi (Or.inr q)
  have h0 : ¬ i < 0 := fun q => hi (Or.inl q)
  obtain ⟨cellV, g1, g2, g3, -⟩ := hP.obj hrk hr
  have hcls := (hSt.1.1 ci _ (am_cl hci)).2
  obtain ⟨kA, comp, k1, k2, k3, -⟩ := (am_t5_at hSt h5).2
  have hcomp : comp = g.2.2.2.1 ci := Option.some.inj (k3.symm.trans hcls.1)
  subst hcomp
  obtain ⟨kC, hkC, -⟩ := hcls.2
  exact W.aast hx hb (hP.arr hk hs) (fun q h => by cases h) (fun h => by cases h) k1 k2 rfl hkC ⟨h0, by rw [arrV_size]; exact hlt⟩ g1 (fun q h => by rw [g3] at h; cases h) (by rw [g2]; exact hkC) (by rw [g2]; exact va_assign hcls) rfl rfl hd (am_astW hs hk (fun i e => am_sA_ne i e) (fun i => am_f_sA (ty := .object (am_cn ci)) (Or.inl ⟨_, rfl⟩) _ i (fun _ => rfl)) C0 hR hP hS hn hl hq kk)
end AM2
