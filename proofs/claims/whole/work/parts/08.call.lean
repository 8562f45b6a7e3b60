/-! ===== old cells, new cells, calls ===== -/
section AM3
variable {E : Nat × (Nat → Int32)} {M : am_M} {pc : Nat} {ls : List (Option Value)} {st : List Value} {h : am_H} {n n1 : Nat} {Q : Option Value → am_H → Prop}
/-- FACTORIALS and OVER, read in their own class and in nest mates -/
theorem am_gsF {idx : Nat} (hd : decode M.2.1 pc = .ok (.getstatic idx, 3)) (hf : Cond.fieldLink M.1.cls idx RX9 "FACTORIALS" "[I" ∈ am_TB) (kk : am_R E M (pc + 3) ls (.ref 1001 :: st) h n n1 Q) : am_R E M pc ls st h n n1 Q := by
  intro p l e s m args below meth c g n0 Z H locs lsc Rm C hR hP hS hn hl hq
  have K := kk p l e s m args below meth c g n0 Z H locs lsc Rm C hR hP hS hn hl hq
  obtain ⟨hx, hb, -, -, hown, hts, -, -, -, hSt⟩ := C
  exact va_gets hx hb hSt.2.2.1.1 hS hown (hts _ hf) (fun _ h => h) hd K
theorem am_gsFN {idx : Nat} (hd : decode M.2.1 pc = .ok (.getstatic idx, 3)) (hf : Cond.fieldLinkNest M.1.cls idx RX9 "FACTORIALS" "[I" RX9 ∈ am_nw) (kk : am_R E M (pc + 3) ls (.ref 1001 :: st) h n n1 Q) : am_R E M pc ls st h n n1 Q := by
  intro p l e s m args below meth c g n0 Z H locs lsc Rm C hR hP hS hn hl hq
  have K := kk p l e s m args below meth c g n0 Z H locs lsc Rm C hR hP hS hn hl hq
  obtain ⟨hx, hb, -, -, hown, hts, -, -, -, hSt⟩ := C
  exact va_getsN hx hb hSt.2.2.1.1 hS hown (va_Nw.use rfl (hSt.2.2.2.2.2.2.2.2 _ hf)) (fun _ h => h) hd K
theorem am_gsON {idx : Nat} (hd : decode M.2.1 pc = .ok (.getstatic idx, 3)) (hf : Cond.fieldLinkNest M.1.cls idx RX9 "OVER" "[I" RX9 ∈ am_nw) (kk : am_R E M (pc + 3) ls (.ref 1000 :: st) h n n1 Q) : am_R E M pc ls st h n n1 Q := by
  intro p l e s m args below meth c g n0 Z H locs lsc Rm C hR hP hS hn hl hq
  have K := kk p l e s m args below meth c g n0 Z H locs lsc Rm C hR hP hS hn hl hq
  obtain ⟨hx, hb, -, -, hown, hts, -, -, -, hSt⟩ := C
  exact va_getsN hx hb hSt.2.1.1 hS hown (va_Nw.use rfl (hSt.2.2.2.2.2.2.2.2 _ hf)) (fun _ h => h) hd K
theorem am_gsC {idx : Nat} (hd : decode M.2.1 pc = .ok (.getstatic idx, 3)) (hf : Cond.fieldLink M.1.cls idx RJ0 "COMPACT_STRINGS" "Z" ∈ am_TB) (kk : am_R E M (pc + 3) ls (.int 1 :: st) h n n1 Q) : am_R E M pc ls st h n n1 Q := by
  intro p l e s m args below meth c g n0 Z H locs lsc Rm C hR hP hS hn hl hq
  have K := kk p l e s m args below meth c g n0 Z H locs lsc Rm C hR hP hS hn hl hq
  obtain ⟨hx, hb, -, -, hown, hts, -, -, -, hSt⟩ := C
  exact va_gets hx hb hSt.2.2.2.2.1.1 hS hown (hts _ hf) (fun _ h => h) hd K
theorem am_gsB {idx : Nat} (hd : decode M.2.1 pc = .ok (.getstatic idx, 3)) (hf : Cond.fieldLink M.1.cls idx RJ3 "SIOOBE_FORMATTER" "Ljava/util/function/BiFunction;" ∈ am_TB) (kn : am_R E M (pc + 3) ls (.null :: st) h n n1 Q) (kk : am_R E M (pc + 3) ls (.ref 1003 :: st) h n n1 Q) : am_R E M pc ls st h n n1 Q := by
  intro p l e s m args below meth c g n0 Z H locs lsc Rm C hR hP hS hn hl hq
  have K1 := kn p l e s m args below meth c g n0 Z H locs lsc Rm C hR hP hS hn hl hq
  have K2 := kk p l e s m args below meth c g n0 Z H locs lsc Rm C hR hP hS hn hl hq
  obtain ⟨hx, hb, -, -, hown, hts, -, -, -, hSt⟩ := C
  rcases hSt.2.2.2.2.1.2 with hz | hz
  · exact va_gets hx hb hz hS hown (hts _ hf) (fun _ h => h) hd K1
  · exact va_gets hx hb hz hS hown (hts _ hf) (fun _ h => h) hd K2
theorem am_ildF {i : Int32} (hd : decode M.2.1 pc = .ok (.iaload, 1)) (hi : vp_in i 8) (kk : am_R E M (pc + 1) ls (.int (am_fa i.toNatClampNeg) :: st) h n n1 Q) : am_R E M pc ls (.int i :: .ref 1001 :: st) h n n1 Q := by
  intro p l e s m args below meth c g n0 Z H locs lsc Rm C hR hP hS hn hl hq
  have K := kk p l e s m args below meth c g n0 Z H locs lsc Rm C hR hP hS hn hl hq
  obtain ⟨hx, hb, -, -, hown, hts, -, -, -, hSt⟩ := C
  exact va_ti hx hb hSt.2.2.1.2 hS hi rfl hd K
theorem am_ildO {i : Int32} (hd : decode M.2.1 pc = .ok (.iaload, 1)) (hi : vp_in i 5) (kk : am_R E M (pc + 1) ls (.int (am_ov i.toNatClampNeg) :: st) h n n1 Q) : am_R E M pc ls (.int i :: .ref 1000 :: st) h n n1 Q := by
  intro p l e s m args below meth c g n0 Z H locs lsc Rm C hR hP hS hn hl hq
  have K := kk p l e s m args below meth c g n0 Z H locs lsc Rm C hR hP hS hn hl hq
  obtain ⟨hx, hb, -, -, hown, hts, -, -, -, hSt⟩ := C
  exact va_ti hx hb hSt.2.1.2 hS hi rfl hd K
theorem am_ildX {i : Int32} (hd : decode M.2.1 pc = .ok (.iaload, 1)) (hi : vp_in i E.1) (kk : am_R E M (pc + 1) ls (.int (E.2 i.toNatClampNeg) :: st) h n n1 Q) : am_R E M pc ls (.int i :: .ref 1002 :: st) h n n1 Q := by
  intro p l e s m args below meth c g n0 Z H locs lsc Rm C hR hP hS hn hl hq
  have K := kk p l e s m args below meth c g n0 Z H locs lsc Rm C hR hP hS hn hl hq
  obtain ⟨hx, hb, -, -, hown, hts, -, -, -, hSt⟩ := C
  exact va_ti hx hb hSt.2.2.2.1 hS hi rfl hd K
theorem am_lenX (hd : decode M.2.1 pc = .ok (.arraylength, 1)) (kk : am_R E M (pc + 1) ls (.int (Int32.ofNat E.1) :: st) h n n1 Q) : am_R E M pc ls (.ref 1002 :: st) h n n1 Q := by
  intro p l e s m args below meth c g n0 Z H locs lsc Rm C hR hP hS hn hl hq
  have K := kk p l e s m args below meth c g n0 Z H locs lsc Rm C hR hP hS hn hl hq
  obtain ⟨hx, hb, -, -, hown, hts, -, -, -, hSt⟩ := C
  exact va_tlen hx hb hSt.2.2.2.1 hS rfl hd K
/-- the words of the text -/
theorem am_a10 {g : am_G} (i : Nat) : am_a g (1010 + i) = g.2.1 (1010 + i) := if_neg (by omega)
theorem am_a20 {g : am_G} (i : Nat) : am_a g (1020 + i) = g.2.1 (1020 + i) := if_neg (by omega)
theorem am_ldcS {idx i k : Nat} (hd : decode M.2.1 pc = .ok (.ldc idx, 2)) (ho : M.1.cls = RX6) (hi : i < 9) (hx : am_si i = idx) (hk : 1010 + i = k) (kk : am_R E M (pc + 2) ls (.ref k :: st) h n n1 Q) : am_R E M pc ls st h n n1 Q := by
  intro p l e s m args below meth c g n0 Z H locs lsc Rm C hR hP hS hn hl hq
  have K := kk p l e s m args below meth c g n0 Z H locs lsc Rm C hR hP hS hn hl hq
  obtain ⟨hx', hb, -, -, hown, hts, -, -, -, hSt⟩ := C
  subst hk; subst hx
  rw [ho] at hown
  have K : W p l e Rm s m args below meth c H locs (n - n0) (am_cs n - am_cs n0) Z (F0 m (pc + 2) lsc (.ref (am_a g (1010 + i)) :: st.map (am_v g))) := K
  rw [am_a10] at K
  exact va_ldcS hx' hb hown (hSt.2.2.2.2.2.2.1 i hi) hd K
theorem am_strV {idx i k : Nat} (hd : decode M.2.1 pc = .ok (.getfield idx, 3)) (hf : Cond.fieldLink M.1.cls idx RJ0 "value" "[B" ∈ am_TB) (hi : i < 9) (hk : 1010 + i = k) (kk : am_R E M (pc + 3) ls (.ref (1020 + i) :: st) h n n1 Q) : am_R E M pc ls (.ref k :: st) h n n1 Q := by
  intro p l e s m args below meth c g n0 Z H locs lsc Rm C hR hP hS hn hl hq
  have K := kk p l e s m args below meth c g n0 Z H locs lsc Rm C hR hP hS hn hl hq
  obtain ⟨hx', hb, -, -, hown, hts, -, -, -, hSt⟩ := C
  subst hk
  have K : W p l e Rm s m args below meth c H locs (n - n0) (am_cs n - am_cs n0) Z (F0 m (pc + 3) lsc (.ref (am_a g (1020 + i)) :: st.map (am_v g))) := K
  show W p l e Rm s m args below meth c H locs (n - n0) (am_cs n - am_cs n0) Z (F0 m pc lsc (.ref (am_a g (1010 + i)) :: st.map (am_v g)))
  rw [am_a20] at K
  rw [am_a10]
  exact vk_getf hx' hb (hSt.2.2.2.2.2.1.1 i hi).2.2.1 hS hown (hts _ hf) (fun _ h => h) hd K
theorem am_strC {idx i k : Nat} (hd : decode M.2.1 pc = .ok (.getfield idx, 3)) (hf : Cond.fieldLink M.1.cls idx RJ0 "coder" "B" ∈ am_TB) (hi : i < 9) (hk : 1010 + i = k) (kk : am_R E M (pc + 3) ls (.int 0 :: st) h n n1 Q) : am_R E M pc ls (.ref k :: st) h n n1 Q := by
  intro p l e s m args below meth c g n0 Z H locs lsc Rm C hR hP hS hn hl hq
  have K := kk p l e s m args below meth c g n0 Z H locs lsc Rm C hR hP hS hn hl hq
  obtain ⟨hx', hb, -, -, hown, hts, -, -, -, hSt⟩ := C
  subst hk
  show W p l e Rm s m args below meth c H locs (n - n0) (am_cs n - am_cs n0) Z (F0 m pc lsc (.ref (am_a g (1010 + i)) :: st.map (am_v g)))
  rw [am_a10]
  exact vk_getf hx' hb (hSt.2.2.2.2.2.1.1 i hi).2.1 hS hown (hts _ hf) (fun _ h => h) hd K
theorem am_strL {i k : Nat} (hd : decode M.2.1 pc = .ok (.arraylength, 1)) (hi : i < 9) (hk : 1020 + i = k) (kk : am_R E M (pc + 1) ls (.int (Int32.ofNat (am_sn.getD i 0)) :: st) h n n1 Q) : am_R E M pc ls (.ref k :: st) h n n1 Q := by
  intro p l e s m args below meth c g n0 Z H locs lsc Rm C hR hP hS hn hl hq
  have K := kk p l e s m args below meth c g n0 Z H locs lsc Rm C hR hP hS hn hl hq
  obtain ⟨hx', hb, -, -, hown, hts, -, -, -, hSt⟩ := C
  subst hk
  show W p l e Rm s m args below meth c H locs (n - n0) (am_cs n - am_cs n0) Z (F0 m pc lsc (.ref (am_a g (1020 + i)) :: st.map (am_v g)))
  rw [am_a20]
  exact va_tlen hx' hb (hSt.2.2.2.2.2.1.1 i hi).2.2.2 hS rfl hd K
theorem am_strB {i k : Nat} {x : Int32} (hd : decode M.2.1 pc = .ok (.baload, 1)) (hi : i < 9) (hk : 1020 + i = k) (hin : vp_in x (am_sn.getD i 0)) (kk : am_R E M (pc + 1) ls (.int ((am_sb.getD i []).getD x.toNatClampNeg 0) :: st) h n n1 Q) : am_R E M pc ls (.int x :: .ref k :: st) h n n1 Q := by
  intro p l e s m args below meth c g n0 Z H locs lsc Rm C hR hP hS hn hl hq
  have K := kk p l e s m args below meth c g n0 Z H locs lsc Rm C hR hP hS hn hl hq
  obtain ⟨hx', hb, -, -, hown, hts, -, -, -, hSt⟩ := C
  subst hk
  show W p l e Rm s m args below meth c H locs (n - n0) (am_cs n - am_cs n0) Z (F0 m pc lsc (.int x :: .ref (am_a g (1020 + i)) :: st.map (am_v g)))
  rw [am_a20]
  exact va_tb hx' hb (hSt.2.2.2.2.2.1.1 i hi).2.2.2 hS hin rfl hd K
/-! new cells -/
theorem am_room {n0 : Nat} {Rm : Room} (hR : n1 - n0 ≤ Rm.cells ∧ am_cs n1 - am_cs n0 ≤ Rm.slots) (hn : n0 ≤ n ∧ n ≤ n1) (h1 : n + 1 ≤ n1) : (n - n0) + 1 ≤ Rm.cells ∧ (am_cs n - am_cs n0) + am_z n ≤ Rm.slots ∧ (n - n0) + 1 = n + 1 - n0 ∧ (am_cs n - am_cs n0) + am_z n = am_cs (n + 1) - am_cs n0 := by
  have e1 : am_cs (n + 1) = am_cs n + am_z n := rfl
  have e2 := am_cs_mono h1
  have e3 := am_cs_mono hn.1
  omega
theorem am_new {idx ci : Nat} (hd : decode M.2.1 pc = .ok (.new idx, 3)) (hci : ci < 9) (hs : am_s n = .inr ci) (hc1 : Cond.classLink M.1.cls idx (am_cn ci) ∈ am_TB) (hc2 : Cond.instantiable (am_cn ci) (am_nf ci) ∈ am_TB) (hc3 : Cond.initialized (am_cn ci) ∈ am_TB) (hb1 : n + 1 ≤ n1) (h64 : n + 1 ≤ 64) (kk : am_R E M (pc + 3) ls (.ref n :: st) (am_s0 h n) (n + 1) n1 Q) : am_R E M pc ls st h n n1 Q := by
  intro p l e s m args below meth c g n0 Z H locs lsc Rm C hR hP hS hn hl hq
  have C0 := C
  obtain ⟨hx, hb, -, -, hown, hts, -, -, -, hSt⟩ := C
  obtain ⟨r1, r2, r3, r4⟩ := am_room hR hn hb1
  have hz : am_z n = am_nf ci := by unfold am_z; rw [hs]
  have hKn := hSt.1.1 ci _ (am_cl hci)
  refine W.newcK hx hb hown (hts _ hc1) (hts _ hc2) (hts _ hc3) rfl hd r1 (by rw [← hz]; exact r2) hKn.2.1 (h := am_a g n) (by rw [am_a_lt (by omega), hP.1]) fun H1 kC hkC e1 z1 o1 => ?_
  have ea : am_a g n = H.size := by rw [am_a_lt (by omega), hP.1]
  have hP1 : am_P g (am_s0 h n) (n + 1) H1 := by
    refine hP.push h64 (by rw [z1, ea]) (fun q hq => o1 q (by rw [ea]; exact hq)) (fun j hj => am_s0_ne j (by omega)) ?_
    unfold am_at
    rw [hs]
    show t_OB _ _ _ _ _ _
    rw [← am_a_lt (by omega)]
    refine (u_born (am_ft ci) hts (am_in hci) hKn hkC e1 (am_ty hci)).to (fun j hj => ?_)
    unfold am_f
    cases hty : am_ft ci j with
    | float => rcases (show ci = 0 ∨ ci = 1 ∨ ci = 2 ∨ ci = 3 ∨ ci = 4 ∨ ci = 5 ∨ ci = 6 ∨ ci = 7 ∨ ci = 8 by omega) with rfl | rfl | rfl | rfl | rfl | rfl | rfl | rfl | rfl <;> exact absurd hty ((by decide +kernel : ∀ j, j < 29 → ∀ c, c < 9 → am_ft c j ≠ .float) j (by simp only [am_nf] at hj; omega) _ (by omega))
    | double => rcases (show ci = 0 ∨ ci = 1 ∨ ci = 2 ∨ ci = 3 ∨ ci = 4 ∨ ci = 5 ∨ ci = 6 ∨ ci = 7 ∨ ci = 8 by omega) with rfl | rfl | rfl | rfl | rfl | rfl | rfl | rfl | rfl <;> exact absurd hty ((by decide +kernel : ∀ j, j < 29 → ∀ c, c < 9 → am_ft c j ≠ .double) j (by simp only [am_nf] at hj; omega) _ (by omega))
    | _ => simp [am_s0, defaultValue, va_rf]
  have K := kk p l e s m args below meth c g n0 Z H1 locs lsc Rm C0 hR hP1 ⟨Nat.le_trans hS.1 (by rw [z1, ea]; omega), fun x h1 h2 => (o1 x (by rw [ea]; exact Nat.lt_of_lt_of_le h1 hS.1)).trans (hS.2.1 x h1 h2), hS.2.2⟩ ⟨by omega, hb1⟩ hl hq
  rw [r3, ← hz, r4]
  exact K
theorem am_newa {x : Int32} {N : Nat} {atype : ArrayType} {ty : FieldType} (hd : decode M.2.1 pc = .ok (.newarray atype, 2)) (hty : newarray.typeOf atype = ty) (h5 : ty = .int ∨ ty = .long ∨ ty = .boolean) (hs : am_s n = .inl (ty, N)) (hc : Cond.arrayClass ty ∈ am_TB) (hx0 : ¬ x < 0) (hxN : x.toNatClampNeg = N) (hN : N ≤ 6000) (hb1 : n + 1 ≤ n1) (h64 : n + 1 ≤ 64) (kk : am_R E M (pc + 2) ls (.ref n :: st) (am_s0 h n) (n + 1) n1 Q) : am_R E M pc ls (.int x :: st) h n n1 Q := by
  intro p l e s m args below meth c g n0 Z H locs lsc Rm C hR hP hS hn hl hq
  have C0 := C
  obtain ⟨hx, hb, -, -, hown, hts, -, -, -, hSt⟩ := C
  obtain ⟨r1, r2, r3, r4⟩ := am_room hR hn hb1
  have hz : am_z n = N := by unfold am_z; rw [hs]
  have ea : am_a g n = H.size := by rw [am_a_lt (by omega), hP.1]
  subst hty
  have h5' : am_t5 (newarray.typeOf atype) := by rcases h5 with q | q | q <;> rw [q] <;> simp [am_t5]
  refine va_newaK hx hb (hts _ hc) rfl hd rfl hx0 hxN (by rcases h5 with q | q | q <;> rw [q] <;> simp [componentBytes] <;> omega) r1 (by rw [← hz]; exact r2) (h := am_a g n) ea.symm fun H1 cA e1 z1 o1 hAr hNm => ?_
  have hcA : cA = g.2.2.1 (newarray.typeOf atype) := by
    have h2 := (am_t5_at hSt h5').2
    have h3 : s.vm.findClass ("[" ++ (newarray.typeOf atype).toString) = some (g.2.2.1 (newarray.typeOf atype)) := by
      cases atype <;> exact h2
    exact Option.some.inj (hNm.symm.trans h3)
  have hP1 : am_P g (am_s0 h n) (n + 1) H1 := by
    refine hP.push h64 (by rw [z1, ea]) (fun q hq => o1 q (by rw [ea]; exact hq)) (fun j hj => am_s0_ne j (by omega)) ?_
    unfold am_at
    rw [hs]
    show H1[g.1 + n]? = _
    rw [← am_a_lt (by omega), e1, hcA]
    congr 2
    funext j
    rcases h5 with q | q | q <;> rw [q] <;> simp [am_s0, am_f, defaultValue]
  have K := kk p l e s m args below meth c g n0 Z H1 locs lsc Rm C0 hR hP1 ⟨Nat.le_trans hS.1 (by rw [z1, ea]; omega), fun x h1 h2 => (o1 x (by rw [ea]; exact Nat.lt_of_lt_of_le h1 hS.1)).trans (hS.2.1 x h1 h2), hS.2.2⟩ ⟨by omega, hb1⟩ hl hq
  rw [r3, ← hz, r4]
  exact K
theorem am_anew {x : Int32} {N idx : Nat} {C0 : String} (hd : decode M.2.1 pc = .ok (.anewarray idx, 3)) (h5 : C0 = RX1 ∨ C0 = RX8) (hs : am_s n = .inl (.object C0, N)) (hc : Cond.classLink M.1.cls idx C0 ∈ am_TB) (hx0 : ¬ x < 0) (hxN : x.toNatClampNeg = N) (hN : N ≤ 6000) (hb1 : n + 1 ≤ n1) (h64 : n + 1 ≤ 64) (kk : am_R E M (pc + 3) ls (.ref n :: st) (am_s0 h n) (n + 1) n1 Q) : am_R E M pc ls (.int x :: st) h n n1 Q := by
  intro p l e s m args below meth c g n0 Z H locs lsc Rm C hR hP hS hn hl hq
  have C1 := C
  obtain ⟨hx, hb, -, -, hown, hts, -, -, -, hSt⟩ := C
  obtain ⟨r1, r2, r3, r4⟩ := am_room hR hn hb1
  have hz : am_z n = N := by unfold am_z; rw [hs]
  have ea : am_a g n = H.size := by rw [am_a_lt (by omega), hP.1]
  have h5' : am_t5 (.object C0) := by rcases h5 with q | q <;> rw [q] <;> simp [am_t5]
  have hover : va_AO C0 s := by rcases h5 with q | q <;> rw [q]; exact hSt.2.2.2.2.2.2.2.1.1; exact hSt.2.2.2.2.2.2.2.1.2
  subst hxN
  refine W.anew hx hb hown (hts _ hc) (va_AO.use hover) rfl hd rfl hx0 (by omega) r1 (by rw [← hz]; exact r2) fun cA kA comp f1 f2 f3 f4 => ?_
  generalize hH1 : H.push ({ cls := cA, slots := Array.replicate x.toNatClampNeg .null, vm := .none } : Cell) = H1
  have z1 : H1.size = H.size + 1 := by rw [← hH1, Array.size_push]
  have e1 : H1[H.size]? = some (arrV cA x.toNatClampNeg (fun _ => .null)) := by rw [← hH1, Array.getElem?_push_size, ← arrV_new]
  have o1 : ∀ q : Nat, q < H.size → H1[q]? = H[q]? := fun q hq => by rw [← hH1, Array.getElem?_push, if_neg (Nat.ne_of_lt hq)]
  have hcA : cA = g.2.2.1 (.object C0) := by
    obtain ⟨_, _, _, _, _, h3⟩ := (am_t5_at hSt h5').2
    exact Option.some.inj (f1.symm.trans h3)
  have hP1 : am_P g (am_s0 h n) (n + 1) H1 := by
    refine hP.push h64 z1 o1 (fun j hj => am_s0_ne j (by omega)) ?_
    unfold am_at
    rw [hs]
    show H1[g.1 + n]? = _
    rw [← am_a_lt (by omega), ea, e1, hcA]
    congr 2
    funext j
    simp [am_s0, am_f, va_rf]
  have K := kk p l e s m args below meth c g n0 Z H1 locs lsc Rm C1 hR hP1 ⟨Nat.le_trans hS.1 (by rw [z1]; omega), fun x h1 h2 => (o1 x (Nat.lt_of_lt_of_le h1 hS.1)).trans (hS.2.1 x h1 h2), hS.2.2⟩ ⟨by omega, hb1⟩ hl hq
  rw [← ea, r3, ← hz, r4]
  exact K
end AM3
