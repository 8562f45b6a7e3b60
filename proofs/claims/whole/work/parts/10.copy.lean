/-! ===== System.arraycopy of int rows ===== -/
section AM5
variable {E : Nat × (Nat → Int32)} {M : am_M} {pc : Nat} {ls : List (Option Value)} {st : List Value} {h : am_H} {n n1 : Nat} {Q : Option Value → am_H → Prop}
theorem am_copy {idx a0 a1 N0 N1 : Nat} {sp dp x : Int32} (hd : decode M.2.1 pc = .ok (.invokestatic idx, 3)) (hk : Cond.methodLink M.1.cls idx arraycopyName ∈ am_TB) (hnat : Cond.native arraycopyName ∈ am_TB) (hstat : Cond.static arraycopyName ∈ am_TB) (hini : Cond.initialized "java/lang/System" ∈ am_TB) (hs0 : am_s a0 = .inl (.int, N0)) (hs1 : am_s a1 = .inl (.int, N1)) (hk0 : a0 < n) (hk1 : a1 < n) (h1 : ¬ sp < 0) (h2 : ¬ dp < 0) (h3 : ¬ x < 0) (h4 : sp.toNatClampNeg + x.toNatClampNeg ≤ N0) (h5 : dp.toNatClampNeg + x.toNatClampNeg ≤ N1) (hst : (st.map fun v => v.category).sum ≤ 8) (hF : 1 ≤ M.2.2.2.2.1 ∧ 8 + (nativeFrameWords "java/lang/System" "arraycopy" 5 + 11) ≤ M.2.2.2.2.2) (kk : am_R E M (pc + 3) ls st (am_sR h a1 (va_cpy (h.1 a0) (h.1 a1) sp.toNatClampNeg dp.toNatClampNeg x.toNatClampNeg)) n n1 Q) : am_R E M pc ls (.int x :: .int dp :: .ref a1 :: .int sp :: .ref a0 :: st) h n n1 Q := by
  intro p l e s m args below meth c g n0 Z H locs lsc Rm C hR hP hS hn hl hq
  have C0 := C
  obtain ⟨hx, hb, -, hml, hown, hts, -, -, hrm, hSt⟩ := C
  have nn : ∀ z : Int32, ¬ z < 0 → z.toInt = (z.toNatClampNeg : Int) := by
    intro z hz
    have hz0 : (0 : Int) ≤ z.toInt := by
      have := Int32.not_lt.mp hz
      simpa using Int32.le_iff_toInt_le.mp this
    show z.toInt = ((z.toInt.toNat : Nat) : Int)
    omega
  intro T hT X
  have hc0 : H[am_a g a0]? = some (arrV (g.2.2.1 .int) N0 (fun j => .int (h.1 a0 j))) := hP.arr hk0 hs0
  have hc1 : H[am_a g a1]? = some (arrV (g.2.2.1 .int) N1 (fun j => .int (h.1 a1 j))) := hP.arr hk1 hs1
  obtain ⟨-, k0, hk0', cm0, hkk0⟩ := (am_t5_at hSt (Or.inl rfl)).1 N0 (fun j => .int (h.1 a0 j))
  obtain ⟨-, k1, hk1', cm1, hkk1⟩ := (am_t5_at hSt (Or.inl rfl)).1 N1 (fun j => .int (h.1 a1 j))
  obtain ⟨vm', X', step⟩ := X.arraycopy hx hown (hts _ hk) (hts _ hnat) (hts _ hstat) (hts _ hini) (src := am_a g a0) (dst := am_a g a1) (cs := arrV (g.2.2.1 .int) N0 (fun j => .int (h.1 a0 j))) (cd := arrV (g.2.2.1 .int) N1 (fun j => .int (h.1 a1 j))) (srcPos := sp) (destPos := dp) (n := x) (by rw [hT]; exact hc0) (by rw [hT]; exact hc1)
    (fun _ h => by cases h) (fun _ h => by cases h) (fun h => by cases h) (fun h => by cases h) hk0' hk1' hkk0 hkk1 (by simp [refKind]) h1 h2 h3
    (by rw [nn sp h1, nn x h3, arrV_size]; omega)
    (by rw [nn dp h2, nn x h3, arrV_size]; omega)
    (fun vm₁ _ i hi => by
      have e : (arrV (g.2.2.1 .int) N0 (fun j => .int (h.1 a0 j))).slots.getD (sp.toNatClampNeg + i) .null = .int (h.1 a0 (sp.toNatClampNeg + i)) := by
        rw [Array.getD_eq_getD_getElem?, arrV_read _ _ (by omega)]
        rfl
      refine ⟨?_, ?_⟩
      · rw [e]
        rfl
      · rw [e]
        exact trivial)
    (g := F0 m pc lsc (.int x :: .int dp :: .ref (am_a g a1) :: .int sp :: .ref (am_a g a0) :: st.map (am_v g))) rfl (by rw [hml]; exact hl.1) (rest := st.map (am_v g)) rfl (by rw [hb]; exact hd) (Nat.le_trans hF.1 hrm.1) (by
      have e3 := am_catm g st
      have h6 := hF.2
      have h7 := hrm.2
      show 2 * 0 + _ + _ ≤ _
      omega)
  have e1 : copied (arrV (g.2.2.1 .int) N0 (fun j => .int (h.1 a0 j))) (arrV (g.2.2.1 .int) N1 (fun j => .int (h.1 a1 j))) sp dp x = arrV (g.2.2.1 .int) N1 (fun j => .int (va_cpy (h.1 a0) (h.1 a1) sp.toNatClampNeg dp.toNatClampNeg x.toNatClampNeg j)) := va_copied (fun z => .int z) _ _ (h.1 a0) (h.1 a1) h4
  rw [e1] at X' step
  have hlt : am_a g a1 < H.size := (Array.getElem?_eq_some_iff.mp hc1).1
  generalize hcv : arrV (g.2.2.1 .int) N1 (fun j => .int (va_cpy (h.1 a0) (h.1 a1) sp.toNatClampNeg dp.toNatClampNeg x.toNatClampNeg j)) = cv at X' step
  have hheap : ((T.setVm vm').setCell (am_a g a1) cv).heap = H.setIfInBounds (am_a g a1) cv := by rw [← hT]; rfl
  have oq : ∀ q : Nat, q ≠ am_a g a1 → (H.setIfInBounds (am_a g a1) cv)[q]? = H[q]? := fun q hq => by simp [Array.getElem?_setIfInBounds, Ne.symm hq]
  have hself : (H.setIfInBounds (am_a g a1) cv)[am_a g a1]? = some cv := by simp [Array.getElem?_setIfInBounds, hlt]
  have hA1 : am_A g (am_a g a1) := by rw [hP.a hk1]; exact Nat.le_add_right _ _
  have hP1 : am_P g (am_sR h a1 (va_cpy (h.1 a0) (h.1 a1) sp.toNatClampNeg dp.toNatClampNeg x.toNatClampNeg)) n (H.setIfInBounds (am_a g a1) cv) := by
    refine hP.put hk1 (by simp) oq (fun j e => am_sR_ne j e) ?_
    unfold am_at
    rw [hs1]
    show (H.setIfInBounds (am_a g a1) cv)[g.1 + a1]? = _
    rw [← hP.a hk1, hself, ← hcv]
    congr 2
    funext j
    simp [am_f, am_sR]
  obtain ⟨t, b1, b2⟩ := kk p l e s m args below meth c g n0 Z _ _ lsc Rm C0 hR hP1 ⟨by simp; exact hS.1, fun q g1 g2 => by
      rw [oq q (fun e => g2 (by rw [e]; exact hA1))]
      exact hS.2.1 q g1 g2, fun q hq => by
      rcases List.mem_append.mp hq with h | h
      · exact hS.2.2 q h
      · obtain ⟨z, -, hz⟩ := List.mem_map.mp h
        rw [← hz]
        exact hA1⟩ hn hl hq _ hheap X'
  exact ⟨t, step t b1, b2⟩
end AM5
