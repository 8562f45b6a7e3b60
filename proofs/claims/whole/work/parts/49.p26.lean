/-! ===== the objects are made ===== -/
section P26
variable {E : Nat × (Nat → Int32)} {M : am_M} {pc : Nat} {ls : List (Option Value)} {st : List Value} {n n1 : Nat} {Q : Option Value → am_H → Prop} {I : Nat → Nat → Int32} {J : Nat → Nat → Int64} {b : Bool}
def rfK : List Nat := [0, 1, 4, 9, 13, 14, 18, 23, 26, 27, 30, 33, 36, 41, 48]
theorem rf_none {j i : Nat} (h : ∀ k ∈ rfK, j ≠ k) : rf b j i = none := by
  unfold rf
  split
  all_goals first | rfl | exact absurd rfl (h _ (by decide))
set_option maxRecDepth 20000 in
theorem wC_k : ∀ j, j < 48 → ((∀ k ∈ rfK, j ≠ k) ∧ ∀ e ∈ wC, e.1 ≠ j) ∨ (am_z j ≤ 29 ∧ ∀ i, i < 29 → rf false j i = rq wC j i) := by decide +kernel
set_option maxRecDepth 20000 in
theorem wM_k : ∀ j, j < 64 → ((∀ k ∈ rfK, j ≠ k) ∧ ∀ e ∈ wM, e.1 ≠ j) ∨ (am_z j ≤ 29 ∧ ∀ i, i < 29 → rf false j i = rq wM j i) := by decide +kernel
theorem wC_ok {j i : Nat} (hj : j < 48) (hi : i < am_z j) : rf false j i = rq wC j i := by
  rcases wC_k j hj with ⟨h1, h2⟩ | ⟨h1, h2⟩
  · rw [rf_none h1, rq_none _ h2]
  · exact h2 i (by omega)
theorem wM_ok {j i : Nat} (hj : j < 64) (hi : i < am_z j) : rf false j i = rq wM j i := by
  rcases wM_k j hj with ⟨h1, h2⟩ | ⟨h1, h2⟩
  · rw [rf_none h1, rq_none _ h2]
  · exact h2 i (by omega)
theorem hp_of_C (k : am_R E M pc ls st (hp I J false) 48 n1 Q) : am_R E M pc ls st (cq I J wC) 48 n1 Q :=
  am_R.heq k (fun j hj i hi => ⟨rfl, rfl, wC_ok hj hi⟩)
theorem C_of_hp (k : am_R E M pc ls st (cq I J wC) 48 n1 Q) : am_R E M pc ls st (hp I J false) 48 n1 Q :=
  am_R.heq k (fun j hj i hi => ⟨rfl, rfl, (wC_ok hj hi).symm⟩)
theorem hp_of_M (k : am_R E M pc ls st (hp I J false) 64 n1 Q) : am_R E M pc ls st (cq I J wM) 64 n1 Q :=
  am_R.heq k (fun j hj i hi => ⟨rfl, rfl, wM_ok hj hi⟩)
theorem bX9_init_178 {E : Nat × (Nat → Int32)} {I : Nat → Nat → Int32} {J : Nat → Nat → Int64} {b : Bool}  {Q : Option Value → am_H → Prop}  (wp : am_R E mX2_open 0 [some (.ref 4), some (.int 4), none] [] (hp I J b) 48 48 (fun r h' => am_R E mX9_init 186 [some (.ref 0)] (r.toList ++ []) h' 48 48 Q)) : am_R E mX9_init 178 [some (.ref 0)] [] (hp I J b) 48 48 Q := by
  refine am_aload_n rfl rfl dX9_init_178 ?_
  refine am_getA (r := 4) dX9_init_179 flX9_19 (Or.inl ⟨_, rfl⟩) rfl (by decide) rfl ?_
  refine am_iconst 4 rfl dX9_init_182 ?_
  refine am_invV (ci := 1) (As := [.int 4]) (lsZ := [some (.ref 4), some (.int 4), none]) (st := []) dX9_init_183 hX2_open lkX9_76 ⟨by decide, by decide⟩ (by decide) rfl (by decide) rfl rfl rfl (Nat.le_of_ble_eq_true rfl) rfl (Nat.le_of_ble_eq_true rfl) ⟨Nat.le_refl _, Nat.le_refl _⟩ (am_R.mono wp (fun r h' q => am_R.forget q ⟨rfl, trivial⟩))
theorem bX9_init_186 {E : Nat × (Nat → Int32)} {I : Nat → Nat → Int32} {J : Nat → Nat → Int64} {b : Bool}  {Q : Option Value → am_H → Prop}  (wp : am_R E mX1_begin 0 [some (.ref 9), some (.ref 8)] [] (hp I J b) 48 48 (fun r h' => am_R E mX9_init 200 [some (.ref 0)] (r.toList ++ []) h' 48 48 Q)) : am_R E mX9_init 186 [some (.ref 0)] [] (hp I J b) 48 48 Q := by
  refine am_aload_n rfl rfl dX9_init_186 ?_
  refine am_getA (r := 9) dX9_init_187 flX9_26 (Or.inl ⟨_, rfl⟩) rfl (by decide) rfl ?_
  refine am_aload_n rfl rfl dX9_init_190 ?_
  refine am_getA (r := 4) dX9_init_191 flX9_19 (Or.inl ⟨_, rfl⟩) rfl (by decide) rfl ?_
  refine am_getA (r := 8) dX9_init_194 flX9_80 (Or.inr ⟨_, rfl⟩) rfl (by decide) rfl ?_
  refine am_invV (ci := 0) (As := [.ref 8]) (lsZ := [some (.ref 9), some (.ref 8)]) (st := []) dX9_init_197 hX1_begin lkX9_83 ⟨by decide, by decide⟩ (by decide) rfl (by decide) rfl rfl rfl (Nat.le_of_ble_eq_true rfl) rfl (Nat.le_of_ble_eq_true rfl) ⟨Nat.le_refl _, Nat.le_refl _⟩ (am_R.mono wp (fun r h' q => am_R.forget q ⟨rfl, trivial⟩))
theorem bX9_init_200 {E : Nat × (Nat → Int32)} {I : Nat → Nat → Int32} {J : Nat → Nat → Int64} {b : Bool}  {Q : Option Value → am_H → Prop}  (wp : am_R E mX5_look 0 [some (.ref 23), some (.ref 11), none, none, none] [] (hp I J b) 48 48 (fun r h' => am_R E mX9_init 214 [none] (r.toList ++ []) h' 48 48 Q)) : am_R E mX9_init 200 [some (.ref 0)] [] (hp I J b) 48 48 Q := by
  refine am_aload_n rfl rfl dX9_init_200 ?_
  refine am_getA (r := 23) dX9_init_201 flX9_43 (Or.inl ⟨_, rfl⟩) rfl (by decide) rfl ?_
  refine am_aload_n rfl rfl dX9_init_204 ?_
  refine am_getA (r := 9) dX9_init_205 flX9_26 (Or.inl ⟨_, rfl⟩) rfl (by decide) rfl ?_
  refine am_getA (r := 11) dX9_init_208 flX9_87 (Or.inr ⟨_, rfl⟩) rfl (by decide) rfl ?_
  refine am_invV (ci := 3) (As := [.ref 11]) (lsZ := [some (.ref 23), some (.ref 11), none, none, none]) (st := []) dX9_init_211 hX5_look lkX9_90 ⟨by decide, by decide⟩ (by decide) rfl (by decide) rfl rfl rfl (Nat.le_of_ble_eq_true rfl) rfl (Nat.le_of_ble_eq_true rfl) ⟨Nat.le_refl _, Nat.le_refl _⟩ (am_R.mono wp (fun r h' q => am_R.forget q trivial))
theorem bX9_init_214 {E : Nat × (Nat → Int32)} {I : Nat → Nat → Int32} {J : Nat → Nat → Int64} {b : Bool}  {Q : Option Value → am_H → Prop}  (wp : Q none (hp I J b)) : am_R E mX9_init 214 [none] [] (hp I J b) 48 48 Q := by
  exact am_vret dX9_init_214 rfl wp
theorem bX10_init_138 {E : Nat × (Nat → Int32)} {I : Nat → Nat → Int32} {J : Nat → Nat → Int64} {b : Bool}  {Q : Option Value → am_H → Prop}  (wp : am_R E mX10_plain 0 [some (.ref 48), none] [] (hp I J b) 64 64 (fun r h' => am_R E mX10_init 142 [some (.ref 48)] (r.toList ++ []) h' 64 64 Q)) : am_R E mX10_init 138 [some (.ref 48)] [] (hp I J b) 64 64 Q := by
  refine am_aload_n rfl rfl dX10_init_138 ?_
  refine am_invV (ci := 8) (As := []) (lsZ := [some (.ref 48), none]) (st := []) dX10_init_139 hX10_plain lkX10_63 ⟨by decide, by decide⟩ (by decide) rfl (by decide) rfl rfl rfl (Nat.le_of_ble_eq_true rfl) rfl (Nat.le_of_ble_eq_true rfl) ⟨Nat.le_refl _, Nat.le_refl _⟩ (am_R.mono wp (fun r h' q => am_R.forget q ⟨rfl, trivial⟩))
theorem bX10_init_142 {E : Nat × (Nat → Int32)} {I : Nat → Nat → Int32} {J : Nat → Nat → Int64} {b : Bool}  {Q : Option Value → am_H → Prop}  (wp : am_R E mX10_begin 0 [some (.ref 48), none] [] (hp I J b) 64 64 (fun r h' => am_R E mX10_init 146 [none] (r.toList ++ []) h' 64 64 Q)) : am_R E mX10_init 142 [some (.ref 48)] [] (hp I J b) 64 64 Q := by
  refine am_aload_n rfl rfl dX10_init_142 ?_
  refine am_invV (ci := 8) (As := []) (lsZ := [some (.ref 48), none]) (st := []) dX10_init_143 hX10_begin lkX10_66 ⟨by decide, by decide⟩ (by decide) rfl (by decide) rfl rfl rfl (Nat.le_of_ble_eq_true rfl) rfl (Nat.le_of_ble_eq_true rfl) ⟨Nat.le_refl _, Nat.le_refl _⟩ (am_R.mono wp (fun r h' q => am_R.forget q trivial))
theorem bX10_init_146 {E : Nat × (Nat → Int32)} {I : Nat → Nat → Int32} {J : Nat → Nat → Int64} {b : Bool}  {Q : Option Value → am_H → Prop}  (wp : Q none (hp I J b)) : am_R E mX10_init 146 [none] [] (hp I J b) 64 64 Q := by
  exact am_vret dX10_init_146 rfl wp
theorem tX9_init (k : ∀ I1, Hc I1 (opn 4) → (∀ a, 48 ≤ a → ∀ i, I1 a i = 0) → Q none (hp I1 zJ false)) : am_R E mX9_init 0 [some (.ref 0)] [] (cq zI zJ []) 1 48 Q := by
  refine wX9_init (hp_of_C (bX9_init_178 (tX2_open (mo := 4) (by decide) rfl (fun I1 hR hs => bX9_init_186 ?_))))
  refine bX1_begin_0 (by decide) (bX9_init_200 ?_)
  refine tX5_look (v := 4) (by decide) hR.mo (by decide) (fun m hm => ?_) (fun f hf => bX9_init_214 ?_)
  · show va_cpy (I1 8) (I1 11) 0 0 7 m = -1 ∨ ∃ e, e < 4 ∧ va_cpy (I1 8) (I1 11) 0 0 7 m = nI e
    rw [cpy_o (by omega)]
    exact CR.di (s := opn 4) (Gd.op (by decide)) hR m (by omega)
  · have z : ∀ a, (a < 4 ∨ 8 < a) → I1 a = iC a := hs
    refine k _ ⟨hR.cg (fun a h1 h2 => ?_), ?_, rfl, rfl, fun m hm => ?_, ⟨?_, ?_⟩, ⟨?_, ?_, ?_, ?_, ?_, ?_⟩, fun m hm d hd => hf m hm d hd⟩ (fun a ha i => ?_)
    · rw [u1_n _ _ (by omega), u1_n _ _ (by omega), u2_n _ _ _ (by omega), u2_n _ _ _ (by omega)]
    · show I1 1 1 = 0
      rw [z 1 (by decide)]; rfl
    · show va_cpy (I1 8) (I1 11) 0 0 7 m = I1 8 m
      exact cpy_o hm
    · show I1 22 0 = 0
      rw [z 22 (by decide)]; rfl
    · show I1 22 1 = 0
      rw [z 22 (by decide)]; rfl
    · show I1 27 1 = 0
      rw [z 27 (by decide)]; rfl
    · show I1 27 3 = 0
      rw [z 27 (by decide)]; rfl
    · show I1 30 1 = 2
      rw [z 30 (by decide)]; rfl
    · show I1 30 3 = 0
      rw [z 30 (by decide)]; rfl
    · show I1 33 1 = 3
      rw [z 33 (by decide)]; rfl
    · show I1 33 3 = 0
      rw [z 33 (by decide)]; rfl
    · rw [u1_n _ _ (by omega), u1_n _ _ (by omega), u2_n _ _ _ (by omega), u2_n _ _ _ (by omega), z a (by omega)]
      unfold iC
      rw [u2_n _ _ _ (by omega), u2_n _ _ _ (by omega), u2_n _ _ _ (by omega)]
      rfl
theorem tX10_init {s : HT} (hs : s = opn 4) (hc : Hc I s) (hI : ∀ a, 48 ≤ a → ∀ i, I a i = 0) (hJ : ∀ a, 48 ≤ a → ∀ i, J a i = 0) (k : ∀ I1, Inv I1 4 → Q none (hp I1 J false)) : am_R E mX10_init 0 [some (.ref 48)] [] (cq I J wC) 49 64 Q := by
  subst hs
  refine wX10_init hI hJ (hp_of_M (bX10_init_138 (tX10_plain (fun I1 p1 p2 p3 p4 p5 => bX10_init_142 (tX10_begin (fun I2 b1 b2 b3 b4 => bX10_init_146 (k I2 ?_)))))))
  have fr : ∀ a, a < 48 → I2 a = I a := fun a ha => by
    rw [b1 a (by omega), p4 a (by omega) (by omega) (by omega) (by omega) (by omega), u2_n _ _ _ (by omega), u2_n _ _ _ (by omega)]
  refine Inv.new (s := opn 4) (Gd.op (by decide)) ?_ ⟨⟨?_, ?_, fun j hj => ?_, fun j hj => ?_, fun d hd => ?_, fun m hm => ?_⟩, ?_, b2, b3, fun m hm => ?_, ?_, ?_⟩
  · obtain ⟨e1, e2, e3, e4, e5, e6, e7, e8⟩ := hc
    refine ⟨e1.cg (fun a h1 h2 => fr a (by omega)), ?_, ?_, ?_, ?_, ?_, ?_, ?_⟩
    · rw [fr 1 (by decide)]; exact e2
    · rw [fr 9 (by decide)]; exact e3
    · rw [fr 9 (by decide)]; exact e4
    · rw [fr 11 (by decide), fr 8 (by decide)]; exact e5
    · rw [fr 22 (by decide)]; exact e6
    · rw [fr 27 (by decide), fr 30 (by decide), fr 33 (by decide)]; exact e7
    · unfold mf at e8 ⊢
      rw [fr 24 (by decide), fr 5 (by decide), fr 11 (by decide), fr 7 (by decide)]; exact e8
  · rw [b1 48 (by decide), p5 0 (by decide), u2_at, if_neg (by decide), u2_at, if_pos rfl]; rfl
  · rw [b1 48 (by decide), p1]
  · rw [b1 49 (by decide)]; exact (p2 j hj).1
  · rw [b1 50 (by decide)]; exact (p2 j hj).2
  · rw [b1 51 (by decide)]; exact (p3 d hd).1
  · rw [b1 52 (by decide)]; exact (p3 m hm).2
  · rw [b1 48 (by decide), p5 6 (by decide), u2_at, if_neg (by decide), u2_at, if_neg (by decide)]; exact hI 48 (by decide) 6
  · rw [b4 m hm, b1 52 (by decide)]
  · rw [b1 57 (by decide), p4 57 (by decide) (by decide) (by decide) (by decide) (by decide), u2_n _ _ _ (by decide), u2_n _ _ _ (by decide)]; exact hI 57 (by decide) 0
  · rw [b1 57 (by decide), p4 57 (by decide) (by decide) (by decide) (by decide) (by decide), u2_n _ _ _ (by decide), u2_n _ _ _ (by decide)]; exact hI 57 (by decide) 1
end P26
