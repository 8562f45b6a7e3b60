/-! ===== pairs: keep, back ===== -/
section P7
variable {E : Nat × (Nat → Int32)} {I I' : Nat → Nat → Int32} {J : Nat → Nat → Int64} {b : Bool} {n : Nat} {Q : Option Value → am_H → Prop}
theorem Dw.cg {f g : Nat → Int32} (h : Dw g n) (n7 : n ≤ 7) (e : ∀ j, j < 128 → f j = g j) : Dw f n := by
  obtain ⟨h1, h2, h3, D, h4, h5⟩ := h
  refine ⟨by rw [e 0 (by omega)]; exact h1, fun q => ?_, fun m hm => by rw [e (8 + m) (by omega)]; exact h3 m hm, D, h4, by rw [e 15 (by omega)]; exact h5⟩
  rw [e 0 (by omega)] at q
  obtain ⟨p, p1, p2⟩ := h2 q
  exact ⟨p, fun m hm => by rw [e (1 + m) (by omega)]; exact p1 m hm, p2⟩
theorem Dr.cg {o t y k f o' t' y' k' g : Nat → Int32} (h : Dr o t y k g n) (n7 : n ≤ 7) (e0 : o' 0 = o 0) (e3 : o' 3 = o 3) (et : ∀ m, m < 7 → t' m = t m) (ey : ∀ m, m < 7 → y' m = y m) (ek : ∀ m, m < 112 → k' m = k m) (e : ∀ j, j < 128 → f j = g j) : Dr o' t' y' k' f n := by
  obtain ⟨h1, h2, h3, h4, h5⟩ := h
  refine ⟨by rw [e0, e 0 (by omega)]; exact h1, by rw [e3, e 15 (by omega)]; exact h2, fun q m hm => ?_, fun m hm => ?_, fun D hD q i hi m hm => ?_⟩
  · rw [e 0 (by omega)] at q
    rw [et m (by omega), e (1 + m) (by omega)]; exact h3 q m hm
  · rw [ey m (by omega), e (8 + m) (by omega)]; exact h4 m hm
  · rw [e 15 (by omega)] at q
    rw [ek (7 * i + m) (by omega), e (16 + 7 * i + m) (by omega)]; exact h5 D hD q i hi m hm
theorem cpy_at {f g : Nat → Int32} {s d k j : Nat} (h : j < k) : va_cpy f g s d k (d + j) = f (s + j) := by
  unfold va_cpy; rw [if_pos (by omega), show s + (d + j - d) = s + j by omega]
theorem cpy_o {f g : Nat → Int32} {k j : Nat} (h : j < k) : va_cpy f g 0 0 k j = f j := by
  unfold va_cpy; rw [if_pos (by omega), show 0 + (j - 0) = j by omega]
theorem cpy_x {f g : Nat → Int32} {s d k j : Nat} (h : j < d ∨ d + k ≤ j) : va_cpy f g s d k j = g j := by
  unfold va_cpy; rw [if_neg (by omega)]
theorem bX10_copyA_0 {E : Nat × (Nat → Int32)} {I : Nat → Nat → Int32} {J : Nat → Nat → Int64} {b : Bool} {a1 : Int32} {a3 : Int32} {Q : Option Value → am_H → Prop}  (wp : am_R E mX10_copy 3 [some (.ref 55), some (.int a1), some (.ref 56), some (.int a3), some (.int 0)] [] (hp I J b) 64 64 Q) : am_R E mX10_copy 0 [some (.ref 55), some (.int a1), some (.ref 56), some (.int a3), none] [] (hp I J b) 64 64 Q := by
  refine am_iconst 0 rfl dX10_copy_0 ?_
  refine am_istore (ls' := [some (.ref 55), some (.int a1), some (.ref 56), some (.int a3), some (.int 0)]) (by decide) rfl rfl dX10_copy_1 ?_
  exact am_R.forget wp ⟨rfl, ⟨rfl, ⟨rfl, ⟨rfl, ⟨rfl, trivial⟩⟩⟩⟩⟩
theorem bX10_copyA_3 {E : Nat × (Nat → Int32)} {I : Nat → Nat → Int32} {J : Nat → Nat → Int64} {b : Bool} {a1 : Int32} {a3 : Int32} {a4 : Int32} {Q : Option Value → am_H → Prop}  (wp : ((128 ≤ a4 → Q none (hp I J b)) ∧ (¬ 128 ≤ a4 → ∃ j2, (a1 + a4) = nI j2 ∧ j2 < 128 ∧ ∃ j3, (a3 + a4) = nI j3 ∧ j3 < 256 ∧ am_R E mX10_copy 3 [some (.ref 55), some (.int a1), some (.ref 56), some (.int a3), some (.int (a4 + 1))] [] (hp (u2 I 56 j3 (I 55 j2)) J b) 64 64 Q))) : am_R E mX10_copy 3 [some (.ref 55), some (.int a1), some (.ref 56), some (.int a3), some (.int a4)] [] (hp I J b) 64 64 Q := by
  refine am_iload rfl dX10_copy_3 ?_
  refine am_sipush 128 rfl dX10_copy_5 ?_
  refine am_icmp_ge dX10_copy_8 (tgt := 29) rfl (fun hc1 => ?_) (fun hc1 => ?_)
  · have wp := wp.1 hc1
    exact am_vret dX10_copy_29 rfl wp
  · have wp := wp.2 hc1
    refine am_aload_n rfl rfl dX10_copy_11 ?_
    refine am_iload_n rfl rfl dX10_copy_12 ?_
    refine am_iload rfl dX10_copy_13 ?_
    refine am_iadd dX10_copy_15 ?_
    refine am_aload_n rfl rfl dX10_copy_16 ?_
    refine am_iload_n rfl rfl dX10_copy_17 ?_
    refine am_iload rfl dX10_copy_18 ?_
    refine am_iadd dX10_copy_20 ?_
    obtain ⟨j2, e2, w2, wp⟩ := wp
    refine am_ialdN (j := j2) dX10_copy_21 rfl (by decide) e2 w2 (by decide) ?_
    obtain ⟨j3, e3, w3, wp⟩ := wp
    refine am_iastN (j := j3) dX10_copy_22 rfl (by decide) e3 w3 (by decide) ?_
    refine am_iinc (ls' := [some (.ref 55), some (.int a1), some (.ref 56), some (.int a3), some (.int (a4 + 1))]) (by decide) rfl rfl rfl dX10_copy_23 ?_
    refine am_goto dX10_copy_26 (tgt := 3) rfl ?_
    exact am_R.forget wp ⟨rfl, ⟨rfl, ⟨rfl, ⟨rfl, ⟨rfl, trivial⟩⟩⟩⟩⟩
theorem bX10_copyB_0 {E : Nat × (Nat → Int32)} {I : Nat → Nat → Int32} {J : Nat → Nat → Int64} {b : Bool} {a1 : Int32} {a3 : Int32} {Q : Option Value → am_H → Prop}  (wp : am_R E mX10_copy 3 [some (.ref 56), some (.int a1), some (.ref 55), some (.int a3), some (.int 0)] [] (hp I J b) 64 64 Q) : am_R E mX10_copy 0 [some (.ref 56), some (.int a1), some (.ref 55), some (.int a3), none] [] (hp I J b) 64 64 Q := by
  refine am_iconst 0 rfl dX10_copy_0 ?_
  refine am_istore (ls' := [some (.ref 56), some (.int a1), some (.ref 55), some (.int a3), some (.int 0)]) (by decide) rfl rfl dX10_copy_1 ?_
  exact am_R.forget wp ⟨rfl, ⟨rfl, ⟨rfl, ⟨rfl, ⟨rfl, trivial⟩⟩⟩⟩⟩
theorem bX10_copyB_3 {E : Nat × (Nat → Int32)} {I : Nat → Nat → Int32} {J : Nat → Nat → Int64} {b : Bool} {a1 : Int32} {a3 : Int32} {a4 : Int32} {Q : Option Value → am_H → Prop}  (wp : ((128 ≤ a4 → Q none (hp I J b)) ∧ (¬ 128 ≤ a4 → ∃ j2, (a1 + a4) = nI j2 ∧ j2 < 256 ∧ ∃ j3, (a3 + a4) = nI j3 ∧ j3 < 128 ∧ am_R E mX10_copy 3 [some (.ref 56), some (.int a1), some (.ref 55), some (.int a3), some (.int (a4 + 1))] [] (hp (u2 I 55 j3 (I 56 j2)) J b) 64 64 Q))) : am_R E mX10_copy 3 [some (.ref 56), some (.int a1), some (.ref 55), some (.int a3), some (.int a4)] [] (hp I J b) 64 64 Q := by
  refine am_iload rfl dX10_copy_3 ?_
  refine am_sipush 128 rfl dX10_copy_5 ?_
  refine am_icmp_ge dX10_copy_8 (tgt := 29) rfl (fun hc1 => ?_) (fun hc1 => ?_)
  · have wp := wp.1 hc1
    exact am_vret dX10_copy_29 rfl wp
  · have wp := wp.2 hc1
    refine am_aload_n rfl rfl dX10_copy_11 ?_
    refine am_iload_n rfl rfl dX10_copy_12 ?_
    refine am_iload rfl dX10_copy_13 ?_
    refine am_iadd dX10_copy_15 ?_
    refine am_aload_n rfl rfl dX10_copy_16 ?_
    refine am_iload_n rfl rfl dX10_copy_17 ?_
    refine am_iload rfl dX10_copy_18 ?_
    refine am_iadd dX10_copy_20 ?_
    obtain ⟨j2, e2, w2, wp⟩ := wp
    refine am_ialdN (j := j2) dX10_copy_21 rfl (by decide) e2 w2 (by decide) ?_
    obtain ⟨j3, e3, w3, wp⟩ := wp
    refine am_iastN (j := j3) dX10_copy_22 rfl (by decide) e3 w3 (by decide) ?_
    refine am_iinc (ls' := [some (.ref 56), some (.int a1), some (.ref 55), some (.int a3), some (.int (a4 + 1))]) (by decide) rfl rfl rfl dX10_copy_23 ?_
    refine am_goto dX10_copy_26 (tgt := 3) rfl ?_
    exact am_R.forget wp ⟨rfl, ⟨rfl, ⟨rfl, ⟨rfl, ⟨rfl, trivial⟩⟩⟩⟩⟩
theorem tX10_copyA {a3 : Int32} {s : Nat} (es : a3 = nI s) (hs : s ≤ 128) (k : Q none (hp (u1 I 56 (va_cpy (I 55) (I 56) 0 s 128)) J b)) : am_R E mX10_copy 0 [some (.ref 55), some (.int 0), some (.ref 56), some (.int a3), none] [] (hp I J b) 64 64 Q := by
  subst es
  have := lp_up (n := 128) (P := fun m => am_R E mX10_copy 3 [some (.ref 55), some (.int 0), some (.ref 56), some (.int (nI s)), some (.int (nI m))] [] (hp (u1 I 56 (va_cpy (I 55) (I 56) 0 s m)) J b) 64 64 Q) ?_ ?_
  · rw [cpy_0, u1_self] at this
    exact bX10_copyA_0 this
  · exact bX10_copyA_3 (le_br (n := 128) rfl rfl (by omega) (by omega) (fun _ => k) (fun h => by omega))
  · intro m hm ih
    refine bX10_copyA_3 (le_br (n := 128) rfl rfl (by omega) (by omega) (fun h => by omega) (fun _ => ⟨m, by rw [show (0 : Int32) = nI 0 from rfl, nI_add, Nat.zero_add], by omega, s + m, nI_add _ _, by omega, ?_⟩))
    rw [n1, u2_u1, u1_n _ _ (by decide)]
    have e := cpy_s (I 55) (I 56) 0 s m
    rw [Nat.zero_add] at e
    rw [e]; exact ih
theorem tX10_copyB {a1 : Int32} {s : Nat} (es : a1 = nI s) (hs : s ≤ 128) (k : Q none (hp (u1 I 55 (va_cpy (I 56) (I 55) s 0 128)) J b)) : am_R E mX10_copy 0 [some (.ref 56), some (.int a1), some (.ref 55), some (.int 0), none] [] (hp I J b) 64 64 Q := by
  subst es
  have := lp_up (n := 128) (P := fun m => am_R E mX10_copy 3 [some (.ref 56), some (.int (nI s)), some (.ref 55), some (.int 0), some (.int (nI m))] [] (hp (u1 I 55 (va_cpy (I 56) (I 55) s 0 m)) J b) 64 64 Q) ?_ ?_
  · rw [cpy_0, u1_self] at this
    exact bX10_copyB_0 this
  · exact bX10_copyB_3 (le_br (n := 128) rfl rfl (by omega) (by omega) (fun _ => k) (fun h => by omega))
  · intro m hm ih
    refine bX10_copyB_3 (le_br (n := 128) rfl rfl (by omega) (by omega) (fun h => by omega) (fun _ => ⟨s + m, nI_add _ _, by omega, m, by rw [show (0 : Int32) = nI 0 from rfl, nI_add, Nat.zero_add], by omega, ?_⟩))
    rw [n1, u2_u1, u1_n _ _ (by decide)]
    have e := cpy_s (I 56) (I 55) s 0 m
    rw [Nat.zero_add] at e
    rw [e]; exact ih
/-- all but the images is told as before -/
def Sk (I I' : Nat → Nat → Int32) : Prop := (I' 1 1 = I 1 1 ∧ I' 2 = I 2 ∧ I' 48 6 = I 48 6 ∧ I' 53 = I 53) ∧ (I' 4 = I 4 ∧ I' 5 = I 5 ∧ I' 6 = I 6 ∧ I' 7 = I 7 ∧ I' 8 = I 8 ∧ I' 9 = I 9 ∧ I' 10 = I 10 ∧ I' 11 = I 11 ∧ I' 12 = I 12) ∧ (I' 24 = I 24 ∧ I' 27 = I 27 ∧ I' 29 = I 29 ∧ I' 30 = I 30 ∧ I' 32 = I 32 ∧ I' 33 = I 33 ∧ I' 35 = I 35) ∧ (I' 48 0 = I 48 0 ∧ I' 48 1 = I 48 1 ∧ I' 49 = I 49 ∧ I' 50 = I 50 ∧ I' 51 = I 51 ∧ I' 52 = I 52 ∧ I' 55 = I 55)
theorem Inv.kept (h : Inv I n) (s : Sk I I') (d0 : I' 57 0 = 0 ∨ (I' 57 0 = 1 ∧ Dw (fun j => I' 56 j) n)) (d1 : I' 57 1 = 0 ∨ (I' 57 1 = 1 ∧ Dw (fun j => I' 56 (128 + j)) n)) (e22 : I' 22 0 = I' 57 0 ∧ I' 22 1 = I' 57 1) (r0 : I' 57 0 = 1 → Dr (I' 14) (I' 15) (I' 16) (I' 17) (fun j => I' 56 j) n) (r1 : I' 57 1 = 1 → Dr (I' 18) (I' 19) (I' 20) (I' 21) (fun j => I' 56 (128 + j)) n) : Inv I' n := by
  obtain ⟨⟨t1, t2, t3, t4⟩, ⟨c4, c5, c6, c7, c8, c9, c10, c11, c12⟩, ⟨c24, c27, c29, c30, c32, c33, c35⟩, ⟨m0, m1, m49, m50, m51, m52, m55⟩⟩ := s
  obtain ⟨⟨a1, a2, a3, a4, a5, a6, a7, -⟩, b1, b2, b3, b4, b5, b6, -, -, -, b10, b11, b12⟩ := h
  have m55' : ∀ m, I' 55 (8 + m) = I 55 (8 + m) := fun m => by rw [m55]
  refine ⟨⟨?_, ?_, ?_, ?_, ?_, ?_, ?_, d0, d1⟩, ?_, ?_, ?_, ?_, ?_, ?_, e22, r0, r1, ?_, ?_, ?_⟩
  · unfold Nn at a1 ⊢; rw [m0]; exact a1
  · rw [m1]; exact a2
  · rw [m49]; exact a3
  · unfold Lk at a4 ⊢; rw [m50]; exact a4
  · rw [m51]; exact a5
  · rw [m52]; exact a6
  · rw [m55]; exact a7
  · rw [CH_eq c4 c5 c6 c24 m49 m50 m51 m55']; exact b1
  · rw [c4, m1]; exact b2
  · rw [c7, m51]; exact b3
  · rw [c8, m52]; exact b4
  · rw [t1, t2, t3, t4]; exact b5
  · rw [c9, c10, c11, c12, m55]; exact b6
  · rw [Ta_eq m49 m50 m51 m55', c27, c29]; exact b10
  · rw [Ta_eq m49 m50 m51 m55', c30, c32]; exact b11
  · rw [Ta_eq m49 m50 m51 m55', c33, c35]; exact b12
theorem bX1_copyA_0 {E : Nat × (Nat → Int32)} {I : Nat → Nat → Int32} {J : Nat → Nat → Int64} {b : Bool}  {Q : Option Value → am_H → Prop}  (wp : ((I 9 0) = 0 ∨ (I 9 0) = 1) ∧ Q none (hp (u1 (u1 (u1 (u2 (u2 I 14 0 (I 9 0)) 14 3 (I 9 3)) 15 (va_cpy (I 10) (I 15) 0 0 7)) 16 (va_cpy (I 11) (I 16) 0 0 7)) 17 (va_cpy (I 12) (I 17) 0 0 112)) J b)) : am_R E mX1_copy 0 [some (.ref 14), some (.ref 9)] [] (hp I J b) 64 64 Q := by
  refine am_aload_n rfl rfl dX1_copy_0 ?_
  refine am_aload_n rfl rfl dX1_copy_1 ?_
  refine am_getI dX1_copy_2 flX1_21 (Or.inr rfl) rfl (by decide) ?_
  obtain ⟨w1, wp⟩ := wp
  refine am_putZ dX1_copy_5 flX1_21 (Or.inl rfl) rfl rfl (by decide) w1 ?_
  refine am_aload_n rfl rfl dX1_copy_8 ?_
  refine am_aload_n rfl rfl dX1_copy_9 ?_
  refine am_getI dX1_copy_10 flX1_25 (Or.inl rfl) rfl (by decide) ?_
  show am_R E mX1_copy 13 [some (.ref 14), some (.ref 9)] [.int (I 9 3), .ref 14] (hp (u2 I 14 0 (I 9 0)) J b) 64 64 Q
  refine am_putI dX1_copy_13 flX1_25 (Or.inl rfl) rfl rfl (by decide) ?_
  refine am_aload_n rfl rfl dX1_copy_16 ?_
  refine am_getA (r := 10) dX1_copy_17 flX1_9 (Or.inr ⟨_, rfl⟩) rfl (by decide) rfl ?_
  refine am_iconst 0 rfl dX1_copy_20 ?_
  refine am_aload_n rfl rfl dX1_copy_21 ?_
  refine am_getA (r := 15) dX1_copy_22 flX1_9 (Or.inr ⟨_, rfl⟩) rfl (by decide) rfl ?_
  refine am_iconst 0 rfl dX1_copy_25 ?_
  refine am_bipush 7 rfl dX1_copy_26 ?_
  refine am_copyN (s0 := 0) (d0 := 0) (x0 := 7) dX1_copy_28 lkX1_29 kn_copy rfl rfl (by decide) (by decide) rfl rfl rfl (by decide) (by decide) (by decide) (Nat.le_of_ble_eq_true rfl) (by decide) ?_
  show am_R E mX1_copy 31 [some (.ref 14), some (.ref 9)] [] (hp (u1 (u2 (u2 I 14 0 (I 9 0)) 14 3 (I 9 3)) 15 (va_cpy (I 10) (I 15) 0 0 7)) J b) 64 64 Q
  refine am_aload_n rfl rfl dX1_copy_31 ?_
  refine am_getA (r := 11) dX1_copy_32 flX1_15 (Or.inr ⟨_, rfl⟩) rfl (by decide) rfl ?_
  refine am_iconst 0 rfl dX1_copy_35 ?_
  refine am_aload_n rfl rfl dX1_copy_36 ?_
  refine am_getA (r := 16) dX1_copy_37 flX1_15 (Or.inr ⟨_, rfl⟩) rfl (by decide) rfl ?_
  refine am_iconst 0 rfl dX1_copy_40 ?_
  refine am_bipush 7 rfl dX1_copy_41 ?_
  refine am_copyN (s0 := 0) (d0 := 0) (x0 := 7) dX1_copy_43 lkX1_29 kn_copy rfl rfl (by decide) (by decide) rfl rfl rfl (by decide) (by decide) (by decide) (Nat.le_of_ble_eq_true rfl) (by decide) ?_
  show am_R E mX1_copy 46 [some (.ref 14), some (.ref 9)] [] (hp (u1 (u1 (u2 (u2 I 14 0 (I 9 0)) 14 3 (I 9 3)) 15 (va_cpy (I 10) (I 15) 0 0 7)) 16 (va_cpy (I 11) (I 16) 0 0 7)) J b) 64 64 Q
  refine am_aload_n rfl rfl dX1_copy_46 ?_
  refine am_getA (r := 12) dX1_copy_47 flX1_18 (Or.inr ⟨_, rfl⟩) rfl (by decide) rfl ?_
  refine am_iconst 0 rfl dX1_copy_50 ?_
  refine am_aload_n rfl rfl dX1_copy_51 ?_
  refine am_getA (r := 17) dX1_copy_52 flX1_18 (Or.inr ⟨_, rfl⟩) rfl (by decide) rfl ?_
  refine am_iconst 0 rfl dX1_copy_55 ?_
  refine am_aload_n rfl rfl dX1_copy_56 ?_
  refine am_getA (r := 17) dX1_copy_57 flX1_18 (Or.inr ⟨_, rfl⟩) rfl (by decide) rfl ?_
  refine am_alen dX1_copy_60 rfl (Or.inl rfl) (by decide) ?_
  show am_R E mX1_copy 61 [some (.ref 14), some (.ref 9)] [.int 112, .int 0, .ref 17, .int 0, .ref 12] (hp (u1 (u1 (u2 (u2 I 14 0 (I 9 0)) 14 3 (I 9 3)) 15 (va_cpy (I 10) (I 15) 0 0 7)) 16 (va_cpy (I 11) (I 16) 0 0 7)) J b) 64 64 Q
  refine am_copyN (s0 := 0) (d0 := 0) (x0 := 112) dX1_copy_61 lkX1_29 kn_copy rfl rfl (by decide) (by decide) rfl rfl rfl (by decide) (by decide) (by decide) (Nat.le_of_ble_eq_true rfl) (by decide) ?_
  show am_R E mX1_copy 64 [some (.ref 14), some (.ref 9)] [] (hp (u1 (u1 (u1 (u2 (u2 I 14 0 (I 9 0)) 14 3 (I 9 3)) 15 (va_cpy (I 10) (I 15) 0 0 7)) 16 (va_cpy (I 11) (I 16) 0 0 7)) 17 (va_cpy (I 12) (I 17) 0 0 112)) J b) 64 64 Q
  exact am_vret dX1_copy_64 rfl wp
theorem bX1_copyB_0 {E : Nat × (Nat → Int32)} {I : Nat → Nat → Int32} {J : Nat → Nat → Int64} {b : Bool}  {Q : Option Value → am_H → Prop}  (wp : ((I 14 0) = 0 ∨ (I 14 0) = 1) ∧ Q none (hp (u1 (u1 (u1 (u2 (u2 I 9 0 (I 14 0)) 9 3 (I 14 3)) 10 (va_cpy (I 15) (I 10) 0 0 7)) 11 (va_cpy (I 16) (I 11) 0 0 7)) 12 (va_cpy (I 17) (I 12) 0 0 112)) J b)) : am_R E mX1_copy 0 [some (.ref 9), some (.ref 14)] [] (hp I J b) 64 64 Q := by
  refine am_aload_n rfl rfl dX1_copy_0 ?_
  refine am_aload_n rfl rfl dX1_copy_1 ?_
  refine am_getI dX1_copy_2 flX1_21 (Or.inr rfl) rfl (by decide) ?_
  obtain ⟨w1, wp⟩ := wp
  refine am_putZ dX1_copy_5 flX1_21 (Or.inl rfl) rfl rfl (by decide) w1 ?_
  refine am_aload_n rfl rfl dX1_copy_8 ?_
  refine am_aload_n rfl rfl dX1_copy_9 ?_
  refine am_getI dX1_copy_10 flX1_25 (Or.inl rfl) rfl (by decide) ?_
  show am_R E mX1_copy 13 [some (.ref 9), some (.ref 14)] [.int (I 14 3), .ref 9] (hp (u2 I 9 0 (I 14 0)) J b) 64 64 Q
  refine am_putI dX1_copy_13 flX1_25 (Or.inl rfl) rfl rfl (by decide) ?_
  refine am_aload_n rfl rfl dX1_copy_16 ?_
  refine am_getA (r := 15) dX1_copy_17 flX1_9 (Or.inr ⟨_, rfl⟩) rfl (by decide) rfl ?_
  refine am_iconst 0 rfl dX1_copy_20 ?_
  refine am_aload_n rfl rfl dX1_copy_21 ?_
  refine am_getA (r := 10) dX1_copy_22 flX1_9 (Or.inr ⟨_, rfl⟩) rfl (by decide) rfl ?_
  refine am_iconst 0 rfl dX1_copy_25 ?_
  refine am_bipush 7 rfl dX1_copy_26 ?_
  refine am_copyN (s0 := 0) (d0 := 0) (x0 := 7) dX1_copy_28 lkX1_29 kn_copy rfl rfl (by decide) (by decide) rfl rfl rfl (by decide) (by decide) (by decide) (Nat.le_of_ble_eq_true rfl) (by decide) ?_
  show am_R E mX1_copy 31 [some (.ref 9), some (.ref 14)] [] (hp (u1 (u2 (u2 I 9 0 (I 14 0)) 9 3 (I 14 3)) 10 (va_cpy (I 15) (I 10) 0 0 7)) J b) 64 64 Q
  refine am_aload_n rfl rfl dX1_copy_31 ?_
  refine am_getA (r := 16) dX1_copy_32 flX1_15 (Or.inr ⟨_, rfl⟩) rfl (by decide) rfl ?_
  refine am_iconst 0 rfl dX1_copy_35 ?_
  refine am_aload_n rfl rfl dX1_copy_36 ?_
  refine am_getA (r := 11) dX1_copy_37 flX1_15 (Or.inr ⟨_, rfl⟩) rfl (by decide) rfl ?_
  refine am_iconst 0 rfl dX1_copy_40 ?_
  refine am_bipush 7 rfl dX1_copy_41 ?_
  refine am_copyN (s0 := 0) (d0 := 0) (x0 := 7) dX1_copy_43 lkX1_29 kn_copy rfl rfl (by decide) (by decide) rfl rfl rfl (by decide) (by decide) (by decide) (Nat.le_of_ble_eq_true rfl) (by decide) ?_
  show am_R E mX1_copy 46 [some (.ref 9), some (.ref 14)] [] (hp (u1 (u1 (u2 (u2 I 9 0 (I 14 0)) 9 3 (I 14 3)) 10 (va_cpy (I 15) (I 10) 0 0 7)) 11 (va_cpy (I 16) (I 11) 0 0 7)) J b) 64 64 Q
  refine am_aload_n rfl rfl dX1_copy_46 ?_
  refine am_getA (r := 17) dX1_copy_47 flX1_18 (Or.inr ⟨_, rfl⟩) rfl (by decide) rfl ?_
  refine am_iconst 0 rfl dX1_copy_50 ?_
  refine am_aload_n rfl rfl dX1_copy_51 ?_
  refine am_getA (r := 12) dX1_copy_52 flX1_18 (Or.inr ⟨_, rfl⟩) rfl (by decide) rfl ?_
  refine am_iconst 0 rfl dX1_copy_55 ?_
  refine am_aload_n rfl rfl dX1_copy_56 ?_
  refine am_getA (r := 12) dX1_copy_57 flX1_18 (Or.inr ⟨_, rfl⟩) rfl (by decide) rfl ?_
  refine am_alen dX1_copy_60 rfl (Or.inl rfl) (by decide) ?_
  show am_R E mX1_copy 61 [some (.ref 9), some (.ref 14)] [.int 112, .int 0, .ref 12, .int 0, .ref 17] (hp (u1 (u1 (u2 (u2 I 9 0 (I 14 0)) 9 3 (I 14 3)) 10 (va_cpy (I 15) (I 10) 0 0 7)) 11 (va_cpy (I 16) (I 11) 0 0 7)) J b) 64 64 Q
  refine am_copyN (s0 := 0) (d0 := 0) (x0 := 112) dX1_copy_61 lkX1_29 kn_copy rfl rfl (by decide) (by decide) rfl rfl rfl (by decide) (by decide) (by decide) (Nat.le_of_ble_eq_true rfl) (by decide) ?_
  show am_R E mX1_copy 64 [some (.ref 9), some (.ref 14)] [] (hp (u1 (u1 (u1 (u2 (u2 I 9 0 (I 14 0)) 9 3 (I 14 3)) 10 (va_cpy (I 15) (I 10) 0 0 7)) 11 (va_cpy (I 16) (I 11) 0 0 7)) 12 (va_cpy (I 17) (I 12) 0 0 112)) J b) 64 64 Q
  exact am_vret dX1_copy_64 rfl wp
theorem bX1_copyC_0 {E : Nat × (Nat → Int32)} {I : Nat → Nat → Int32} {J : Nat → Nat → Int64} {b : Bool}  {Q : Option Value → am_H → Prop}  (wp : ((I 9 0) = 0 ∨ (I 9 0) = 1) ∧ Q none (hp (u1 (u1 (u1 (u2 (u2 I 18 0 (I 9 0)) 18 3 (I 9 3)) 19 (va_cpy (I 10) (I 19) 0 0 7)) 20 (va_cpy (I 11) (I 20) 0 0 7)) 21 (va_cpy (I 12) (I 21) 0 0 112)) J b)) : am_R E mX1_copy 0 [some (.ref 18), some (.ref 9)] [] (hp I J b) 64 64 Q := by
  refine am_aload_n rfl rfl dX1_copy_0 ?_
  refine am_aload_n rfl rfl dX1_copy_1 ?_
  refine am_getI dX1_copy_2 flX1_21 (Or.inr rfl) rfl (by decide) ?_
  obtain ⟨w1, wp⟩ := wp
  refine am_putZ dX1_copy_5 flX1_21 (Or.inl rfl) rfl rfl (by decide) w1 ?_
  refine am_aload_n rfl rfl dX1_copy_8 ?_
  refine am_aload_n rfl rfl dX1_copy_9 ?_
  refine am_getI dX1_copy_10 flX1_25 (Or.inl rfl) rfl (by decide) ?_
  show am_R E mX1_copy 13 [some (.ref 18), some (.ref 9)] [.int (I 9 3), .ref 18] (hp (u2 I 18 0 (I 9 0)) J b) 64 64 Q
  refine am_putI dX1_copy_13 flX1_25 (Or.inl rfl) rfl rfl (by decide) ?_
  refine am_aload_n rfl rfl dX1_copy_16 ?_
  refine am_getA (r := 10) dX1_copy_17 flX1_9 (Or.inr ⟨_, rfl⟩) rfl (by decide) rfl ?_
  refine am_iconst 0 rfl dX1_copy_20 ?_
  refine am_aload_n rfl rfl dX1_copy_21 ?_
  refine am_getA (r := 19) dX1_copy_22 flX1_9 (Or.inr ⟨_, rfl⟩) rfl (by decide) rfl ?_
  refine am_iconst 0 rfl dX1_copy_25 ?_
  refine am_bipush 7 rfl dX1_copy_26 ?_
  refine am_copyN (s0 := 0) (d0 := 0) (x0 := 7) dX1_copy_28 lkX1_29 kn_copy rfl rfl (by decide) (by decide) rfl rfl rfl (by decide) (by decide) (by decide) (Nat.le_of_ble_eq_true rfl) (by decide) ?_
  show am_R E mX1_copy 31 [some (.ref 18), some (.ref 9)] [] (hp (u1 (u2 (u2 I 18 0 (I 9 0)) 18 3 (I 9 3)) 19 (va_cpy (I 10) (I 19) 0 0 7)) J b) 64 64 Q
  refine am_aload_n rfl rfl dX1_copy_31 ?_
  refine am_getA (r := 11) dX1_copy_32 flX1_15 (Or.inr ⟨_, rfl⟩) rfl (by decide) rfl ?_
  refine am_iconst 0 rfl dX1_copy_35 ?_
  refine am_aload_n rfl rfl dX1_copy_36 ?_
  refine am_getA (r := 20) dX1_copy_37 flX1_15 (Or.inr ⟨_, rfl⟩) rfl (by decide) rfl ?_
  refine am_iconst 0 rfl dX1_copy_40 ?_
  refine am_bipush 7 rfl dX1_copy_41 ?_
  refine am_copyN (s0 := 0) (d0 := 0) (x0 := 7) dX1_copy_43 lkX1_29 kn_copy rfl rfl (by decide) (by decide) rfl rfl rfl (by decide) (by decide) (by decide) (Nat.le_of_ble_eq_true rfl) (by decide) ?_
  show am_R E mX1_copy 46 [some (.ref 18), some (.ref 9)] [] (hp (u1 (u1 (u2 (u2 I 18 0 (I 9 0)) 18 3 (I 9 3)) 19 (va_cpy (I 10) (I 19) 0 0 7)) 20 (va_cpy (I 11) (I 20) 0 0 7)) J b) 64 64 Q
  refine am_aload_n rfl rfl dX1_copy_46 ?_
  refine am_getA (r := 12) dX1_copy_47 flX1_18 (Or.inr ⟨_, rfl⟩) rfl (by decide) rfl ?_
  refine am_iconst 0 rfl dX1_copy_50 ?_
  refine am_aload_n rfl rfl dX1_copy_51 ?_
  refine am_getA (r := 21) dX1_copy_52 flX1_18 (Or.inr ⟨_, rfl⟩) rfl (by decide) rfl ?_
  refine am_iconst 0 rfl dX1_copy_55 ?_
  refine am_aload_n rfl rfl dX1_copy_56 ?_
  refine am_getA (r := 21) dX1_copy_57 flX1_18 (Or.inr ⟨_, rfl⟩) rfl (by decide) rfl ?_
  refine am_alen dX1_copy_60 rfl (Or.inl rfl) (by decide) ?_
  show am_R E mX1_copy 61 [some (.ref 18), some (.ref 9)] [.int 112, .int 0, .ref 21, .int 0, .ref 12] (hp (u1 (u1 (u2 (u2 I 18 0 (I 9 0)) 18 3 (I 9 3)) 19 (va_cpy (I 10) (I 19) 0 0 7)) 20 (va_cpy (I 11) (I 20) 0 0 7)) J b) 64 64 Q
  refine am_copyN (s0 := 0) (d0 := 0) (x0 := 112) dX1_copy_61 lkX1_29 kn_copy rfl rfl (by decide) (by decide) rfl rfl rfl (by decide) (by decide) (by decide) (Nat.le_of_ble_eq_true rfl) (by decide) ?_
  show am_R E mX1_copy 64 [some (.ref 18), some (.ref 9)] [] (hp (u1 (u1 (u1 (u2 (u2 I 18 0 (I 9 0)) 18 3 (I 9 3)) 19 (va_cpy (I 10) (I 19) 0 0 7)) 20 (va_cpy (I 11) (I 20) 0 0 7)) 21 (va_cpy (I 12) (I 21) 0 0 112)) J b) 64 64 Q
  exact am_vret dX1_copy_64 rfl wp
theorem bX1_copyD_0 {E : Nat × (Nat → Int32)} {I : Nat → Nat → Int32} {J : Nat → Nat → Int64} {b : Bool}  {Q : Option Value → am_H → Prop}  (wp : ((I 18 0) = 0 ∨ (I 18 0) = 1) ∧ Q none (hp (u1 (u1 (u1 (u2 (u2 I 9 0 (I 18 0)) 9 3 (I 18 3)) 10 (va_cpy (I 19) (I 10) 0 0 7)) 11 (va_cpy (I 20) (I 11) 0 0 7)) 12 (va_cpy (I 21) (I 12) 0 0 112)) J b)) : am_R E mX1_copy 0 [some (.ref 9), some (.ref 18)] [] (hp I J b) 64 64 Q := by
  refine am_aload_n rfl rfl dX1_copy_0 ?_
  refine am_aload_n rfl rfl dX1_copy_1 ?_
  refine am_getI dX1_copy_2 flX1_21 (Or.inr rfl) rfl (by decide) ?_
  obtain ⟨w1, wp⟩ := wp
  refine am_putZ dX1_copy_5 flX1_21 (Or.inl rfl) rfl rfl (by decide) w1 ?_
  refine am_aload_n rfl rfl dX1_copy_8 ?_
  refine am_aload_n rfl rfl dX1_copy_9 ?_
  refine am_getI dX1_copy_10 flX1_25 (Or.inl rfl) rfl (by decide) ?_
  show am_R E mX1_copy 13 [some (.ref 9), some (.ref 18)] [.int (I 18 3), .ref 9] (hp (u2 I 9 0 (I 18 0)) J b) 64 64 Q
  refine am_putI dX1_copy_13 flX1_25 (Or.inl rfl) rfl rfl (by decide) ?_
  refine am_aload_n rfl rfl dX1_copy_16 ?_
  refine am_getA (r := 19) dX1_copy_17 flX1_9 (Or.inr ⟨_, rfl⟩) rfl (by decide) rfl ?_
  refine am_iconst 0 rfl dX1_copy_20 ?_
  refine am_aload_n rfl rfl dX1_copy_21 ?_
  refine am_getA (r := 10) dX1_copy_22 flX1_9 (Or.inr ⟨_, rfl⟩) rfl (by decide) rfl ?_
  refine am_iconst 0 rfl dX1_copy_25 ?_
  refine am_bipush 7 rfl dX1_copy_26 ?_
  refine am_copyN (s0 := 0) (d0 := 0) (x0 := 7) dX1_copy_28 lkX1_29 kn_copy rfl rfl (by decide) (by decide) rfl rfl rfl (by decide) (by decide) (by decide) (Nat.le_of_ble_eq_true rfl) (by decide) ?_
  show am_R E mX1_copy 31 [some (.ref 9), some (.ref 18)] [] (hp (u1 (u2 (u2 I 9 0 (I 18 0)) 9 3 (I 18 3)) 10 (va_cpy (I 19) (I 10) 0 0 7)) J b) 64 64 Q
  refine am_aload_n rfl rfl dX1_copy_31 ?_
  refine am_getA (r := 20) dX1_copy_32 flX1_15 (Or.inr ⟨_, rfl⟩) rfl (by decide) rfl ?_
  refine am_iconst 0 rfl dX1_copy_35 ?_
  refine am_aload_n rfl rfl dX1_copy_36 ?_
  refine am_getA (r := 11) dX1_copy_37 flX1_15 (Or.inr ⟨_, rfl⟩) rfl (by decide) rfl ?_
  refine am_iconst 0 rfl dX1_copy_40 ?_
  refine am_bipush 7 rfl dX1_copy_41 ?_
  refine am_copyN (s0 := 0) (d0 := 0) (x0 := 7) dX1_copy_43 lkX1_29 kn_copy rfl rfl (by decide) (by decide) rfl rfl rfl (by decide) (by decide) (by decide) (Nat.le_of_ble_eq_true rfl) (by decide) ?_
  show am_R E mX1_copy 46 [some (.ref 9), some (.ref 18)] [] (hp (u1 (u1 (u2 (u2 I 9 0 (I 18 0)) 9 3 (I 18 3)) 10 (va_cpy (I 19) (I 10) 0 0 7)) 11 (va_cpy (I 20) (I 11) 0 0 7)) J b) 64 64 Q
  refine am_aload_n rfl rfl dX1_copy_46 ?_
  refine am_getA (r := 21) dX1_copy_47 flX1_18 (Or.inr ⟨_, rfl⟩) rfl (by decide) rfl ?_
  refine am_iconst 0 rfl dX1_copy_50 ?_
  refine am_aload_n rfl rfl dX1_copy_51 ?_
  refine am_getA (r := 12) dX1_copy_52 flX1_18 (Or.inr ⟨_, rfl⟩) rfl (by decide) rfl ?_
  refine am_iconst 0 rfl dX1_copy_55 ?_
  refine am_aload_n rfl rfl dX1_copy_56 ?_
  refine am_getA (r := 12) dX1_copy_57 flX1_18 (Or.inr ⟨_, rfl⟩) rfl (by decide) rfl ?_
  refine am_alen dX1_copy_60 rfl (Or.inl rfl) (by decide) ?_
  show am_R E mX1_copy 61 [some (.ref 9), some (.ref 18)] [.int 112, .int 0, .ref 12, .int 0, .ref 21] (hp (u1 (u1 (u2 (u2 I 9 0 (I 18 0)) 9 3 (I 18 3)) 10 (va_cpy (I 19) (I 10) 0 0 7)) 11 (va_cpy (I 20) (I 11) 0 0 7)) J b) 64 64 Q
  refine am_copyN (s0 := 0) (d0 := 0) (x0 := 112) dX1_copy_61 lkX1_29 kn_copy rfl rfl (by decide) (by decide) rfl rfl rfl (by decide) (by decide) (by decide) (Nat.le_of_ble_eq_true rfl) (by decide) ?_
  show am_R E mX1_copy 64 [some (.ref 9), some (.ref 18)] [] (hp (u1 (u1 (u1 (u2 (u2 I 9 0 (I 18 0)) 9 3 (I 18 3)) 10 (va_cpy (I 19) (I 10) 0 0 7)) 11 (va_cpy (I 20) (I 11) 0 0 7)) 12 (va_cpy (I 21) (I 12) 0 0 112)) J b) 64 64 Q
  exact am_vret dX1_copy_64 rfl wp
theorem bX9_keep_0 {E : Nat × (Nat → Int32)} {I : Nat → Nat → Int32} {J : Nat → Nat → Int64} {b : Bool} {a1 : Int32} {Q : Option Value → am_H → Prop}  (wp : ((a1 < 0 → Q (some (.int (-2))) (hp I J b)) ∧ (¬ a1 < 0 → ((a1 < 2 → ((a1 = 0 ∨ a1 = 1) ∧ (a1 = 0 → am_R E mX1_copy 0 [some (.ref 14), some (.ref 9)] [] (hp I J b) 64 64 (fun r h' => am_R E mX9_keep 25 [some (.ref 0), some (.int a1)] (r.toList ++ []) h' 64 64 Q)) ∧ (a1 = 1 → am_R E mX1_copy 0 [some (.ref 18), some (.ref 9)] [] (hp I J b) 64 64 (fun r h' => am_R E mX9_keep 25 [some (.ref 0), some (.int a1)] (r.toList ++ []) h' 64 64 Q)))) ∧ (¬ a1 < 2 → Q (some (.int (-2))) (hp I J b)))))) : am_R E mX9_keep 0 [some (.ref 0), some (.int a1)] [] (hp I J b) 64 64 Q := by
  refine am_iload_n rfl rfl dX9_keep_0 ?_
  refine am_if_lt dX9_keep_1 (tgt := 9) rfl (fun hc1 => ?_) (fun hc1 => ?_)
  · have wp := wp.1 hc1
    refine am_bipush (-2) rfl dX9_keep_9 ?_
    exact am_iret dX9_keep_11 rfl rfl wp
  · have wp := wp.2 hc1
    refine am_iload_n rfl rfl dX9_keep_4 ?_
    refine am_iconst 2 rfl dX9_keep_5 ?_
    refine am_icmp_lt dX9_keep_6 (tgt := 12) rfl (fun hc2 => ?_) (fun hc2 => ?_)
    · have wp := wp.1 hc2
      refine am_aload_n rfl rfl dX9_keep_12 ?_
      refine am_getA (r := 13) dX9_keep_13 flX9_30 (Or.inr ⟨_, rfl⟩) rfl (by decide) rfl ?_
      refine am_iload_n rfl rfl dX9_keep_16 ?_
      have wq3 := wp
      rcases wp.1 with ha3 | ha3
      · have wp := wq3.2.1 ha3
        refine am_aaldN (j := 0) (r := 14) dX9_keep_17 rfl (Or.inr (Or.inr (Or.inr (Or.inl rfl)))) (by decide) ha3 (by decide) (by decide) rfl ?_
        refine am_aload_n rfl rfl dX9_keep_18 ?_
        refine am_getA (r := 9) dX9_keep_19 flX9_26 (Or.inl ⟨_, rfl⟩) rfl (by decide) rfl ?_
        refine am_invV (ci := 0) (As := [.ref 9]) (lsZ := [some (.ref 14), some (.ref 9)]) (st := []) dX9_keep_22 hX1_copy lkX9_263 ⟨by decide, by decide⟩ (by decide) rfl (by decide) rfl rfl rfl (Nat.le_of_ble_eq_true rfl) rfl (Nat.le_of_ble_eq_true rfl) ⟨Nat.le_refl _, Nat.le_refl _⟩ (am_R.mono wp (fun r h' q => am_R.forget q ⟨rfl, ⟨rfl, trivial⟩⟩))
      · have wp := wq3.2.2 ha3
        refine am_aaldN (j := 1) (r := 18) dX9_keep_17 rfl (Or.inr (Or.inr (Or.inr (Or.inl rfl)))) (by decide) ha3 (by decide) (by decide) rfl ?_
        refine am_aload_n rfl rfl dX9_keep_18 ?_
        refine am_getA (r := 9) dX9_keep_19 flX9_26 (Or.inl ⟨_, rfl⟩) rfl (by decide) rfl ?_
        refine am_invV (ci := 0) (As := [.ref 9]) (lsZ := [some (.ref 18), some (.ref 9)]) (st := []) dX9_keep_22 hX1_copy lkX9_263 ⟨by decide, by decide⟩ (by decide) rfl (by decide) rfl rfl rfl (Nat.le_of_ble_eq_true rfl) rfl (Nat.le_of_ble_eq_true rfl) ⟨Nat.le_refl _, Nat.le_refl _⟩ (am_R.mono wp (fun r h' q => am_R.forget q ⟨rfl, ⟨rfl, trivial⟩⟩))
    · have wp := wp.2 hc2
      refine am_bipush (-2) rfl dX9_keep_9 ?_
      exact am_iret dX9_keep_11 rfl rfl wp
theorem bX9_keep_25 {E : Nat × (Nat → Int32)} {I : Nat → Nat → Int32} {J : Nat → Nat → Int64} {b : Bool} {a1 : Int32} {Q : Option Value → am_H → Prop}  (wp : ∃ j1, a1 = nI j1 ∧ j1 < 2 ∧ Q (some (.int (I 9 3))) (hp (u2 I 22 j1 1) J b)) : am_R E mX9_keep 25 [some (.ref 0), some (.int a1)] [] (hp I J b) 64 64 Q := by
  refine am_aload_n rfl rfl dX9_keep_25 ?_
  refine am_getA (r := 22) dX9_keep_26 flX9_34 (Or.inr ⟨_, rfl⟩) rfl (by decide) rfl ?_
  refine am_iload_n rfl rfl dX9_keep_29 ?_
  refine am_iconst 1 rfl dX9_keep_30 ?_
  obtain ⟨j1, e1, w1, wp⟩ := wp
  refine am_zastN (j := j1) dX9_keep_31 rfl (by decide) e1 w1 (by decide) (by decide) ?_
  refine am_aload_n rfl rfl dX9_keep_32 ?_
  refine am_getA (r := 9) dX9_keep_33 flX9_26 (Or.inl ⟨_, rfl⟩) rfl (by decide) rfl ?_
  refine am_getI dX9_keep_36 flX9_186 (Or.inl rfl) rfl (by decide) ?_
  show am_R E mX9_keep 39 [some (.ref 0), some (.int a1)] [.int (I 9 3)] (hp (u2 I 22 j1 1) J b) 64 64 Q
  exact am_iret dX9_keep_39 rfl rfl wp
theorem bX10_keep_0 {E : Nat × (Nat → Int32)} {I : Nat → Nat → Int32} {J : Nat → Nat → Int64} {b : Bool} {a1 : Int32} {Q : Option Value → am_H → Prop}  (wp : (((0 ≤ a1 ∧ a1 ≤ 1) → am_R E mX10_copy 0 [some (.ref 55), some (.int 0), some (.ref 56), some (.int (128 * a1)), none] [] (hp I J b) 64 64 (fun r h' => am_R E mX10_keep 29 [some (.ref 48), some (.int a1)] (r.toList ++ []) h' 64 64 Q)) ∧ (¬ (0 ≤ a1 ∧ a1 ≤ 1) → Q (some (.int (-2))) (hp I J b)))) : am_R E mX10_keep 0 [some (.ref 48), some (.int a1)] [] (hp I J b) 64 64 Q := by
  refine am_iload_n rfl rfl dX10_keep_0 ?_
  refine am_iconst 0 rfl dX10_keep_1 ?_
  refine am_iconst 1 rfl dX10_keep_2 ?_
  refine am_invS (As := [.int a1, .int 0, .int 1]) (lsZ := [some (.int a1), some (.int 0), some (.int 1)]) (st := []) dX10_keep_3 hX10_in lkX10_69 ⟨by decide, by decide⟩ rfl rfl (Nat.le_of_ble_eq_true rfl) rfl (Nat.le_of_ble_eq_true rfl) ⟨Nat.le_refl _, Nat.le_refl _⟩ (tX10_in  (fun hc1 => ?_) (fun hc1 => ?_))
  · have wp := wp.1 hc1
    show am_R E mX10_keep 6 [some (.ref 48), some (.int a1)] [.int 1] (hp I J b) 64 64 Q
    refine am_if_ne dX10_keep_6 (tgt := 12) rfl (fun _ => ?_) (fun hc => absurd hc (by decide))
    refine am_aload_n rfl rfl dX10_keep_12 ?_
    refine am_getA (r := 55) dX10_keep_13 flX10_35 (Or.inr ⟨_, rfl⟩) rfl (by decide) rfl ?_
    refine am_iconst 0 rfl dX10_keep_16 ?_
    refine am_aload_n rfl rfl dX10_keep_17 ?_
    refine am_getA (r := 56) dX10_keep_18 flX10_38 (Or.inr ⟨_, rfl⟩) rfl (by decide) rfl ?_
    refine am_sipush 128 rfl dX10_keep_21 ?_
    refine am_iload_n rfl rfl dX10_keep_24 ?_
    refine am_imul dX10_keep_25 ?_
    refine am_invS (As := [.ref 55, .int 0, .ref 56, .int (128 * a1)]) (lsZ := [some (.ref 55), some (.int 0), some (.ref 56), some (.int (128 * a1)), none]) (st := []) dX10_keep_26 hX10_copy lkX10_252 ⟨by decide, by decide⟩ rfl rfl (Nat.le_of_ble_eq_true rfl) rfl (Nat.le_of_ble_eq_true rfl) ⟨Nat.le_refl _, Nat.le_refl _⟩ (am_R.mono wp (fun r h' q => am_R.forget q ⟨rfl, ⟨rfl, trivial⟩⟩))
  · have wp := wp.2 hc1
    show am_R E mX10_keep 6 [some (.ref 48), some (.int a1)] [.int 0] (hp I J b) 64 64 Q
    refine am_if_ne dX10_keep_6 (tgt := 12) rfl (fun hc => absurd hc (by decide)) (fun _ => ?_)
    refine am_bipush (-2) rfl dX10_keep_9 ?_
    exact am_iret dX10_keep_11 rfl rfl wp
theorem bX10_keep_29 {E : Nat × (Nat → Int32)} {I : Nat → Nat → Int32} {J : Nat → Nat → Int64} {b : Bool} {a1 : Int32} {Q : Option Value → am_H → Prop}  (wp : ∃ j1, a1 = nI j1 ∧ j1 < 2 ∧ Q (some (.int (I 55 15))) (hp (u2 I 57 j1 1) J b)) : am_R E mX10_keep 29 [some (.ref 48), some (.int a1)] [] (hp I J b) 64 64 Q := by
  refine am_aload_n rfl rfl dX10_keep_29 ?_
  refine am_getA (r := 57) dX10_keep_30 flX10_41 (Or.inr ⟨_, rfl⟩) rfl (by decide) rfl ?_
  refine am_iload_n rfl rfl dX10_keep_33 ?_
  refine am_iconst 1 rfl dX10_keep_34 ?_
  obtain ⟨j1, e1, w1, wp⟩ := wp
  refine am_zastN (j := j1) dX10_keep_35 rfl (by decide) e1 w1 (by decide) (by decide) ?_
  refine am_aload_n rfl rfl dX10_keep_36 ?_
  refine am_getA (r := 55) dX10_keep_37 flX10_35 (Or.inr ⟨_, rfl⟩) rfl (by decide) rfl ?_
  refine am_bipush 15 rfl dX10_keep_40 ?_
  refine am_ialdN (j := 15) dX10_keep_42 rfl (by decide) rfl (by decide) (by decide) ?_
  show am_R E mX10_keep 43 [some (.ref 48), some (.int a1)] [.int (I 55 15)] (hp (u2 I 57 j1 1) J b) 64 64 Q
  exact am_iret dX10_keep_43 rfl rfl wp
theorem in_01 {a : Int32} (h : 0 ≤ a ∧ a ≤ 1) : a = 0 ∨ a = 1 := by
  obtain ⟨k, h1, rfl⟩ := nI_of2 (x := a) (M := 1) (n := 1) (by decide) (Int32.not_lt.mpr h.1) h.2
  rcases (show k = 0 ∨ k = 1 by omega) with rfl | rfl
  · exact Or.inl rfl
  · exact Or.inr rfl
theorem p_keep (hI : Inv I n) (a1 : Int32) : Pair E mX9_keep mX10_keep [some (.ref 0), some (.int a1)] [some (.ref 48), some (.int a1)] I J b := by
  have hI0 := hI
  obtain ⟨hM, hC⟩ := hI
  obtain ⟨⟨n0, n2, n7⟩, -, -, -, -, -, hD, hk0, hk1⟩ := hM
  obtain ⟨-, -, -, -, -, c5, ⟨c6, c6'⟩, c7, c8, -⟩ := hC
  by_cases hk : 0 ≤ a1 ∧ a1 ≤ 1
  · rcases in_01 hk with rfl | rfl
    · refine ⟨.int (I 55 15), fun I1 => I1 = u2 (u1 (u1 (u1 (u2 (u2 I 14 0 (I 9 0)) 14 3 (I 9 3)) 15 (va_cpy (I 10) (I 15) 0 0 7)) 16 (va_cpy (I 11) (I 16) 0 0 7)) 17 (va_cpy (I 12) (I 17) 0 0 112)) 22 0 1, fun Q h => ?_, fun I1 J1 b1 e Q h => ?_⟩
      · refine bX9_keep_0 ⟨fun q => absurd q (by decide), fun _ => ⟨fun _ => ⟨Or.inl rfl, fun _ => bX1_copyA_0 ⟨by rw [c5.1]; exact hD.1, bX9_keep_25 ⟨0, rfl, by decide, ?_⟩⟩, fun q => absurd q (by decide)⟩, fun q => absurd (by decide) q⟩⟩
        have e := h _ J b rfl
        rw [← c5.2.1] at e
        exact e
      · subst e
        refine bX10_keep_0 ⟨fun _ => tX10_copyA (s := 0) rfl (by decide) (bX10_keep_29 ⟨0, rfl, by decide, ?_⟩), fun q => absurd hk q⟩
        refine h _ J1 b1 n (Inv.kept hI0 ⟨⟨rfl, rfl, rfl, rfl⟩, ⟨rfl, rfl, rfl, rfl, rfl, rfl, rfl, rfl, rfl⟩, ⟨rfl, rfl, rfl, rfl, rfl, rfl, rfl⟩, ⟨rfl, rfl, rfl, rfl, rfl, rfl, rfl⟩⟩ (Or.inr ⟨rfl, ?_⟩) ?_ ⟨rfl, c6'⟩ (fun _ => ?_) (fun q => ?_))
        · exact hD.cg n7 (fun j hj => cpy_o hj)
        · rcases hk1 with q | ⟨q1, q2⟩
          · exact Or.inl q
          · exact Or.inr ⟨q1, q2.cg n7 (fun j hj => cpy_x (Or.inr (by omega)))⟩
        · exact c5.cg n7 rfl rfl (fun m hm => cpy_o hm) (fun m hm => cpy_o hm) (fun m hm => cpy_o hm) (fun j hj => cpy_o hj)
        · exact (c8 q).cg n7 rfl rfl (fun m hm => rfl) (fun m hm => rfl) (fun m hm => rfl) (fun j hj => cpy_x (Or.inr (by omega)))
    · refine ⟨.int (I 55 15), fun I1 => I1 = u2 (u1 (u1 (u1 (u2 (u2 I 18 0 (I 9 0)) 18 3 (I 9 3)) 19 (va_cpy (I 10) (I 19) 0 0 7)) 20 (va_cpy (I 11) (I 20) 0 0 7)) 21 (va_cpy (I 12) (I 21) 0 0 112)) 22 1 1, fun Q h => ?_, fun I1 J1 b1 e Q h => ?_⟩
      · refine bX9_keep_0 ⟨fun q => absurd q (by decide), fun _ => ⟨fun _ => ⟨Or.inr rfl, fun q => absurd q (by decide), fun _ => bX1_copyC_0 ⟨by rw [c5.1]; exact hD.1, bX9_keep_25 ⟨1, rfl, by decide, ?_⟩⟩⟩, fun q => absurd (by decide) q⟩⟩
        have e := h _ J b rfl
        rw [← c5.2.1] at e
        exact e
      · subst e
        refine bX10_keep_0 ⟨fun _ => tX10_copyA (s := 128) rfl (by decide) (bX10_keep_29 ⟨1, rfl, by decide, ?_⟩), fun q => absurd hk q⟩
        refine h _ J1 b1 n (Inv.kept hI0 ⟨⟨rfl, rfl, rfl, rfl⟩, ⟨rfl, rfl, rfl, rfl, rfl, rfl, rfl, rfl, rfl⟩, ⟨rfl, rfl, rfl, rfl, rfl, rfl, rfl⟩, ⟨rfl, rfl, rfl, rfl, rfl, rfl, rfl⟩⟩ ?_ (Or.inr ⟨rfl, ?_⟩) ⟨c6, rfl⟩ (fun q => ?_) (fun _ => ?_))
        · rcases hk0 with q | ⟨q1, q2⟩
          · exact Or.inl q
          · exact Or.inr ⟨q1, q2.cg n7 (fun j hj => cpy_x (Or.inl (by omega)))⟩
        · exact hD.cg n7 (fun j hj => by
            have := cpy_at (f := I 55) (g := I 56) (s := 0) (d := 128) hj
            rw [Nat.zero_add] at this
            exact this)
        · exact (c7 q).cg n7 rfl rfl (fun m hm => rfl) (fun m hm => rfl) (fun m hm => rfl) (fun j hj => cpy_x (Or.inl (by omega)))
        · exact c5.cg n7 rfl rfl (fun m hm => cpy_o hm) (fun m hm => cpy_o hm) (fun m hm => cpy_o hm) (fun j hj => by
            have := cpy_at (f := I 55) (g := I 56) (s := 0) (d := 128) hj
            rw [Nat.zero_add] at this
            exact this)
  · refine Pair.same hI0 (.int (-2)) (fun Q h => bX9_keep_0 ⟨fun _ => h, fun q1 => ⟨fun q2 => absurd ⟨nlt q1, ?_⟩ hk, fun _ => h⟩⟩) (fun J b Q h => bX10_keep_0 ⟨fun q => absurd q hk, fun _ => h⟩)
    obtain ⟨k, h1, rfl⟩ := nI_of (x := a1) q1
    have := (nI_ltI (b := 2) h1 (by omega)).mp q2
    exact (nI_leI (b := 1) h1 (by omega)).mpr (by omega)
theorem bX9_back_0 {E : Nat × (Nat → Int32)} {I : Nat → Nat → Int32} {J : Nat → Nat → Int64} {b : Bool} {a1 : Int32} {Q : Option Value → am_H → Prop}  (wp : ((a1 < 0 → Q (some (.int (-2))) (hp I J b)) ∧ (¬ a1 < 0 → ((a1 < 2 → ∃ j3, a1 = nI j3 ∧ j3 < 2 ∧ ((¬ (I 22 j3) = 0 → ((a1 = 0 ∨ a1 = 1) ∧ (a1 = 0 → am_R E mX1_copy 0 [some (.ref 9), some (.ref 14)] [] (hp I J b) 64 64 (fun r h' => am_R E mX9_back 37 [some (.ref 0), none] (r.toList ++ []) h' 64 64 Q)) ∧ (a1 = 1 → am_R E mX1_copy 0 [some (.ref 9), some (.ref 18)] [] (hp I J b) 64 64 (fun r h' => am_R E mX9_back 37 [some (.ref 0), none] (r.toList ++ []) h' 64 64 Q)))) ∧ ((I 22 j3) = 0 → Q (some (.int (-4))) (hp I J b)))) ∧ (¬ a1 < 2 → Q (some (.int (-2))) (hp I J b)))))) : am_R E mX9_back 0 [some (.ref 0), some (.int a1)] [] (hp I J b) 64 64 Q := by
  refine am_iload_n rfl rfl dX9_back_0 ?_
  refine am_if_lt dX9_back_1 (tgt := 9) rfl (fun hc1 => ?_) (fun hc1 => ?_)
  · have wp := wp.1 hc1
    refine am_bipush (-2) rfl dX9_back_9 ?_
    exact am_iret dX9_back_11 rfl rfl wp
  · have wp := wp.2 hc1
    refine am_iload_n rfl rfl dX9_back_4 ?_
    refine am_iconst 2 rfl dX9_back_5 ?_
    refine am_icmp_lt dX9_back_6 (tgt := 12) rfl (fun hc2 => ?_) (fun hc2 => ?_)
    · have wp := wp.1 hc2
      refine am_aload_n rfl rfl dX9_back_12 ?_
      refine am_getA (r := 22) dX9_back_13 flX9_34 (Or.inr ⟨_, rfl⟩) rfl (by decide) rfl ?_
      refine am_iload_n rfl rfl dX9_back_16 ?_
      obtain ⟨j3, e3, w3, wp⟩ := wp
      refine am_zaldN (j := j3) dX9_back_17 rfl (by decide) e3 w3 (by decide) ?_
      refine am_if_ne dX9_back_18 (tgt := 24) rfl (fun hc4 => ?_) (fun hc4 => ?_)
      · have wp := wp.1 hc4
        refine am_aload_n rfl rfl dX9_back_24 ?_
        refine am_getA (r := 9) dX9_back_25 flX9_26 (Or.inl ⟨_, rfl⟩) rfl (by decide) rfl ?_
        refine am_aload_n rfl rfl dX9_back_28 ?_
        refine am_getA (r := 13) dX9_back_29 flX9_30 (Or.inr ⟨_, rfl⟩) rfl (by decide) rfl ?_
        refine am_iload_n rfl rfl dX9_back_32 ?_
        have wq5 := wp
        rcases wp.1 with ha5 | ha5
        · have wp := wq5.2.1 ha5
          refine am_aaldN (j := 0) (r := 14) dX9_back_33 rfl (Or.inr (Or.inr (Or.inr (Or.inl rfl)))) (by decide) ha5 (by decide) (by decide) rfl ?_
          refine am_invV (ci := 0) (As := [.ref 14]) (lsZ := [some (.ref 9), some (.ref 14)]) (st := []) dX9_back_34 hX1_copy lkX9_263 ⟨by decide, by decide⟩ (by decide) rfl (by decide) rfl rfl rfl (Nat.le_of_ble_eq_true rfl) rfl (Nat.le_of_ble_eq_true rfl) ⟨Nat.le_refl _, Nat.le_refl _⟩ (am_R.mono wp (fun r h' q => am_R.forget q ⟨rfl, trivial⟩))
        · have wp := wq5.2.2 ha5
          refine am_aaldN (j := 1) (r := 18) dX9_back_33 rfl (Or.inr (Or.inr (Or.inr (Or.inl rfl)))) (by decide) ha5 (by decide) (by decide) rfl ?_
          refine am_invV (ci := 0) (As := [.ref 18]) (lsZ := [some (.ref 9), some (.ref 18)]) (st := []) dX9_back_34 hX1_copy lkX9_263 ⟨by decide, by decide⟩ (by decide) rfl (by decide) rfl rfl rfl (Nat.le_of_ble_eq_true rfl) rfl (Nat.le_of_ble_eq_true rfl) ⟨Nat.le_refl _, Nat.le_refl _⟩ (am_R.mono wp (fun r h' q => am_R.forget q ⟨rfl, trivial⟩))
      · have wp := wp.2 hc4
        refine am_bipush (-4) rfl dX9_back_21 ?_
        exact am_iret dX9_back_23 rfl rfl wp
    · have wp := wp.2 hc2
      refine am_bipush (-2) rfl dX9_back_9 ?_
      exact am_iret dX9_back_11 rfl rfl wp
theorem bX9_back_37 {E : Nat × (Nat → Int32)} {I : Nat → Nat → Int32} {J : Nat → Nat → Int64} {b : Bool}  {Q : Option Value → am_H → Prop}  (wp : am_R E mX9_yesterdayChanged 0 [some (.ref 0), none] [] (hp I J b) 64 64 (fun r h' => am_R E mX9_back 41 [some (.ref 0), none] (r.toList ++ []) h' 64 64 Q)) : am_R E mX9_back 37 [some (.ref 0), none] [] (hp I J b) 64 64 Q := by
  refine am_aload_n rfl rfl dX9_back_37 ?_
  refine am_invV (ci := 7) (As := []) (lsZ := [some (.ref 0), none]) (st := []) dX9_back_38 hX9_yesterdayChanged lkX9_119 ⟨by decide, by decide⟩ (by decide) rfl (by decide) rfl rfl rfl (Nat.le_of_ble_eq_true rfl) rfl (Nat.le_of_ble_eq_true rfl) ⟨Nat.le_refl _, Nat.le_refl _⟩ (am_R.mono wp (fun r h' q => am_R.forget q ⟨rfl, trivial⟩))
theorem bX9_back_41 {E : Nat × (Nat → Int32)} {I : Nat → Nat → Int32} {J : Nat → Nat → Int64} {b : Bool}  {Q : Option Value → am_H → Prop}  (wp : Q (some (.int (I 9 3))) (hp I J b)) : am_R E mX9_back 41 [some (.ref 0), none] [] (hp I J b) 64 64 Q := by
  refine am_aload_n rfl rfl dX9_back_41 ?_
  refine am_getA (r := 9) dX9_back_42 flX9_26 (Or.inl ⟨_, rfl⟩) rfl (by decide) rfl ?_
  refine am_getI dX9_back_45 flX9_186 (Or.inl rfl) rfl (by decide) ?_
  exact am_iret dX9_back_48 rfl rfl wp
theorem bX10_back_0 {E : Nat × (Nat → Int32)} {I : Nat → Nat → Int32} {J : Nat → Nat → Int64} {b : Bool} {a1 : Int32} {Q : Option Value → am_H → Prop}  (wp : (((0 ≤ a1 ∧ a1 ≤ 1) → ∃ j2, a1 = nI j2 ∧ j2 < 2 ∧ ((¬ (I 57 j2) = 0 → am_R E mX10_copy 0 [some (.ref 56), some (.int (128 * a1)), some (.ref 55), some (.int 0), none] [] (hp I J b) 64 64 (fun r h' => am_R E mX10_back 41 [some (.ref 48), none] (r.toList ++ []) h' 64 64 Q)) ∧ ((I 57 j2) = 0 → Q (some (.int (-4))) (hp I J b)))) ∧ (¬ (0 ≤ a1 ∧ a1 ≤ 1) → Q (some (.int (-2))) (hp I J b)))) : am_R E mX10_back 0 [some (.ref 48), some (.int a1)] [] (hp I J b) 64 64 Q := by
  refine am_iload_n rfl rfl dX10_back_0 ?_
  refine am_iconst 0 rfl dX10_back_1 ?_
  refine am_iconst 1 rfl dX10_back_2 ?_
  refine am_invS (As := [.int a1, .int 0, .int 1]) (lsZ := [some (.int a1), some (.int 0), some (.int 1)]) (st := []) dX10_back_3 hX10_in lkX10_69 ⟨by decide, by decide⟩ rfl rfl (Nat.le_of_ble_eq_true rfl) rfl (Nat.le_of_ble_eq_true rfl) ⟨Nat.le_refl _, Nat.le_refl _⟩ (tX10_in  (fun hc1 => ?_) (fun hc1 => ?_))
  · have wp := wp.1 hc1
    show am_R E mX10_back 6 [some (.ref 48), some (.int a1)] [.int 1] (hp I J b) 64 64 Q
    refine am_if_ne dX10_back_6 (tgt := 12) rfl (fun _ => ?_) (fun hc => absurd hc (by decide))
    refine am_aload_n rfl rfl dX10_back_12 ?_
    refine am_getA (r := 57) dX10_back_13 flX10_41 (Or.inr ⟨_, rfl⟩) rfl (by decide) rfl ?_
    refine am_iload_n rfl rfl dX10_back_16 ?_
    obtain ⟨j2, e2, w2, wp⟩ := wp
    refine am_zaldN (j := j2) dX10_back_17 rfl (by decide) e2 w2 (by decide) ?_
    refine am_if_ne dX10_back_18 (tgt := 24) rfl (fun hc3 => ?_) (fun hc3 => ?_)
    · have wp := wp.1 hc3
      refine am_aload_n rfl rfl dX10_back_24 ?_
      refine am_getA (r := 56) dX10_back_25 flX10_38 (Or.inr ⟨_, rfl⟩) rfl (by decide) rfl ?_
      refine am_sipush 128 rfl dX10_back_28 ?_
      refine am_iload_n rfl rfl dX10_back_31 ?_
      refine am_imul dX10_back_32 ?_
      refine am_aload_n rfl rfl dX10_back_33 ?_
      refine am_getA (r := 55) dX10_back_34 flX10_35 (Or.inr ⟨_, rfl⟩) rfl (by decide) rfl ?_
      refine am_iconst 0 rfl dX10_back_37 ?_
      refine am_invS (As := [.ref 56, .int (128 * a1), .ref 55, .int 0]) (lsZ := [some (.ref 56), some (.int (128 * a1)), some (.ref 55), some (.int 0), none]) (st := []) dX10_back_38 hX10_copy lkX10_252 ⟨by decide, by decide⟩ rfl rfl (Nat.le_of_ble_eq_true rfl) rfl (Nat.le_of_ble_eq_true rfl) ⟨Nat.le_refl _, Nat.le_refl _⟩ (am_R.mono wp (fun r h' q => am_R.forget q ⟨rfl, trivial⟩))
    · have wp := wp.2 hc3
      refine am_bipush (-4) rfl dX10_back_21 ?_
      exact am_iret dX10_back_23 rfl rfl wp
  · have wp := wp.2 hc1
    show am_R E mX10_back 6 [some (.ref 48), some (.int a1)] [.int 0] (hp I J b) 64 64 Q
    refine am_if_ne dX10_back_6 (tgt := 12) rfl (fun hc => absurd hc (by decide)) (fun _ => ?_)
    refine am_bipush (-2) rfl dX10_back_9 ?_
    exact am_iret dX10_back_11 rfl rfl wp
theorem bX10_back_41 {E : Nat × (Nat → Int32)} {I : Nat → Nat → Int32} {J : Nat → Nat → Int64} {b : Bool}  {Q : Option Value → am_H → Prop}  (wp : Q (some (.int (I 55 15))) (hp I J b)) : am_R E mX10_back 41 [some (.ref 48), none] [] (hp I J b) 64 64 Q := by
  refine am_aload_n rfl rfl dX10_back_41 ?_
  refine am_getA (r := 55) dX10_back_42 flX10_35 (Or.inr ⟨_, rfl⟩) rfl (by decide) rfl ?_
  refine am_bipush 15 rfl dX10_back_45 ?_
  refine am_ialdN (j := 15) dX10_back_47 rfl (by decide) rfl (by decide) (by decide) ?_
  exact am_iret dX10_back_48 rfl rfl wp
theorem p_back (hI : Inv I n) (a1 : Int32) : Pair E mX9_back mX10_back [some (.ref 0), some (.int a1)] [some (.ref 48), some (.int a1)] I J b := by
  have hI0 := hI
  obtain ⟨hM, hC⟩ := hI
  obtain ⟨⟨n0, n2, n7⟩, -, -, -, -, -, hD, hk0, hk1⟩ := hM
  obtain ⟨hCH, -, -, -, -, c5, ⟨c6, c6'⟩, c7, c8, -⟩ := hC
  have e0 : I 4 0 = nI n := hCH.1
  by_cases hk : 0 ≤ a1 ∧ a1 ≤ 1
  · rcases in_01 hk with rfl | rfl
    · rcases hk0 with q0 | ⟨q0, q1⟩
      · exact Pair.same hI0 (.int (-4)) (fun Q h => bX9_back_0 ⟨fun q => absurd q (by decide), fun _ => ⟨fun _ => ⟨0, rfl, by decide, fun q => absurd (c6.trans q0) q, fun _ => h⟩, fun q => absurd (by decide) q⟩⟩) (fun J b Q h => bX10_back_0 ⟨fun _ => ⟨0, rfl, by decide, fun q => absurd q0 q, fun _ => h⟩, fun q => absurd hk q⟩)
      · have hr := c7 q0
        have nz1 : ¬ I 22 0 = 0 := by rw [c6, q0]; decide
        have nz2 : ¬ I 57 0 = 0 := by rw [q0]; decide
        refine ⟨.int (I 56 15), fun I1 => ∃ f : Nat → Int32, (∀ m, m < n → ∀ d, d < n → (((f m >>> (nI d &&& 31)) &&& 1) = 1 ↔ 0 < I 5 (7 * m + d) ∧ mf I d (va_cpy (I 16) (I 11) 0 0 7 m))) ∧ I1 = yc (u1 (u1 (u1 (u2 (u2 I 9 0 (I 14 0)) 9 3 (I 14 3)) 10 (va_cpy (I 15) (I 10) 0 0 7)) 11 (va_cpy (I 16) (I 11) 0 0 7)) 12 (va_cpy (I 17) (I 12) 0 0 112)) f, fun Q h => ?_, fun I1 J1 b1 e Q h => ?_⟩
        · refine bX9_back_0 ⟨fun q => absurd q (by decide), fun _ => ⟨fun _ => ⟨0, rfl, by decide, fun _ => ⟨Or.inl rfl, fun _ => bX1_copyB_0 ⟨by rw [hr.1]; exact q1.1, bX9_back_37 (tX9_yesterdayChanged (v := n) e0 n7 (fun m hm => ?_) (fun f hf => bX9_back_41 ?_))⟩, fun q => absurd q (by decide)⟩, fun q => absurd q nz1⟩, fun q => absurd (by decide) q⟩⟩
          · show va_cpy (I 16) (I 11) 0 0 7 m = _ ∨ ∃ e, e < n ∧ va_cpy (I 16) (I 11) 0 0 7 m = nI e
            rw [cpy_o (by omega), hr.2.2.2.1 m hm]
            exact q1.2.2.1 m hm
          · have e := h _ J b ⟨f, hf, rfl⟩
            rw [show I 56 15 = I 14 3 from hr.2.1.symm] at e
            exact e
        · obtain ⟨f, hf, rfl⟩ := e
          refine bX10_back_0 ⟨fun _ => ⟨0, rfl, by decide, fun _ => tX10_copyB (s := 0) rfl (by decide) (bX10_back_41 ?_), fun q => absurd q nz2⟩, fun q => absurd hk q⟩
          refine h _ J1 b1 n (Inv.yes hI0 ⟨⟨rfl, rfl, rfl, rfl⟩, ⟨rfl, rfl, rfl, rfl, rfl⟩, ⟨rfl, rfl, rfl, rfl, rfl, rfl, rfl, rfl, rfl⟩, ⟨rfl, rfl, rfl, rfl, rfl, rfl⟩, ⟨rfl, rfl, rfl, rfl, rfl, rfl, rfl, rfl⟩⟩ ?_ ?_ (fun i hi d hd => hf i hi d hd))
          · exact q1.cg n7 (fun j hj => cpy_o hj)
          · exact hr.cg n7 rfl rfl (fun m hm => cpy_o hm) (fun m hm => cpy_o hm) (fun m hm => cpy_o hm) (fun j hj => cpy_o hj)
    · rcases hk1 with q0 | ⟨q0, q1⟩
      · exact Pair.same hI0 (.int (-4)) (fun Q h => bX9_back_0 ⟨fun q => absurd q (by decide), fun _ => ⟨fun _ => ⟨1, rfl, by decide, fun q => absurd (c6'.trans q0) q, fun _ => h⟩, fun q => absurd (by decide) q⟩⟩) (fun J b Q h => bX10_back_0 ⟨fun _ => ⟨1, rfl, by decide, fun q => absurd q0 q, fun _ => h⟩, fun q => absurd hk q⟩)
      · have hr := c8 q0
        have nz1 : ¬ I 22 1 = 0 := by rw [c6', q0]; decide
        have nz2 : ¬ I 57 1 = 0 := by rw [q0]; decide
        have cat : ∀ j, j < 128 → va_cpy (I 56) (I 55) 128 0 128 j = I 56 (128 + j) := fun j hj => by
          have := cpy_at (f := I 56) (g := I 55) (s := 128) (d := 0) hj
          rw [Nat.zero_add] at this
          exact this
        refine ⟨.int (I 56 (128 + 15)), fun I1 => ∃ f : Nat → Int32, (∀ m, m < n → ∀ d, d < n → (((f m >>> (nI d &&& 31)) &&& 1) = 1 ↔ 0 < I 5 (7 * m + d) ∧ mf I d (va_cpy (I 20) (I 11) 0 0 7 m))) ∧ I1 = yc (u1 (u1 (u1 (u2 (u2 I 9 0 (I 18 0)) 9 3 (I 18 3)) 10 (va_cpy (I 19) (I 10) 0 0 7)) 11 (va_cpy (I 20) (I 11) 0 0 7)) 12 (va_cpy (I 21) (I 12) 0 0 112)) f, fun Q h => ?_, fun I1 J1 b1 e Q h => ?_⟩
        · refine bX9_back_0 ⟨fun q => absurd q (by decide), fun _ => ⟨fun _ => ⟨1, rfl, by decide, fun _ => ⟨Or.inr rfl, fun q => absurd q (by decide), fun _ => bX1_copyD_0 ⟨by rw [hr.1]; exact q1.1, bX9_back_37 (tX9_yesterdayChanged (v := n) e0 n7 (fun m hm => ?_) (fun f hf => bX9_back_41 ?_))⟩⟩, fun q => absurd q nz1⟩, fun q => absurd (by decide) q⟩⟩
          · show va_cpy (I 20) (I 11) 0 0 7 m = _ ∨ ∃ e, e < n ∧ va_cpy (I 20) (I 11) 0 0 7 m = nI e
            rw [cpy_o (by omega), hr.2.2.2.1 m hm]
            exact q1.2.2.1 m hm
          · have e := h _ J b ⟨f, hf, rfl⟩
            rw [show I 56 (128 + 15) = I 18 3 from hr.2.1.symm] at e
            exact e
        · obtain ⟨f, hf, rfl⟩ := e
          refine bX10_back_0 ⟨fun _ => ⟨1, rfl, by decide, fun _ => tX10_copyB (s := 128) rfl (by decide) (bX10_back_41 ?_), fun q => absurd q nz2⟩, fun q => absurd hk q⟩
          refine h _ J1 b1 n (Inv.yes hI0 ⟨⟨rfl, rfl, rfl, rfl⟩, ⟨rfl, rfl, rfl, rfl, rfl⟩, ⟨rfl, rfl, rfl, rfl, rfl, rfl, rfl, rfl, rfl⟩, ⟨rfl, rfl, rfl, rfl, rfl, rfl⟩, ⟨rfl, rfl, rfl, rfl, rfl, rfl, rfl, rfl⟩⟩ ?_ ?_ (fun i hi d hd => hf i hi d hd))
          · exact q1.cg n7 (fun j hj => cat j hj)
          · exact hr.cg n7 rfl rfl (fun m hm => cpy_o hm) (fun m hm => cpy_o hm) (fun m hm => cpy_o hm) (fun j hj => cat j hj)
  · refine Pair.same hI0 (.int (-2)) (fun Q h => bX9_back_0 ⟨fun _ => h, fun q1 => ⟨fun q2 => absurd ⟨nlt q1, ?_⟩ hk, fun _ => h⟩⟩) (fun J b Q h => bX10_back_0 ⟨fun q => absurd q hk, fun _ => h⟩)
    obtain ⟨k, h1, rfl⟩ := nI_of (x := a1) q1
    have := (nI_ltI (b := 2) h1 (by omega)).mp q2
    exact (nI_leI (b := 1) h1 (by omega)).mpr (by omega)
end P7
