/-! ===== what the smallest methods answer ===== -/
section T0
variable {E : Nat × (Nat → Int32)} {I : Nat → Nat → Int32} {J : Nat → Nat → Int64} {b : Bool} {Q : Option Value → am_H → Prop}
theorem nlt {a b : Int32} (h : ¬ a < b) : b ≤ a := Int32.not_lt.mp h
theorem nle {a b : Int32} (h : ¬ a ≤ b) : b < a := Int32.not_le.mp h
theorem bX10_in_0 {E : Nat × (Nat → Int32)} {I : Nat → Nat → Int32} {J : Nat → Nat → Int64} {b : Bool} {a0 : Int32} {a1 : Int32} {a2 : Int32} {Q : Option Value → am_H → Prop}  (wp : ((a0 < a1 → Q (some (.int 0)) (hp I J b)) ∧ (¬ a0 < a1 → ((a2 < a0 → Q (some (.int 0)) (hp I J b)) ∧ (¬ a2 < a0 → Q (some (.int 1)) (hp I J b)))))) : am_R E mX10_in 0 [some (.int a0), some (.int a1), some (.int a2)] [] (hp I J b) 64 64 Q := by
  refine am_iload_n rfl rfl dX10_in_0 ?_
  refine am_iload_n rfl rfl dX10_in_1 ?_
  refine am_icmp_lt dX10_in_2 (tgt := 14) rfl (fun hc1 => ?_) (fun hc1 => ?_)
  · have wp := wp.1 hc1
    refine am_iconst 0 rfl dX10_in_14 ?_
    exact am_iret dX10_in_15 rfl (by decide) wp
  · have wp := wp.2 hc1
    refine am_iload_n rfl rfl dX10_in_5 ?_
    refine am_iload_n rfl rfl dX10_in_6 ?_
    refine am_icmp_gt dX10_in_7 (tgt := 14) rfl (fun hc2 => ?_) (fun hc2 => ?_)
    · have wp := wp.1 hc2
      refine am_iconst 0 rfl dX10_in_14 ?_
      exact am_iret dX10_in_15 rfl (by decide) wp
    · have wp := wp.2 hc2
      refine am_iconst 1 rfl dX10_in_10 ?_
      refine am_goto dX10_in_11 (tgt := 15) rfl ?_
      exact am_iret dX10_in_15 rfl (by decide) wp
theorem tX10_in {v lo hi : Int32} (k1 : (lo ≤ v ∧ v ≤ hi) → Q (some (.int 1)) (hp I J b)) (k0 : ¬ (lo ≤ v ∧ v ≤ hi) → Q (some (.int 0)) (hp I J b)) : am_R E mX10_in 0 [some (.int v), some (.int lo), some (.int hi)] [] (hp I J b) 64 64 Q :=
  bX10_in_0 ⟨fun h => k0 (fun q => Int32.not_lt.mpr q.1 h), fun h => ⟨fun h2 => k0 (fun q => Int32.not_lt.mpr q.2 h2), fun h2 => k1 ⟨nlt h, nlt h2⟩⟩⟩
theorem bX10_isRingNumber_0 {E : Nat × (Nat → Int32)} {I : Nat → Nat → Int32} {J : Nat → Nat → Int64} {b : Bool} {a0 : Int32} {Q : Option Value → am_H → Prop}  (wp : ((a0 = 0 → Q (some (.int 1)) (hp I J b)) ∧ (¬ a0 = 0 → ((a0 = 2 → Q (some (.int 1)) (hp I J b)) ∧ (¬ a0 = 2 → ((¬ a0 = 3 → Q (some (.int 0)) (hp I J b)) ∧ (a0 = 3 → Q (some (.int 1)) (hp I J b)))))))) : am_R E mX10_isRingNumber 0 [some (.int a0)] [] (hp I J b) 64 64 Q := by
  refine am_iload_n rfl rfl dX10_isRingNumber_0 ?_
  refine am_if_eq dX10_isRingNumber_1 (tgt := 14) rfl (fun hc1 => ?_) (fun hc1 => ?_)
  · have wp := wp.1 hc1
    refine am_iconst 1 rfl dX10_isRingNumber_14 ?_
    refine am_goto dX10_isRingNumber_15 (tgt := 19) rfl ?_
    exact am_iret dX10_isRingNumber_19 rfl (by decide) wp
  · have wp := wp.2 hc1
    refine am_iload_n rfl rfl dX10_isRingNumber_4 ?_
    refine am_iconst 2 rfl dX10_isRingNumber_5 ?_
    refine am_icmp_eq dX10_isRingNumber_6 (tgt := 14) rfl (fun hc2 => ?_) (fun hc2 => ?_)
    · have wp := wp.1 hc2
      refine am_iconst 1 rfl dX10_isRingNumber_14 ?_
      refine am_goto dX10_isRingNumber_15 (tgt := 19) rfl ?_
      exact am_iret dX10_isRingNumber_19 rfl (by decide) wp
    · have wp := wp.2 hc2
      refine am_iload_n rfl rfl dX10_isRingNumber_9 ?_
      refine am_iconst 3 rfl dX10_isRingNumber_10 ?_
      refine am_icmp_ne dX10_isRingNumber_11 (tgt := 18) rfl (fun hc3 => ?_) (fun hc3 => ?_)
      · have wp := wp.1 hc3
        refine am_iconst 0 rfl dX10_isRingNumber_18 ?_
        exact am_iret dX10_isRingNumber_19 rfl (by decide) wp
      · have wp := wp.2 hc3
        refine am_iconst 1 rfl dX10_isRingNumber_14 ?_
        refine am_goto dX10_isRingNumber_15 (tgt := 19) rfl ?_
        exact am_iret dX10_isRingNumber_19 rfl (by decide) wp
theorem tX10_isRingNumber {v : Int32} (k1 : (v = 0 ∨ v = 2 ∨ v = 3) → Q (some (.int 1)) (hp I J b)) (k0 : ¬ (v = 0 ∨ v = 2 ∨ v = 3) → Q (some (.int 0)) (hp I J b)) : am_R E mX10_isRingNumber 0 [some (.int v)] [] (hp I J b) 64 64 Q :=
  bX10_isRingNumber_0 ⟨fun h => k1 (Or.inl h), fun h => ⟨fun h2 => k1 (Or.inr (Or.inl h2)), fun h2 => ⟨fun h3 => k0 (fun q => by rcases q with q | q | q <;> contradiction), fun h3 => k1 (Or.inr (Or.inr h3))⟩⟩⟩
theorem bX9_isRing_0 {E : Nat × (Nat → Int32)} {I : Nat → Nat → Int32} {J : Nat → Nat → Int64} {b : Bool} {a0 : Int32} {Q : Option Value → am_H → Prop}  (wp : ((a0 = 0 → Q (some (.int 1)) (hp I J b)) ∧ (¬ a0 = 0 → ((a0 = 2 → Q (some (.int 1)) (hp I J b)) ∧ (¬ a0 = 2 → ((¬ a0 = 3 → Q (some (.int 0)) (hp I J b)) ∧ (a0 = 3 → Q (some (.int 1)) (hp I J b)))))))) : am_R E mX9_isRing 0 [some (.int a0)] [] (hp I J b) 64 64 Q := by
  refine am_iload_n rfl rfl dX9_isRing_0 ?_
  refine am_if_eq dX9_isRing_1 (tgt := 14) rfl (fun hc1 => ?_) (fun hc1 => ?_)
  · have wp := wp.1 hc1
    refine am_iconst 1 rfl dX9_isRing_14 ?_
    refine am_goto dX9_isRing_15 (tgt := 19) rfl ?_
    exact am_iret dX9_isRing_19 rfl (by decide) wp
  · have wp := wp.2 hc1
    refine am_iload_n rfl rfl dX9_isRing_4 ?_
    refine am_iconst 2 rfl dX9_isRing_5 ?_
    refine am_icmp_eq dX9_isRing_6 (tgt := 14) rfl (fun hc2 => ?_) (fun hc2 => ?_)
    · have wp := wp.1 hc2
      refine am_iconst 1 rfl dX9_isRing_14 ?_
      refine am_goto dX9_isRing_15 (tgt := 19) rfl ?_
      exact am_iret dX9_isRing_19 rfl (by decide) wp
    · have wp := wp.2 hc2
      refine am_iload_n rfl rfl dX9_isRing_9 ?_
      refine am_iconst 3 rfl dX9_isRing_10 ?_
      refine am_icmp_ne dX9_isRing_11 (tgt := 18) rfl (fun hc3 => ?_) (fun hc3 => ?_)
      · have wp := wp.1 hc3
        refine am_iconst 0 rfl dX9_isRing_18 ?_
        exact am_iret dX9_isRing_19 rfl (by decide) wp
      · have wp := wp.2 hc3
        refine am_iconst 1 rfl dX9_isRing_14 ?_
        refine am_goto dX9_isRing_15 (tgt := 19) rfl ?_
        exact am_iret dX9_isRing_19 rfl (by decide) wp
theorem tX9_isRing {v : Int32} (k1 : (v = 0 ∨ v = 2 ∨ v = 3) → Q (some (.int 1)) (hp I J b)) (k0 : ¬ (v = 0 ∨ v = 2 ∨ v = 3) → Q (some (.int 0)) (hp I J b)) : am_R E mX9_isRing 0 [some (.int v)] [] (hp I J b) 64 64 Q :=
  bX9_isRing_0 ⟨fun h => k1 (Or.inl h), fun h => ⟨fun h2 => k1 (Or.inr (Or.inl h2)), fun h2 => ⟨fun h3 => k0 (fun q => by rcases q with q | q | q <;> contradiction), fun h3 => k1 (Or.inr (Or.inr h3))⟩⟩⟩
theorem bX9_isPart_0 {E : Nat × (Nat → Int32)} {I : Nat → Nat → Int32} {J : Nat → Nat → Int64} {b : Bool} {a0 : Int32} {Q : Option Value → am_H → Prop}  (wp : ((a0 = 0 → Q (some (.int 1)) (hp I J b)) ∧ (¬ a0 = 0 → ((¬ a0 = 1 → Q (some (.int 0)) (hp I J b)) ∧ (a0 = 1 → Q (some (.int 1)) (hp I J b)))))) : am_R E mX9_isPart 0 [some (.int a0)] [] (hp I J b) 64 64 Q := by
  refine am_iload_n rfl rfl dX9_isPart_0 ?_
  refine am_if_eq dX9_isPart_1 (tgt := 9) rfl (fun hc1 => ?_) (fun hc1 => ?_)
  · have wp := wp.1 hc1
    refine am_iconst 1 rfl dX9_isPart_9 ?_
    refine am_goto dX9_isPart_10 (tgt := 14) rfl ?_
    exact am_iret dX9_isPart_14 rfl (by decide) wp
  · have wp := wp.2 hc1
    refine am_iload_n rfl rfl dX9_isPart_4 ?_
    refine am_iconst 1 rfl dX9_isPart_5 ?_
    refine am_icmp_ne dX9_isPart_6 (tgt := 13) rfl (fun hc2 => ?_) (fun hc2 => ?_)
    · have wp := wp.1 hc2
      refine am_iconst 0 rfl dX9_isPart_13 ?_
      exact am_iret dX9_isPart_14 rfl (by decide) wp
    · have wp := wp.2 hc2
      refine am_iconst 1 rfl dX9_isPart_9 ?_
      refine am_goto dX9_isPart_10 (tgt := 14) rfl ?_
      exact am_iret dX9_isPart_14 rfl (by decide) wp
theorem tX9_isPart {v : Int32} (k1 : (v = 0 ∨ v = 1) → Q (some (.int 1)) (hp I J b)) (k0 : ¬ (v = 0 ∨ v = 1) → Q (some (.int 0)) (hp I J b)) : am_R E mX9_isPart 0 [some (.int v)] [] (hp I J b) 64 64 Q :=
  bX9_isPart_0 ⟨fun h => k1 (Or.inl h), fun h => ⟨fun h3 => k0 (fun q => by rcases q with q | q <;> contradiction), fun h3 => k1 (Or.inr h3)⟩⟩
theorem bX6_isLetter_0 {E : Nat × (Nat → Int32)} {I : Nat → Nat → Int32} {J : Nat → Nat → Int64} {b : Bool} {a0 : Int32} {Q : Option Value → am_H → Prop}  (wp : ((a0 < 97 → Q (some (.int 0)) (hp I J b)) ∧ (¬ a0 < 97 → ((122 < a0 → Q (some (.int 0)) (hp I J b)) ∧ (¬ 122 < a0 → Q (some (.int 1)) (hp I J b)))))) : am_R E mX6_isLetter 0 [some (.int a0)] [] (hp I J b) 64 64 Q := by
  refine am_iload_n rfl rfl dX6_isLetter_0 ?_
  refine am_bipush 97 rfl dX6_isLetter_1 ?_
  refine am_icmp_lt dX6_isLetter_3 (tgt := 16) rfl (fun hc1 => ?_) (fun hc1 => ?_)
  · have wp := wp.1 hc1
    refine am_iconst 0 rfl dX6_isLetter_16 ?_
    exact am_iret dX6_isLetter_17 rfl (by decide) wp
  · have wp := wp.2 hc1
    refine am_iload_n rfl rfl dX6_isLetter_6 ?_
    refine am_bipush 122 rfl dX6_isLetter_7 ?_
    refine am_icmp_gt dX6_isLetter_9 (tgt := 16) rfl (fun hc2 => ?_) (fun hc2 => ?_)
    · have wp := wp.1 hc2
      refine am_iconst 0 rfl dX6_isLetter_16 ?_
      exact am_iret dX6_isLetter_17 rfl (by decide) wp
    · have wp := wp.2 hc2
      refine am_iconst 1 rfl dX6_isLetter_12 ?_
      refine am_goto dX6_isLetter_13 (tgt := 17) rfl ?_
      exact am_iret dX6_isLetter_17 rfl (by decide) wp
theorem tX6_isLetter {v : Int32} (k1 : (97 ≤ v ∧ v ≤ 122) → Q (some (.int 1)) (hp I J b)) (k0 : ¬ (97 ≤ v ∧ v ≤ 122) → Q (some (.int 0)) (hp I J b)) : am_R E mX6_isLetter 0 [some (.int v)] [] (hp I J b) 64 64 Q :=
  bX6_isLetter_0 ⟨fun h => k0 (fun q => Int32.not_lt.mpr q.1 h), fun h => ⟨fun h2 => k0 (fun q => Int32.not_lt.mpr q.2 h2), fun h2 => k1 ⟨nlt h, nlt h2⟩⟩⟩
theorem bX6_isDigit_0 {E : Nat × (Nat → Int32)} {I : Nat → Nat → Int32} {J : Nat → Nat → Int64} {b : Bool} {a0 : Int32} {Q : Option Value → am_H → Prop}  (wp : ((a0 < 48 → Q (some (.int 0)) (hp I J b)) ∧ (¬ a0 < 48 → ((57 < a0 → Q (some (.int 0)) (hp I J b)) ∧ (¬ 57 < a0 → Q (some (.int 1)) (hp I J b)))))) : am_R E mX6_isDigit 0 [some (.int a0)] [] (hp I J b) 64 64 Q := by
  refine am_iload_n rfl rfl dX6_isDigit_0 ?_
  refine am_bipush 48 rfl dX6_isDigit_1 ?_
  refine am_icmp_lt dX6_isDigit_3 (tgt := 16) rfl (fun hc1 => ?_) (fun hc1 => ?_)
  · have wp := wp.1 hc1
    refine am_iconst 0 rfl dX6_isDigit_16 ?_
    exact am_iret dX6_isDigit_17 rfl (by decide) wp
  · have wp := wp.2 hc1
    refine am_iload_n rfl rfl dX6_isDigit_6 ?_
    refine am_bipush 57 rfl dX6_isDigit_7 ?_
    refine am_icmp_gt dX6_isDigit_9 (tgt := 16) rfl (fun hc2 => ?_) (fun hc2 => ?_)
    · have wp := wp.1 hc2
      refine am_iconst 0 rfl dX6_isDigit_16 ?_
      exact am_iret dX6_isDigit_17 rfl (by decide) wp
    · have wp := wp.2 hc2
      refine am_iconst 1 rfl dX6_isDigit_12 ?_
      refine am_goto dX6_isDigit_13 (tgt := 17) rfl ?_
      exact am_iret dX6_isDigit_17 rfl (by decide) wp
theorem tX6_isDigit {v : Int32} (k1 : (48 ≤ v ∧ v ≤ 57) → Q (some (.int 1)) (hp I J b)) (k0 : ¬ (48 ≤ v ∧ v ≤ 57) → Q (some (.int 0)) (hp I J b)) : am_R E mX6_isDigit 0 [some (.int v)] [] (hp I J b) 64 64 Q :=
  bX6_isDigit_0 ⟨fun h => k0 (fun q => Int32.not_lt.mpr q.1 h), fun h => ⟨fun h2 => k0 (fun q => Int32.not_lt.mpr q.2 h2), fun h2 => k1 ⟨nlt h, nlt h2⟩⟩⟩
theorem bX10_isMonk_0 {E : Nat × (Nat → Int32)} {I : Nat → Nat → Int32} {J : Nat → Nat → Int64} {b : Bool} {a1 : Int32} {Q : Option Value → am_H → Prop}  (wp : (((0 ≤ a1 ∧ a1 ≤ ((I 48 0) - 1)) → Q (some (.int 1)) (hp I J b)) ∧ (¬ (0 ≤ a1 ∧ a1 ≤ ((I 48 0) - 1)) → Q (some (.int 0)) (hp I J b)))) : am_R E mX10_isMonk 0 [some (.ref 48), some (.int a1)] [] (hp I J b) 64 64 Q := by
  refine am_iload_n rfl rfl dX10_isMonk_0 ?_
  refine am_iconst 0 rfl dX10_isMonk_1 ?_
  refine am_aload_n rfl rfl dX10_isMonk_2 ?_
  refine am_getI dX10_isMonk_3 flX10_7 (Or.inl rfl) rfl (by decide) ?_
  refine am_iconst 1 rfl dX10_isMonk_6 ?_
  refine am_isub dX10_isMonk_7 ?_
  refine am_invS (As := [.int a1, .int 0, .int ((I 48 0) - 1)]) (lsZ := [some (.int a1), some (.int 0), some (.int ((I 48 0) - 1))]) (st := []) dX10_isMonk_8 hX10_in lkX10_69 ⟨by decide, by decide⟩ rfl rfl (Nat.le_of_ble_eq_true rfl) rfl (Nat.le_of_ble_eq_true rfl) ⟨Nat.le_refl _, Nat.le_refl _⟩ (tX10_in  (fun hc1 => ?_) (fun hc1 => ?_))
  · have wp := wp.1 hc1
    show am_R E mX10_isMonk 11 [some (.ref 48), some (.int a1)] [.int 1] (hp I J b) 64 64 Q
    exact am_iret dX10_isMonk_11 rfl (by decide) wp
  · have wp := wp.2 hc1
    show am_R E mX10_isMonk 11 [some (.ref 48), some (.int a1)] [.int 0] (hp I J b) 64 64 Q
    exact am_iret dX10_isMonk_11 rfl (by decide) wp
theorem tX10_isMonk {m : Int32} (k1 : (0 ≤ m ∧ m ≤ I 48 0 - 1) → Q (some (.int 1)) (hp I J b)) (k0 : ¬ (0 ≤ m ∧ m ≤ I 48 0 - 1) → Q (some (.int 0)) (hp I J b)) : am_R E mX10_isMonk 0 [some (.ref 48), some (.int m)] [] (hp I J b) 64 64 Q := bX10_isMonk_0 ⟨k1, k0⟩
theorem bX9_isThere_0 {E : Nat × (Nat → Int32)} {I : Nat → Nat → Int32} {J : Nat → Nat → Int64} {b : Bool} {a1 : Int32} {Q : Option Value → am_H → Prop}  (wp : ((a1 < 0 → Q (some (.int 0)) (hp I J b)) ∧ (¬ a1 < 0 → (((I 4 0) ≤ a1 → Q (some (.int 0)) (hp I J b)) ∧ (¬ (I 4 0) ≤ a1 → Q (some (.int 1)) (hp I J b)))))) : am_R E mX9_isThere 0 [some (.ref 0), some (.int a1)] [] (hp I J b) 64 64 Q := by
  refine am_iload_n rfl rfl dX9_isThere_0 ?_
  refine am_if_lt dX9_isThere_1 (tgt := 19) rfl (fun hc1 => ?_) (fun hc1 => ?_)
  · have wp := wp.1 hc1
    refine am_iconst 0 rfl dX9_isThere_19 ?_
    exact am_iret dX9_isThere_20 rfl (by decide) wp
  · have wp := wp.2 hc1
    refine am_iload_n rfl rfl dX9_isThere_4 ?_
    refine am_aload_n rfl rfl dX9_isThere_5 ?_
    refine am_getA (r := 4) dX9_isThere_6 flX9_19 (Or.inl ⟨_, rfl⟩) rfl (by decide) rfl ?_
    refine am_getI dX9_isThere_9 flX9_102 (Or.inl rfl) rfl (by decide) ?_
    refine am_icmp_ge dX9_isThere_12 (tgt := 19) rfl (fun hc2 => ?_) (fun hc2 => ?_)
    · have wp := wp.1 hc2
      refine am_iconst 0 rfl dX9_isThere_19 ?_
      exact am_iret dX9_isThere_20 rfl (by decide) wp
    · have wp := wp.2 hc2
      refine am_iconst 1 rfl dX9_isThere_15 ?_
      refine am_goto dX9_isThere_16 (tgt := 20) rfl ?_
      exact am_iret dX9_isThere_20 rfl (by decide) wp
theorem tX9_isThere {m : Int32} (k1 : (0 ≤ m ∧ m < I 4 0) → Q (some (.int 1)) (hp I J b)) (k0 : ¬ (0 ≤ m ∧ m < I 4 0) → Q (some (.int 0)) (hp I J b)) : am_R E mX9_isThere 0 [some (.ref 0), some (.int m)] [] (hp I J b) 64 64 Q :=
  bX9_isThere_0 ⟨fun h => k0 (fun q => Int32.not_lt.mpr q.1 h), fun h => ⟨fun h2 => k0 (fun q => Int32.not_lt.mpr h2 q.2), fun h2 => k1 ⟨nlt h, nle h2⟩⟩⟩
theorem bX2_cell_0 {E : Nat × (Nat → Int32)} {I : Nat → Nat → Int32} {J : Nat → Nat → Int64} {b : Bool} {n : Nat} (hn : 48 ≤ n) {a0 : Int32} {a1 : Int32} {Q : Option Value → am_H → Prop}  (wp : Q (some (.int ((a0 * 7) + a1))) (hp I J b)) : am_R E mX2_cell 0 [some (.int a0), some (.int a1)] [] (hp I J b) n n Q := by
  refine am_iload_n rfl rfl dX2_cell_0 ?_
  refine am_bipush 7 rfl dX2_cell_1 ?_
  refine am_imul dX2_cell_3 ?_
  refine am_iload_n rfl rfl dX2_cell_4 ?_
  refine am_iadd dX2_cell_5 ?_
  exact am_iret dX2_cell_6 rfl rfl wp
theorem tX2_cell {n : Nat} (hn : 48 ≤ n) {m d : Int32} (k : Q (some (.int ((m * 7) + d))) (hp I J b)) : am_R E mX2_cell 0 [some (.int m), some (.int d)] [] (hp I J b) n n Q := bX2_cell_0 hn k
theorem bX2_skillOf_0 {E : Nat × (Nat → Int32)} {I : Nat → Nat → Int32} {J : Nat → Nat → Int64} {b : Bool} {n : Nat} (hn : 48 ≤ n) {a1 : Int32} {a2 : Int32} {Q : Option Value → am_H → Prop}  (wp : ∃ j1, ((a1 * 7) + a2) = nI j1 ∧ j1 < 49 ∧ Q (some (.int (I 5 j1))) (hp I J b)) : am_R E mX2_skillOf 0 [some (.ref 4), some (.int a1), some (.int a2)] [] (hp I J b) n n Q := by
  refine am_aload_n rfl rfl dX2_skillOf_0 ?_
  refine am_getA (r := 5) dX2_skillOf_1 flX2_9 (Or.inr ⟨_, rfl⟩) rfl (by omega) rfl ?_
  refine am_iload_n rfl rfl dX2_skillOf_4 ?_
  refine am_iload_n rfl rfl dX2_skillOf_5 ?_
  refine am_invS (As := [.int a1, .int a2]) (lsZ := [some (.int a1), some (.int a2)]) (st := [.ref 5]) dX2_skillOf_6 hX2_cell lkX2_35 ⟨by decide, by decide⟩ rfl rfl (Nat.le_of_ble_eq_true rfl) rfl (Nat.le_of_ble_eq_true rfl) ⟨Nat.le_refl _, Nat.le_refl _⟩ (tX2_cell hn  ?_)
  show am_R E mX2_skillOf 9 [some (.ref 4), some (.int a1), some (.int a2)] [.int ((a1 * 7) + a2), .ref 5] (hp I J b) n n Q
  obtain ⟨j1, e1, w1, wp⟩ := wp
  refine am_ialdN (j := j1) dX2_skillOf_9 rfl (by omega) e1 w1 (by decide) ?_
  exact am_iret dX2_skillOf_10 rfl rfl wp
theorem tX2_skillOf {n : Nat} (hn : 48 ≤ n) {m d : Int32} {j : Nat} (e : (m * 7) + d = nI j) (hj : j < 49) (k : Q (some (.int (I 5 j))) (hp I J b)) : am_R E mX2_skillOf 0 [some (.ref 4), some (.int m), some (.int d)] [] (hp I J b) n n Q := bX2_skillOf_0 hn ⟨j, e, hj, k⟩
theorem bX2_likingOf_0 {E : Nat × (Nat → Int32)} {I : Nat → Nat → Int32} {J : Nat → Nat → Int64} {b : Bool} {n : Nat} (hn : 48 ≤ n) {a1 : Int32} {a2 : Int32} {Q : Option Value → am_H → Prop}  (wp : ∃ j1, ((a1 * 7) + a2) = nI j1 ∧ j1 < 49 ∧ Q (some (.int (I 6 j1))) (hp I J b)) : am_R E mX2_likingOf 0 [some (.ref 4), some (.int a1), some (.int a2)] [] (hp I J b) n n Q := by
  refine am_aload_n rfl rfl dX2_likingOf_0 ?_
  refine am_getA (r := 6) dX2_likingOf_1 flX2_15 (Or.inr ⟨_, rfl⟩) rfl (by omega) rfl ?_
  refine am_iload_n rfl rfl dX2_likingOf_4 ?_
  refine am_bipush 7 rfl dX2_likingOf_5 ?_
  refine am_imul dX2_likingOf_7 ?_
  refine am_iload_n rfl rfl dX2_likingOf_8 ?_
  refine am_iadd dX2_likingOf_9 ?_
  obtain ⟨j1, e1, w1, wp⟩ := wp
  refine am_ialdN (j := j1) dX2_likingOf_10 rfl (by omega) e1 w1 (by decide) ?_
  exact am_iret dX2_likingOf_11 rfl rfl wp
theorem tX2_likingOf {n : Nat} (hn : 48 ≤ n) {m d : Int32} {j : Nat} (e : (m * 7) + d = nI j) (hj : j < 49) (k : Q (some (.int (I 6 j))) (hp I J b)) : am_R E mX2_likingOf 0 [some (.ref 4), some (.int m), some (.int d)] [] (hp I J b) n n Q := bX2_likingOf_0 hn ⟨j, e, hj, k⟩
theorem bX5_mayDo_0 {E : Nat × (Nat → Int32)} {I : Nat → Nat → Int32} {J : Nat → Nat → Int64} {b : Bool} {a1 : Int32} {a2 : Int32} {Q : Option Value → am_H → Prop}  (wp : ∃ j1, a1 = nI j1 ∧ j1 < 7 ∧ ((¬ (((I 24 j1) >>> (a2 &&& 31)) &&& 1) = 1 → Q (some (.int 0)) (hp I J b)) ∧ ((((I 24 j1) >>> (a2 &&& 31)) &&& 1) = 1 → Q (some (.int 1)) (hp I J b)))) : am_R E mX5_mayDo 0 [some (.ref 23), some (.int a1), some (.int a2)] [] (hp I J b) 64 64 Q := by
  refine am_aload_n rfl rfl dX5_mayDo_0 ?_
  refine am_getA (r := 24) dX5_mayDo_1 flX5_9 (Or.inr ⟨_, rfl⟩) rfl (by decide) rfl ?_
  refine am_iload_n rfl rfl dX5_mayDo_4 ?_
  obtain ⟨j1, e1, w1, wp⟩ := wp
  refine am_ialdN (j := j1) dX5_mayDo_5 rfl (by decide) e1 w1 (by decide) ?_
  refine am_iload_n rfl rfl dX5_mayDo_6 ?_
  refine am_ishr dX5_mayDo_7 ?_
  refine am_iconst 1 rfl dX5_mayDo_8 ?_
  refine am_iand dX5_mayDo_9 ?_
  refine am_iconst 1 rfl dX5_mayDo_10 ?_
  refine am_icmp_ne dX5_mayDo_11 (tgt := 18) rfl (fun hc2 => ?_) (fun hc2 => ?_)
  · have wp := wp.1 hc2
    refine am_iconst 0 rfl dX5_mayDo_18 ?_
    exact am_iret dX5_mayDo_19 rfl (by decide) wp
  · have wp := wp.2 hc2
    refine am_iconst 1 rfl dX5_mayDo_14 ?_
    refine am_goto dX5_mayDo_15 (tgt := 19) rfl ?_
    exact am_iret dX5_mayDo_19 rfl (by decide) wp
theorem tX5_mayDo {m d : Int32} {j : Nat} (e : m = nI j) (hj : j < 7) (k1 : ((I 24 j >>> (d &&& 31)) &&& 1) = 1 → Q (some (.int 1)) (hp I J b)) (k0 : ¬ ((I 24 j >>> (d &&& 31)) &&& 1) = 1 → Q (some (.int 0)) (hp I J b)) : am_R E mX5_mayDo 0 [some (.ref 23), some (.int m), some (.int d)] [] (hp I J b) 64 64 Q := bX5_mayDo_0 ⟨j, e, hj, k0, k1⟩
theorem bX10_fails_0 {E : Nat × (Nat → Int32)} {I : Nat → Nat → Int32} {J : Nat → Nat → Int64} {b : Bool}  {Q : Option Value → am_H → Prop}  (wp : Q (some (.int 0)) (hp (u2 I 48 13 (I 48 9)) J b)) : am_R E mX10_fails 0 [some (.ref 48)] [] (hp I J b) 64 64 Q := by
  refine am_aload_n rfl rfl dX10_fails_0 ?_
  refine am_aload_n rfl rfl dX10_fails_1 ?_
  refine am_getI dX10_fails_2 flX10_81 (Or.inl rfl) rfl (by decide) ?_
  refine am_putI dX10_fails_5 flX10_106 (Or.inl rfl) rfl rfl (by decide) ?_
  refine am_iconst 0 rfl dX10_fails_8 ?_
  exact am_iret dX10_fails_9 rfl (by decide) wp
theorem bX10_mayBehind_0 {E : Nat × (Nat → Int32)} {I : Nat → Nat → Int32} {J : Nat → Nat → Int64} {b : Bool} {a1 : Int32} {a2 : Int32} {a3 : Int32} {Q : Option Value → am_H → Prop}  (wp : ∃ j1, a2 = nI j1 ∧ j1 < 7 ∧ ((¬ (I 51 j1) = 1 → ∃ j3, ((7 * a1) + a2) = nI j3 ∧ j3 < 49 ∧ (((I 49 j3) ≤ 0 → Q (some (.int 0)) (hp I J b)) ∧ (¬ (I 49 j3) ≤ 0 → ((¬ (I 51 j1) = 2 → Q (some (.int 1)) (hp I J b)) ∧ ((I 51 j1) = 2 → ((a3 = a2 → Q (some (.int 0)) (hp I J b)) ∧ (¬ a3 = a2 → Q (some (.int 1)) (hp I J b)))))))) ∧ ((I 51 j1) = 1 → ((a3 = (-1) → ∃ j8, ((7 * a1) + a2) = nI j8 ∧ j8 < 49 ∧ (((I 49 j8) ≤ 0 → Q (some (.int 0)) (hp I J b)) ∧ (¬ (I 49 j8) ≤ 0 → ((¬ (I 51 j1) = 2 → Q (some (.int 1)) (hp I J b)) ∧ ((I 51 j1) = 2 → ((a3 = a2 → Q (some (.int 0)) (hp I J b)) ∧ (¬ a3 = a2 → Q (some (.int 1)) (hp I J b)))))))) ∧ (¬ a3 = (-1) → ∃ j12, a3 = nI j12 ∧ j12 < 7 ∧ ((¬ (I 51 j12) = 1 → ∃ j14, ((7 * a1) + a2) = nI j14 ∧ j14 < 49 ∧ (((I 49 j14) ≤ 0 → Q (some (.int 0)) (hp I J b)) ∧ (¬ (I 49 j14) ≤ 0 → ((¬ (I 51 j1) = 2 → Q (some (.int 1)) (hp I J b)) ∧ ((I 51 j1) = 2 → ((a3 = a2 → Q (some (.int 0)) (hp I J b)) ∧ (¬ a3 = a2 → Q (some (.int 1)) (hp I J b)))))))) ∧ ((I 51 j12) = 1 → ∃ j18, ((7 * a1) + a2) = nI j18 ∧ j18 < 49 ∧ (((I 49 j18) ≤ 0 → Q (some (.int 0)) (hp I J b)) ∧ (¬ (I 49 j18) ≤ 0 → Q (some (.int 0)) (hp I J b)))))))))) : am_R E mX10_mayBehind 0 [some (.ref 48), some (.int a1), some (.int a2), some (.int a3), none] [] (hp I J b) 64 64 Q := by
  refine am_aload_n rfl rfl dX10_mayBehind_0 ?_
  refine am_getA (r := 51) dX10_mayBehind_1 flX10_23 (Or.inr ⟨_, rfl⟩) rfl (by decide) rfl ?_
  refine am_iload_n rfl rfl dX10_mayBehind_4 ?_
  obtain ⟨j1, e1, w1, wp⟩ := wp
  refine am_ialdN (j := j1) dX10_mayBehind_5 rfl (by decide) e1 w1 (by decide) ?_
  refine am_iconst 1 rfl dX10_mayBehind_6 ?_
  refine am_icmp_ne dX10_mayBehind_7 (tgt := 29) rfl (fun hc2 => ?_) (fun hc2 => ?_)
  · have wp := wp.1 hc2
    refine am_iconst 0 rfl dX10_mayBehind_29 ?_
    refine am_istore (ls' := [some (.ref 48), some (.int a1), some (.int a2), some (.int a3), some (.int 0)]) (by decide) rfl rfl dX10_mayBehind_30 ?_
    refine am_aload_n rfl rfl dX10_mayBehind_32 ?_
    refine am_getA (r := 49) dX10_mayBehind_33 flX10_16 (Or.inr ⟨_, rfl⟩) rfl (by decide) rfl ?_
    refine am_bipush 7 rfl dX10_mayBehind_36 ?_
    refine am_iload_n rfl rfl dX10_mayBehind_38 ?_
    refine am_imul dX10_mayBehind_39 ?_
    refine am_iload_n rfl rfl dX10_mayBehind_40 ?_
    refine am_iadd dX10_mayBehind_41 ?_
    obtain ⟨j3, e3, w3, wp⟩ := wp
    refine am_ialdN (j := j3) dX10_mayBehind_42 rfl (by decide) e3 w3 (by decide) ?_
    refine am_if_le dX10_mayBehind_43 (tgt := 70) rfl (fun hc4 => ?_) (fun hc4 => ?_)
    · have wp := wp.1 hc4
      refine am_iconst 0 rfl dX10_mayBehind_70 ?_
      exact am_iret dX10_mayBehind_71 rfl (by decide) wp
    · have wp := wp.2 hc4
      refine am_iload rfl dX10_mayBehind_46 ?_
      refine am_if_ne dX10_mayBehind_48 (tgt := 70) rfl (fun hc => absurd hc (by decide)) (fun _ => ?_)
      refine am_aload_n rfl rfl dX10_mayBehind_51 ?_
      refine am_getA (r := 51) dX10_mayBehind_52 flX10_23 (Or.inr ⟨_, rfl⟩) rfl (by decide) rfl ?_
      refine am_iload_n rfl rfl dX10_mayBehind_55 ?_
      refine am_ialdN (j := j1) dX10_mayBehind_56 rfl (by decide) e1 w1 (by decide) ?_
      refine am_iconst 2 rfl dX10_mayBehind_57 ?_
      refine am_icmp_ne dX10_mayBehind_58 (tgt := 66) rfl (fun hc5 => ?_) (fun hc5 => ?_)
      · have wp := wp.1 hc5
        refine am_iconst 1 rfl dX10_mayBehind_66 ?_
        refine am_goto dX10_mayBehind_67 (tgt := 71) rfl ?_
        exact am_iret dX10_mayBehind_71 rfl (by decide) wp
      · have wp := wp.2 hc5
        refine am_iload_n rfl rfl dX10_mayBehind_61 ?_
        refine am_iload_n rfl rfl dX10_mayBehind_62 ?_
        refine am_icmp_eq dX10_mayBehind_63 (tgt := 70) rfl (fun hc6 => ?_) (fun hc6 => ?_)
        · have wp := wp.1 hc6
          refine am_iconst 0 rfl dX10_mayBehind_70 ?_
          exact am_iret dX10_mayBehind_71 rfl (by decide) wp
        · have wp := wp.2 hc6
          refine am_iconst 1 rfl dX10_mayBehind_66 ?_
          refine am_goto dX10_mayBehind_67 (tgt := 71) rfl ?_
          exact am_iret dX10_mayBehind_71 rfl (by decide) wp
  · have wp := wp.2 hc2
    refine am_iload_n rfl rfl dX10_mayBehind_10 ?_
    refine am_iconst (-1) rfl dX10_mayBehind_11 ?_
    refine am_icmp_eq dX10_mayBehind_12 (tgt := 29) rfl (fun hc7 => ?_) (fun hc7 => ?_)
    · have wp := wp.1 hc7
      refine am_iconst 0 rfl dX10_mayBehind_29 ?_
      refine am_istore (ls' := [some (.ref 48), some (.int a1), some (.int a2), some (.int a3), some (.int 0)]) (by decide) rfl rfl dX10_mayBehind_30 ?_
      refine am_aload_n rfl rfl dX10_mayBehind_32 ?_
      refine am_getA (r := 49) dX10_mayBehind_33 flX10_16 (Or.inr ⟨_, rfl⟩) rfl (by decide) rfl ?_
      refine am_bipush 7 rfl dX10_mayBehind_36 ?_
      refine am_iload_n rfl rfl dX10_mayBehind_38 ?_
      refine am_imul dX10_mayBehind_39 ?_
      refine am_iload_n rfl rfl dX10_mayBehind_40 ?_
      refine am_iadd dX10_mayBehind_41 ?_
      obtain ⟨j8, e8, w8, wp⟩ := wp
      refine am_ialdN (j := j8) dX10_mayBehind_42 rfl (by decide) e8 w8 (by decide) ?_
      refine am_if_le dX10_mayBehind_43 (tgt := 70) rfl (fun hc9 => ?_) (fun hc9 => ?_)
      · have wp := wp.1 hc9
        refine am_iconst 0 rfl dX10_mayBehind_70 ?_
        exact am_iret dX10_mayBehind_71 rfl (by decide) wp
      · have wp := wp.2 hc9
        refine am_iload rfl dX10_mayBehind_46 ?_
        refine am_if_ne dX10_mayBehind_48 (tgt := 70) rfl (fun hc => absurd hc (by decide)) (fun _ => ?_)
        refine am_aload_n rfl rfl dX10_mayBehind_51 ?_
        refine am_getA (r := 51) dX10_mayBehind_52 flX10_23 (Or.inr ⟨_, rfl⟩) rfl (by decide) rfl ?_
        refine am_iload_n rfl rfl dX10_mayBehind_55 ?_
        refine am_ialdN (j := j1) dX10_mayBehind_56 rfl (by decide) e1 w1 (by decide) ?_
        refine am_iconst 2 rfl dX10_mayBehind_57 ?_
        refine am_icmp_ne dX10_mayBehind_58 (tgt := 66) rfl (fun hc10 => ?_) (fun hc10 => ?_)
        · have wp := wp.1 hc10
          refine am_iconst 1 rfl dX10_mayBehind_66 ?_
          refine am_goto dX10_mayBehind_67 (tgt := 71) rfl ?_
          exact am_iret dX10_mayBehind_71 rfl (by decide) wp
        · have wp := wp.2 hc10
          refine am_iload_n rfl rfl dX10_mayBehind_61 ?_
          refine am_iload_n rfl rfl dX10_mayBehind_62 ?_
          refine am_icmp_eq dX10_mayBehind_63 (tgt := 70) rfl (fun hc11 => ?_) (fun hc11 => ?_)
          · have wp := wp.1 hc11
            refine am_iconst 0 rfl dX10_mayBehind_70 ?_
            exact am_iret dX10_mayBehind_71 rfl (by decide) wp
          · have wp := wp.2 hc11
            refine am_iconst 1 rfl dX10_mayBehind_66 ?_
            refine am_goto dX10_mayBehind_67 (tgt := 71) rfl ?_
            exact am_iret dX10_mayBehind_71 rfl (by decide) wp
    · have wp := wp.2 hc7
      refine am_aload_n rfl rfl dX10_mayBehind_15 ?_
      refine am_getA (r := 51) dX10_mayBehind_16 flX10_23 (Or.inr ⟨_, rfl⟩) rfl (by decide) rfl ?_
      refine am_iload_n rfl rfl dX10_mayBehind_19 ?_
      obtain ⟨j12, e12, w12, wp⟩ := wp
      refine am_ialdN (j := j12) dX10_mayBehind_20 rfl (by decide) e12 w12 (by decide) ?_
      refine am_iconst 1 rfl dX10_mayBehind_21 ?_
      refine am_icmp_ne dX10_mayBehind_22 (tgt := 29) rfl (fun hc13 => ?_) (fun hc13 => ?_)
      · have wp := wp.1 hc13
        refine am_iconst 0 rfl dX10_mayBehind_29 ?_
        refine am_istore (ls' := [some (.ref 48), some (.int a1), some (.int a2), some (.int a3), some (.int 0)]) (by decide) rfl rfl dX10_mayBehind_30 ?_
        refine am_aload_n rfl rfl dX10_mayBehind_32 ?_
        refine am_getA (r := 49) dX10_mayBehind_33 flX10_16 (Or.inr ⟨_, rfl⟩) rfl (by decide) rfl ?_
        refine am_bipush 7 rfl dX10_mayBehind_36 ?_
        refine am_iload_n rfl rfl dX10_mayBehind_38 ?_
        refine am_imul dX10_mayBehind_39 ?_
        refine am_iload_n rfl rfl dX10_mayBehind_40 ?_
        refine am_iadd dX10_mayBehind_41 ?_
        obtain ⟨j14, e14, w14, wp⟩ := wp
        refine am_ialdN (j := j14) dX10_mayBehind_42 rfl (by decide) e14 w14 (by decide) ?_
        refine am_if_le dX10_mayBehind_43 (tgt := 70) rfl (fun hc15 => ?_) (fun hc15 => ?_)
        · have wp := wp.1 hc15
          refine am_iconst 0 rfl dX10_mayBehind_70 ?_
          exact am_iret dX10_mayBehind_71 rfl (by decide) wp
        · have wp := wp.2 hc15
          refine am_iload rfl dX10_mayBehind_46 ?_
          refine am_if_ne dX10_mayBehind_48 (tgt := 70) rfl (fun hc => absurd hc (by decide)) (fun _ => ?_)
          refine am_aload_n rfl rfl dX10_mayBehind_51 ?_
          refine am_getA (r := 51) dX10_mayBehind_52 flX10_23 (Or.inr ⟨_, rfl⟩) rfl (by decide) rfl ?_
          refine am_iload_n rfl rfl dX10_mayBehind_55 ?_
          refine am_ialdN (j := j1) dX10_mayBehind_56 rfl (by decide) e1 w1 (by decide) ?_
          refine am_iconst 2 rfl dX10_mayBehind_57 ?_
          refine am_icmp_ne dX10_mayBehind_58 (tgt := 66) rfl (fun hc16 => ?_) (fun hc16 => ?_)
          · have wp := wp.1 hc16
            refine am_iconst 1 rfl dX10_mayBehind_66 ?_
            refine am_goto dX10_mayBehind_67 (tgt := 71) rfl ?_
            exact am_iret dX10_mayBehind_71 rfl (by decide) wp
          · have wp := wp.2 hc16
            refine am_iload_n rfl rfl dX10_mayBehind_61 ?_
            refine am_iload_n rfl rfl dX10_mayBehind_62 ?_
            refine am_icmp_eq dX10_mayBehind_63 (tgt := 70) rfl (fun hc17 => ?_) (fun hc17 => ?_)
            · have wp := wp.1 hc17
              refine am_iconst 0 rfl dX10_mayBehind_70 ?_
              exact am_iret dX10_mayBehind_71 rfl (by decide) wp
            · have wp := wp.2 hc17
              refine am_iconst 1 rfl dX10_mayBehind_66 ?_
              refine am_goto dX10_mayBehind_67 (tgt := 71) rfl ?_
              exact am_iret dX10_mayBehind_71 rfl (by decide) wp
      · have wp := wp.2 hc13
        refine am_iconst 1 rfl dX10_mayBehind_25 ?_
        refine am_goto dX10_mayBehind_26 (tgt := 30) rfl ?_
        refine am_istore (ls' := [some (.ref 48), some (.int a1), some (.int a2), some (.int a3), some (.int 1)]) (by decide) rfl rfl dX10_mayBehind_30 ?_
        refine am_aload_n rfl rfl dX10_mayBehind_32 ?_
        refine am_getA (r := 49) dX10_mayBehind_33 flX10_16 (Or.inr ⟨_, rfl⟩) rfl (by decide) rfl ?_
        refine am_bipush 7 rfl dX10_mayBehind_36 ?_
        refine am_iload_n rfl rfl dX10_mayBehind_38 ?_
        refine am_imul dX10_mayBehind_39 ?_
        refine am_iload_n rfl rfl dX10_mayBehind_40 ?_
        refine am_iadd dX10_mayBehind_41 ?_
        obtain ⟨j18, e18, w18, wp⟩ := wp
        refine am_ialdN (j := j18) dX10_mayBehind_42 rfl (by decide) e18 w18 (by decide) ?_
        refine am_if_le dX10_mayBehind_43 (tgt := 70) rfl (fun hc19 => ?_) (fun hc19 => ?_)
        · have wp := wp.1 hc19
          refine am_iconst 0 rfl dX10_mayBehind_70 ?_
          exact am_iret dX10_mayBehind_71 rfl (by decide) wp
        · have wp := wp.2 hc19
          refine am_iload rfl dX10_mayBehind_46 ?_
          refine am_if_ne dX10_mayBehind_48 (tgt := 70) rfl (fun _ => ?_) (fun hc => absurd hc (by decide))
          refine am_iconst 0 rfl dX10_mayBehind_70 ?_
          exact am_iret dX10_mayBehind_71 rfl (by decide) wp
theorem k7 (m d : Nat) : 7 * nI m + nI d = nI (7 * m + d) := by
  rw [show (7 : Int32) = nI 7 from rfl, pk_mul, nI_add]
theorem k7' (m d : Nat) : nI m * 7 + nI d = nI (7 * m + d) := by
  rw [show (7 : Int32) = nI 7 from rfl, pk_mul, nI_add, Nat.mul_comm]
/-- of the reference's cells: a monk may do a duty behind what it did -/
abbrev mb (I : Nat → Nat → Int32) (m d : Nat) (y : Int32) : Prop := 0 < I 49 (7 * m + d) ∧ ¬ (I 51 d = 1 ∧ ¬ y = -1 ∧ I 51 y.toNatClampNeg = 1) ∧ (¬ I 51 d = 2 ∨ ¬ y = nI d)
theorem tX10_mayBehind {a1 a2 y : Int32} {m d : Nat} (em : a1 = nI m) (hm : m < 7) (ed : a2 = nI d) (hd : d < 7) (hy : y = -1 ∨ ∃ e, e < 7 ∧ y = nI e) (k1 : mb I m d y → Q (some (.int 1)) (hp I J b)) (k0 : ¬ mb I m d y → Q (some (.int 0)) (hp I J b)) : am_R E mX10_mayBehind 0 [some (.ref 48), some (.int a1), some (.int a2), some (.int y), none] [] (hp I J b) 64 64 Q := by
  subst em; subst ed
  have hl : 7 * m + d < 49 := by omega
  refine bX10_mayBehind_0 ⟨d, rfl, hd, ⟨fun h1 => ⟨7 * m + d, k7 m d, hl, fun h2 => k0 (fun q => Int32.not_le.mpr q.1 h2), fun h2 => ⟨fun h3 => k1 ⟨nle h2, fun q => h1 q.1, Or.inl h3⟩, fun h3 => ⟨fun h4 => k0 (fun q => q.2.2.elim (fun z => z h3) (fun z => z h4)), fun h4 => k1 ⟨nle h2, fun q => h1 q.1, Or.inr h4⟩⟩⟩⟩, fun h1 => ⟨fun h5 => ⟨7 * m + d, k7 m d, hl, fun h2 => k0 (fun q => Int32.not_le.mpr q.1 h2), fun h2 => ⟨fun h3 => k1 ⟨nle h2, fun q => q.2.1 h5, Or.inl h3⟩, fun h3 => ⟨fun h4 => k0 (fun q => q.2.2.elim (fun z => z h3) (fun z => z h4)), fun h4 => k1 ⟨nle h2, fun q => q.2.1 h5, Or.inr h4⟩⟩⟩⟩, fun h5 => ?_⟩⟩⟩
  rcases hy with hy | ⟨e, he, hy⟩
  · exact absurd hy h5
  · have hc : y.toNatClampNeg = e := by rw [hy]; exact nI_clamp (by omega)
    refine ⟨e, hy, he, fun h6 => ⟨7 * m + d, k7 m d, hl, fun h2 => k0 (fun q => Int32.not_le.mpr q.1 h2), fun h2 => ⟨fun h3 => k1 ⟨nle h2, fun q => h6 (by rw [← hc]; exact q.2.2), Or.inl h3⟩, fun h3 => ⟨fun h4 => k0 (fun q => q.2.2.elim (fun z => z h3) (fun z => z h4)), fun h4 => k1 ⟨nle h2, fun q => h6 (by rw [← hc]; exact q.2.2), Or.inr h4⟩⟩⟩⟩, fun h6 => ⟨7 * m + d, k7 m d, hl, fun h2 => k0 (fun q => Int32.not_le.mpr q.1 h2), fun h2 => k0 (fun q => q.2.1 ⟨h1, h5, by rw [hc]; exact h6⟩)⟩⟩
theorem bX2_mayFollow_0 {E : Nat × (Nat → Int32)} {I : Nat → Nat → Int32} {J : Nat → Nat → Int64} {b : Bool} {n : Nat} (hn : 48 ≤ n) {a1 : Int32} {a2 : Int32} {Q : Option Value → am_H → Prop}  (wp : ((a2 < 0 → Q (some (.int 1)) (hp I J b)) ∧ (¬ a2 < 0 → ((a2 < (I 4 0) → ∃ j3, a1 = nI j3 ∧ j3 < 7 ∧ ((¬ (I 7 j3) = 2 → ((¬ (I 7 j3) = 3 → Q (some (.int 1)) (hp I J b)) ∧ ((I 7 j3) = 3 → ((a2 = a1 → Q (some (.int 0)) (hp I J b)) ∧ (¬ a2 = a1 → Q (some (.int 1)) (hp I J b)))))) ∧ ((I 7 j3) = 2 → ∃ j7, a2 = nI j7 ∧ j7 < 7 ∧ (((I 7 j7) = 2 → Q (some (.int 0)) (hp I J b)) ∧ (¬ (I 7 j7) = 2 → Q (some (.int 1)) (hp I J b)))))) ∧ (¬ a2 < (I 4 0) → Q (some (.int 1)) (hp I J b)))))) : am_R E mX2_mayFollow 0 [some (.ref 4), some (.int a1), some (.int a2)] [] (hp I J b) n n Q := by
  refine am_iload_n rfl rfl dX2_mayFollow_0 ?_
  refine am_if_lt dX2_mayFollow_1 (tgt := 12) rfl (fun hc1 => ?_) (fun hc1 => ?_)
  · have wp := wp.1 hc1
    refine am_iconst 1 rfl dX2_mayFollow_12 ?_
    exact am_iret dX2_mayFollow_13 rfl (by decide) wp
  · have wp := wp.2 hc1
    refine am_iload_n rfl rfl dX2_mayFollow_4 ?_
    refine am_aload_n rfl rfl dX2_mayFollow_5 ?_
    refine am_getI dX2_mayFollow_6 flX2_24 (Or.inl rfl) rfl (by omega) ?_
    refine am_icmp_lt dX2_mayFollow_9 (tgt := 14) rfl (fun hc2 => ?_) (fun hc2 => ?_)
    · have wp := wp.1 hc2
      refine am_aload_n rfl rfl dX2_mayFollow_14 ?_
      refine am_getA (r := 7) dX2_mayFollow_15 flX2_18 (Or.inr ⟨_, rfl⟩) rfl (by omega) rfl ?_
      refine am_iload_n rfl rfl dX2_mayFollow_18 ?_
      obtain ⟨j3, e3, w3, wp⟩ := wp
      refine am_ialdN (j := j3) dX2_mayFollow_19 rfl (by omega) e3 w3 (by decide) ?_
      refine am_iconst 2 rfl dX2_mayFollow_20 ?_
      refine am_icmp_ne dX2_mayFollow_21 (tgt := 40) rfl (fun hc4 => ?_) (fun hc4 => ?_)
      · have wp := wp.1 hc4
        refine am_aload_n rfl rfl dX2_mayFollow_40 ?_
        refine am_getA (r := 7) dX2_mayFollow_41 flX2_18 (Or.inr ⟨_, rfl⟩) rfl (by omega) rfl ?_
        refine am_iload_n rfl rfl dX2_mayFollow_44 ?_
        refine am_ialdN (j := j3) dX2_mayFollow_45 rfl (by omega) e3 w3 (by decide) ?_
        refine am_iconst 3 rfl dX2_mayFollow_46 ?_
        refine am_icmp_ne dX2_mayFollow_47 (tgt := 55) rfl (fun hc5 => ?_) (fun hc5 => ?_)
        · have wp := wp.1 hc5
          refine am_iconst 1 rfl dX2_mayFollow_55 ?_
          refine am_goto dX2_mayFollow_56 (tgt := 60) rfl ?_
          exact am_iret dX2_mayFollow_60 rfl (by decide) wp
        · have wp := wp.2 hc5
          refine am_iload_n rfl rfl dX2_mayFollow_50 ?_
          refine am_iload_n rfl rfl dX2_mayFollow_51 ?_
          refine am_icmp_eq dX2_mayFollow_52 (tgt := 59) rfl (fun hc6 => ?_) (fun hc6 => ?_)
          · have wp := wp.1 hc6
            refine am_iconst 0 rfl dX2_mayFollow_59 ?_
            exact am_iret dX2_mayFollow_60 rfl (by decide) wp
          · have wp := wp.2 hc6
            refine am_iconst 1 rfl dX2_mayFollow_55 ?_
            refine am_goto dX2_mayFollow_56 (tgt := 60) rfl ?_
            exact am_iret dX2_mayFollow_60 rfl (by decide) wp
      · have wp := wp.2 hc4
        refine am_aload_n rfl rfl dX2_mayFollow_24 ?_
        refine am_getA (r := 7) dX2_mayFollow_25 flX2_18 (Or.inr ⟨_, rfl⟩) rfl (by omega) rfl ?_
        refine am_iload_n rfl rfl dX2_mayFollow_28 ?_
        obtain ⟨j7, e7, w7, wp⟩ := wp
        refine am_ialdN (j := j7) dX2_mayFollow_29 rfl (by omega) e7 w7 (by decide) ?_
        refine am_iconst 2 rfl dX2_mayFollow_30 ?_
        refine am_icmp_eq dX2_mayFollow_31 (tgt := 38) rfl (fun hc8 => ?_) (fun hc8 => ?_)
        · have wp := wp.1 hc8
          refine am_iconst 0 rfl dX2_mayFollow_38 ?_
          exact am_iret dX2_mayFollow_39 rfl (by decide) wp
        · have wp := wp.2 hc8
          refine am_iconst 1 rfl dX2_mayFollow_34 ?_
          refine am_goto dX2_mayFollow_35 (tgt := 39) rfl ?_
          exact am_iret dX2_mayFollow_39 rfl (by decide) wp
    · have wp := wp.2 hc2
      refine am_iconst 1 rfl dX2_mayFollow_12 ?_
      exact am_iret dX2_mayFollow_13 rfl (by decide) wp
/-- of the class's cells: a duty may come behind another -/
abbrev mf (I : Nat → Nat → Int32) (d : Nat) (y : Int32) : Prop := ¬ (I 7 d = 2 ∧ ¬ y = -1 ∧ I 7 y.toNatClampNeg = 2) ∧ (¬ I 7 d = 3 ∨ ¬ y = nI d)
theorem tX2_mayFollow {n : Nat} (hn : 48 ≤ n) {a1 y : Int32} {d v : Nat} (ed : a1 = nI d) (hd : d < 7) (hv : I 4 0 = nI v) (hv7 : v ≤ 7) (hdv : d < v) (hy : y = -1 ∨ ∃ e, e < v ∧ y = nI e) (k1 : mf I d y → Q (some (.int 1)) (hp I J b)) (k0 : ¬ mf I d y → Q (some (.int 0)) (hp I J b)) : am_R E mX2_mayFollow 0 [some (.ref 4), some (.int a1), some (.int y)] [] (hp I J b) n n Q := by
  subst ed
  have hm1 : ∀ e : Nat, e < 7 → ¬ (-1 : Int32) = nI e := by decide
  refine bX2_mayFollow_0 hn ⟨fun h => k1 ?_, fun h => ?_⟩
  · rcases hy with hy | ⟨e, he, hy⟩
    · exact ⟨fun q => q.2.1 hy, Or.inr (by rw [hy]; exact hm1 d hd)⟩
    · rw [hy] at h; exact absurd h (nI_pos (by omega))
  · rcases hy with hy | ⟨e, he, hy⟩
    · rw [hy] at h; exact absurd (by decide) h
    · have hc : y.toNatClampNeg = e := by rw [hy]; exact nI_clamp (by omega)
      have hn1 : ¬ y = -1 := by rw [hy]; exact fun z => hm1 e (by omega) z.symm
      refine ⟨fun _ => ⟨d, rfl, hd, ⟨fun h1 => ⟨fun h2 => k1 ⟨fun q => h1 q.1, Or.inl h2⟩, fun h2 => ⟨fun h3 => k0 (fun q => q.2.elim (fun z => z h2) (fun z => z h3)), fun h3 => k1 ⟨fun q => h1 q.1, Or.inr h3⟩⟩⟩, fun h1 => ⟨e, hy, by omega, fun h2 => k0 (fun q => q.1 ⟨h1, hn1, by rw [hc]; exact h2⟩), fun h2 => k1 ⟨fun q => h2 (by rw [← hc]; exact q.2.2), Or.inl (by rw [h1]; decide)⟩⟩⟩⟩, fun h1 => absurd (by rw [hv, hy]; exact nI_lt he (by omega)) h1⟩
end T0
