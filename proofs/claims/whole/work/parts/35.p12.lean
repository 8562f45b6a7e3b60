/-! ===== pairs: tail, named ===== -/
section P12
variable {E : Nat × (Nat → Int32)} {I I' : Nat → Nat → Int32} {J : Nat → Nat → Int64} {b : Bool} {n : Nat} {Q : Option Value → am_H → Prop}
/-- choices, as the class finds them -/
def bnC (D : Nat) : Nat → Nat
  | 0 => 1
  | t + 1 => bnC D t * (D - t) / (t + 1)
/-- choices, as the reference finds them -/
def mdV (D j : Nat) : Nat → Nat
  | 0 => 1
  | k + 1 => mdV D j k * (D - j + (k + 1)) / (k + 1)
theorem bn_ok : ∀ D, D < 17 → ∀ j, j < D + 1 → bnC D j = mdV D j j ∧ bnC D j ≤ 12870 ∧ ∀ k, k < j + 1 → mdV D j k ≤ 12870 := by decide +kernel
/-- ways in which one lot falls l times or more, of those below T -/
def wy (n D l T : Nat) : Nat := fb_sm (fun t => if l ≤ t then bnC D t * (n - 1) ^ (D - t) else 0) T
theorem bX0_power_0 {E : Nat × (Nat → Int32)} {I : Nat → Nat → Int32} {J : Nat → Nat → Int64} {b : Bool} {a0 : Int64} {a2 : Int32} {Q : Option Value → am_H → Prop}  (wp : am_R E mX0_power 5 [some (.long a0), none, some (.int a2), some (.long 1), none, some (.int 0)] [] (hp I J b) 64 64 Q) : am_R E mX0_power 0 [some (.long a0), none, some (.int a2), none, none, none] [] (hp I J b) 64 64 Q := by
  refine am_lconst 1 rfl dX0_power_0 ?_
  refine am_lstore_n (ls' := [some (.long a0), none, some (.int a2), some (.long 1), none, none]) rfl (by decide) rfl rfl dX0_power_1 ?_
  refine am_iconst 0 rfl dX0_power_2 ?_
  refine am_istore (ls' := [some (.long a0), none, some (.int a2), some (.long 1), none, some (.int 0)]) (by decide) rfl rfl dX0_power_3 ?_
  exact am_R.forget wp ⟨rfl, ⟨rfl, ⟨rfl, ⟨rfl, trivial⟩⟩⟩⟩
theorem bX0_power_5 {E : Nat × (Nat → Int32)} {I : Nat → Nat → Int32} {J : Nat → Nat → Int64} {b : Bool} {a0 : Int64} {a2 : Int32} {a3 : Int64} {a5 : Int32} {Q : Option Value → am_H → Prop}  (wp : ((a2 ≤ a5 → Q (some (.long a3)) (hp I J b)) ∧ (¬ a2 ≤ a5 → am_R E mX0_power 5 [some (.long a0), none, some (.int a2), some (.long (a3 * a0)), none, some (.int (a5 + 1))] [] (hp I J b) 64 64 Q))) : am_R E mX0_power 5 [some (.long a0), none, some (.int a2), some (.long a3), none, some (.int a5)] [] (hp I J b) 64 64 Q := by
  refine am_iload rfl dX0_power_5 ?_
  refine am_iload_n rfl rfl dX0_power_7 ?_
  refine am_icmp_ge dX0_power_8 (tgt := 21) rfl (fun hc1 => ?_) (fun hc1 => ?_)
  · have wp := wp.1 hc1
    refine am_lload_n rfl rfl dX0_power_21 ?_
    exact am_lret dX0_power_22 rfl wp
  · have wp := wp.2 hc1
    refine am_lload_n rfl rfl dX0_power_11 ?_
    refine am_lload_n rfl rfl dX0_power_12 ?_
    refine am_lmul dX0_power_13 ?_
    refine am_lstore_n (ls' := [some (.long a0), none, some (.int a2), some (.long (a3 * a0)), none, some (.int a5)]) rfl (by decide) rfl rfl dX0_power_14 ?_
    refine am_iinc (ls' := [some (.long a0), none, some (.int a2), some (.long (a3 * a0)), none, some (.int (a5 + 1))]) (by decide) rfl rfl rfl dX0_power_15 ?_
    refine am_goto dX0_power_18 (tgt := 5) rfl ?_
    exact am_R.forget wp ⟨rfl, ⟨rfl, ⟨rfl, ⟨rfl, trivial⟩⟩⟩⟩
theorem tX0_power {a0 : Int64} {a2 : Int32} {x t : Nat} (ex : a0 = lN x) (et : a2 = nI t) (ht : t < 2 ^ 31) (k : Q (some (.long (lN (x ^ t)))) (hp I J b)) : am_R E mX0_power 0 [some (.long a0), none, some (.int a2), none, none, none] [] (hp I J b) 64 64 Q := by
  subst ex; subst et
  refine bX0_power_0 (lp_up (n := t) (P := fun i => am_R E mX0_power 5 [some (.long (lN x)), none, some (.int (nI t)), some (.long (lN (x ^ i))), none, some (.int (nI i))] [] (hp I J b) 64 64 Q) ?_ ?_)
  · exact bX0_power_5 (le_br rfl rfl ht ht (fun _ => k) (fun h => by omega))
  · intro i hi ih
    refine bX0_power_5 (le_br rfl rfl ht (by omega) (fun h => by omega) (fun _ => ?_))
    rw [lN_mul, n1, ← Nat.pow_succ]; exact ih
theorem bX10_tailDown_0 {E : Nat × (Nat → Int32)} {I : Nat → Nat → Int32} {J : Nat → Nat → Int64} {b : Bool}  {Q : Option Value → am_H → Prop}  (wp : am_R E mX10_tailDown 4 [some (.ref 48), some (.long 1), none, some (.int 0)] [] (hp I J b) 64 64 Q) : am_R E mX10_tailDown 0 [some (.ref 48), none, none, none] [] (hp I J b) 64 64 Q := by
  refine am_lconst 1 rfl dX10_tailDown_0 ?_
  refine am_lstore_n (ls' := [some (.ref 48), some (.long 1), none, none]) rfl (by decide) rfl rfl dX10_tailDown_1 ?_
  refine am_iconst 0 rfl dX10_tailDown_2 ?_
  refine am_istore_n (ls' := [some (.ref 48), some (.long 1), none, some (.int 0)]) rfl (by decide) rfl rfl dX10_tailDown_3 ?_
  exact am_R.forget wp ⟨rfl, ⟨rfl, ⟨rfl, trivial⟩⟩⟩
theorem bX10_tailDown_4 {E : Nat × (Nat → Int32)} {I : Nat → Nat → Int32} {J : Nat → Nat → Int64} {b : Bool} {a1 : Int64} {a3 : Int32} {Q : Option Value → am_H → Prop}  (wp : (((I 55 15) ≤ a3 → Q (some (.long a1)) (hp I J b)) ∧ (¬ (I 55 15) ≤ a3 → am_R E mX10_tailDown 4 [some (.ref 48), some (.long (a1 * (Int32.toInt64 (I 48 0)))), none, some (.int (a3 + 1))] [] (hp I J b) 64 64 Q))) : am_R E mX10_tailDown 4 [some (.ref 48), some (.long a1), none, some (.int a3)] [] (hp I J b) 64 64 Q := by
  refine am_iload_n rfl rfl dX10_tailDown_4 ?_
  refine am_aload_n rfl rfl dX10_tailDown_5 ?_
  refine am_getA (r := 55) dX10_tailDown_6 flX10_35 (Or.inr ⟨_, rfl⟩) rfl (by decide) rfl ?_
  refine am_bipush 15 rfl dX10_tailDown_9 ?_
  refine am_ialdN (j := 15) dX10_tailDown_11 rfl (by decide) rfl (by decide) (by decide) ?_
  refine am_icmp_ge dX10_tailDown_12 (tgt := 29) rfl (fun hc1 => ?_) (fun hc1 => ?_)
  · have wp := wp.1 hc1
    refine am_lload_n rfl rfl dX10_tailDown_29 ?_
    exact am_lret dX10_tailDown_30 rfl wp
  · have wp := wp.2 hc1
    refine am_lload_n rfl rfl dX10_tailDown_15 ?_
    refine am_aload_n rfl rfl dX10_tailDown_16 ?_
    refine am_getI dX10_tailDown_17 flX10_7 (Or.inl rfl) rfl (by decide) ?_
    refine am_i2l dX10_tailDown_20 ?_
    refine am_lmul dX10_tailDown_21 ?_
    refine am_lstore_n (ls' := [some (.ref 48), some (.long (a1 * (Int32.toInt64 (I 48 0)))), none, some (.int a3)]) rfl (by decide) rfl rfl dX10_tailDown_22 ?_
    refine am_iinc (ls' := [some (.ref 48), some (.long (a1 * (Int32.toInt64 (I 48 0)))), none, some (.int (a3 + 1))]) (by decide) rfl rfl rfl dX10_tailDown_23 ?_
    refine am_goto dX10_tailDown_26 (tgt := 4) rfl ?_
    exact am_R.forget wp ⟨rfl, ⟨rfl, ⟨rfl, trivial⟩⟩⟩
theorem tX10_tailDown {D : Nat} (hN : Nn I n) (hD : D ≤ 16) (e : I 55 15 = nI D) (k : Q (some (.long (lN (n ^ D)))) (hp I J b)) : am_R E mX10_tailDown 0 [some (.ref 48), none, none, none] [] (hp I J b) 64 64 Q := by
  obtain ⟨n0, n2, n7⟩ := hN
  refine bX10_tailDown_0 (lp_up (n := D) (P := fun i => am_R E mX10_tailDown 4 [some (.ref 48), some (.long (lN (n ^ i))), none, some (.int (nI i))] [] (hp I J b) 64 64 Q) ?_ ?_)
  · exact bX10_tailDown_4 (le_br e rfl (by omega) (by omega) (fun _ => k) (fun h => by omega))
  · intro i hi ih
    refine bX10_tailDown_4 (le_br e rfl (by omega) (by omega) (fun h => by omega) (fun _ => ?_))
    rw [n0, nI_l (by omega), lN_mul, n1, ← Nat.pow_succ]; exact ih
theorem bX0_waysOf_0 {E : Nat × (Nat → Int32)} {I : Nat → Nat → Int32} {J : Nat → Nat → Int64} {b : Bool} {a0 : Int32} {a1 : Int32} {a2 : Int32} {Q : Option Value → am_H → Prop}  (wp : am_R E mX0_waysOf 8 [some (.int a0), some (.int a1), some (.int a2), some (.long 0), none, some (.long 1), none, some (.int 0)] [] (hp I J b) 64 64 Q) : am_R E mX0_waysOf 0 [some (.int a0), some (.int a1), some (.int a2), none, none, none, none, none] [] (hp I J b) 64 64 Q := by
  refine am_lconst 0 rfl dX0_waysOf_0 ?_
  refine am_lstore_n (ls' := [some (.int a0), some (.int a1), some (.int a2), some (.long 0), none, none, none, none]) rfl (by decide) rfl rfl dX0_waysOf_1 ?_
  refine am_lconst 1 rfl dX0_waysOf_2 ?_
  refine am_lstore (ls' := [some (.int a0), some (.int a1), some (.int a2), some (.long 0), none, some (.long 1), none, none]) (by decide) rfl rfl dX0_waysOf_3 ?_
  refine am_iconst 0 rfl dX0_waysOf_5 ?_
  refine am_istore (ls' := [some (.int a0), some (.int a1), some (.int a2), some (.long 0), none, some (.long 1), none, some (.int 0)]) (by decide) rfl rfl dX0_waysOf_6 ?_
  exact am_R.forget wp ⟨rfl, ⟨rfl, ⟨rfl, ⟨rfl, ⟨rfl, ⟨rfl, trivial⟩⟩⟩⟩⟩⟩
theorem bX0_waysOf_8 {E : Nat × (Nat → Int32)} {I : Nat → Nat → Int32} {J : Nat → Nat → Int64} {b : Bool} {a0 : Int32} {a1 : Int32} {a2 : Int32} {a3 : Int64} {a5 : Int64} {a7 : Int32} {Q : Option Value → am_H → Prop}  (wp : ((a1 < a7 → Q (some (.long a3)) (hp I J b)) ∧ (¬ a1 < a7 → ((a7 < a0 → ¬ (Int32.toInt64 (a7 + 1)) = 0 ∧ am_R E mX0_waysOf 8 [some (.int a0), some (.int a1), some (.int a2), some (.long a3), none, some (.long ((a5 * (Int32.toInt64 (a1 - a7))) / (Int32.toInt64 (a7 + 1)))), none, some (.int (a7 + 1))] [] (hp I J b) 64 64 Q) ∧ (¬ a7 < a0 → am_R E mX0_power 0 [some (.long (Int32.toInt64 (a2 - 1))), none, some (.int (a1 - a7)), none, none, none] [] (hp I J b) 64 64 (fun r h' => am_R E mX0_waysOf 34 [some (.int a0), some (.int a1), some (.int a2), none, none, some (.long a5), none, some (.int a7)] (r.toList ++ [.long a5, .long a3]) h' 64 64 Q)))))) : am_R E mX0_waysOf 8 [some (.int a0), some (.int a1), some (.int a2), some (.long a3), none, some (.long a5), none, some (.int a7)] [] (hp I J b) 64 64 Q := by
  refine am_iload rfl dX0_waysOf_8 ?_
  refine am_iload_n rfl rfl dX0_waysOf_10 ?_
  refine am_icmp_gt dX0_waysOf_11 (tgt := 59) rfl (fun hc1 => ?_) (fun hc1 => ?_)
  · have wp := wp.1 hc1
    refine am_lload_n rfl rfl dX0_waysOf_59 ?_
    exact am_lret dX0_waysOf_60 rfl wp
  · have wp := wp.2 hc1
    refine am_iload rfl dX0_waysOf_14 ?_
    refine am_iload_n rfl rfl dX0_waysOf_16 ?_
    refine am_icmp_lt dX0_waysOf_17 (tgt := 37) rfl (fun hc2 => ?_) (fun hc2 => ?_)
    · have wp := wp.1 hc2
      refine am_lload rfl dX0_waysOf_37 ?_
      refine am_iload_n rfl rfl dX0_waysOf_39 ?_
      refine am_iload rfl dX0_waysOf_40 ?_
      refine am_isub dX0_waysOf_42 ?_
      refine am_i2l dX0_waysOf_43 ?_
      refine am_lmul dX0_waysOf_44 ?_
      refine am_iload rfl dX0_waysOf_45 ?_
      refine am_iconst 1 rfl dX0_waysOf_47 ?_
      refine am_iadd dX0_waysOf_48 ?_
      refine am_i2l dX0_waysOf_49 ?_
      obtain ⟨w3, wp⟩ := wp
      refine am_ldiv w3 dX0_waysOf_50 ?_
      refine am_lstore (ls' := [some (.int a0), some (.int a1), some (.int a2), some (.long a3), none, some (.long ((a5 * (Int32.toInt64 (a1 - a7))) / (Int32.toInt64 (a7 + 1)))), none, some (.int a7)]) (by decide) rfl rfl dX0_waysOf_51 ?_
      refine am_iinc (ls' := [some (.int a0), some (.int a1), some (.int a2), some (.long a3), none, some (.long ((a5 * (Int32.toInt64 (a1 - a7))) / (Int32.toInt64 (a7 + 1)))), none, some (.int (a7 + 1))]) (by decide) rfl rfl rfl dX0_waysOf_53 ?_
      refine am_goto dX0_waysOf_56 (tgt := 8) rfl ?_
      exact am_R.forget wp ⟨rfl, ⟨rfl, ⟨rfl, ⟨rfl, ⟨rfl, ⟨rfl, trivial⟩⟩⟩⟩⟩⟩
    · have wp := wp.2 hc2
      refine am_lload_n rfl rfl dX0_waysOf_20 ?_
      refine am_lload rfl dX0_waysOf_21 ?_
      refine am_iload_n rfl rfl dX0_waysOf_23 ?_
      refine am_iconst 1 rfl dX0_waysOf_24 ?_
      refine am_isub dX0_waysOf_25 ?_
      refine am_i2l dX0_waysOf_26 ?_
      refine am_iload_n rfl rfl dX0_waysOf_27 ?_
      refine am_iload rfl dX0_waysOf_28 ?_
      refine am_isub dX0_waysOf_30 ?_
      refine am_invS (As := [.long (Int32.toInt64 (a2 - 1)), .int (a1 - a7)]) (lsZ := [some (.long (Int32.toInt64 (a2 - 1))), none, some (.int (a1 - a7)), none, none, none]) (st := [.long a5, .long a3]) dX0_waysOf_31 hX0_power lkX0_7 ⟨by decide, by decide⟩ rfl rfl (Nat.le_of_ble_eq_true rfl) rfl (Nat.le_of_ble_eq_true rfl) ⟨Nat.le_refl _, Nat.le_refl _⟩ (am_R.mono wp (fun r h' q => am_R.forget q ⟨rfl, ⟨rfl, ⟨rfl, ⟨rfl, ⟨rfl, trivial⟩⟩⟩⟩⟩))
theorem bX0_waysOf_34 {E : Nat × (Nat → Int32)} {I : Nat → Nat → Int32} {J : Nat → Nat → Int64} {b : Bool} {a0 : Int32} {a1 : Int32} {a2 : Int32} {a5 : Int64} {a7 : Int32} {x0 : Int64} {x1 : Int64} {x2 : Int64} {Q : Option Value → am_H → Prop}  (wp : ¬ (Int32.toInt64 (a7 + 1)) = 0 ∧ am_R E mX0_waysOf 8 [some (.int a0), some (.int a1), some (.int a2), some (.long (x2 + (x1 * x0))), none, some (.long ((a5 * (Int32.toInt64 (a1 - a7))) / (Int32.toInt64 (a7 + 1)))), none, some (.int (a7 + 1))] [] (hp I J b) 64 64 Q) : am_R E mX0_waysOf 34 [some (.int a0), some (.int a1), some (.int a2), none, none, some (.long a5), none, some (.int a7)] [.long x0, .long x1, .long x2] (hp I J b) 64 64 Q := by
  refine am_lmul dX0_waysOf_34 ?_
  refine am_ladd dX0_waysOf_35 ?_
  refine am_lstore_n (ls' := [some (.int a0), some (.int a1), some (.int a2), some (.long (x2 + (x1 * x0))), none, some (.long a5), none, some (.int a7)]) rfl (by decide) rfl rfl dX0_waysOf_36 ?_
  refine am_lload rfl dX0_waysOf_37 ?_
  refine am_iload_n rfl rfl dX0_waysOf_39 ?_
  refine am_iload rfl dX0_waysOf_40 ?_
  refine am_isub dX0_waysOf_42 ?_
  refine am_i2l dX0_waysOf_43 ?_
  refine am_lmul dX0_waysOf_44 ?_
  refine am_iload rfl dX0_waysOf_45 ?_
  refine am_iconst 1 rfl dX0_waysOf_47 ?_
  refine am_iadd dX0_waysOf_48 ?_
  refine am_i2l dX0_waysOf_49 ?_
  obtain ⟨w1, wp⟩ := wp
  refine am_ldiv w1 dX0_waysOf_50 ?_
  refine am_lstore (ls' := [some (.int a0), some (.int a1), some (.int a2), some (.long (x2 + (x1 * x0))), none, some (.long ((a5 * (Int32.toInt64 (a1 - a7))) / (Int32.toInt64 (a7 + 1)))), none, some (.int a7)]) (by decide) rfl rfl dX0_waysOf_51 ?_
  refine am_iinc (ls' := [some (.int a0), some (.int a1), some (.int a2), some (.long (x2 + (x1 * x0))), none, some (.long ((a5 * (Int32.toInt64 (a1 - a7))) / (Int32.toInt64 (a7 + 1)))), none, some (.int (a7 + 1))]) (by decide) rfl rfl rfl dX0_waysOf_53 ?_
  refine am_goto dX0_waysOf_56 (tgt := 8) rfl ?_
  exact am_R.forget wp ⟨rfl, ⟨rfl, ⟨rfl, ⟨rfl, ⟨rfl, ⟨rfl, trivial⟩⟩⟩⟩⟩⟩
theorem tX0_waysOf {a0 a1 a2 : Int32} {l D : Nat} (el : a0 = nI l) (hl : l < 2 ^ 31) (eD : a1 = nI D) (hD : D ≤ 16) (en : a2 = nI n) (n2 : 2 ≤ n) (n7 : n ≤ 7) (k : Q (some (.long (lN (wy n D l (D + 1))))) (hp I J b)) : am_R E mX0_waysOf 0 [some (.int a0), some (.int a1), some (.int a2), none, none, none, none, none] [] (hp I J b) 64 64 Q := by
  subst el; subst eD; subst en
  refine bX0_waysOf_0 (lp_up (n := D + 1) (P := fun t => am_R E mX0_waysOf 8 [some (.int (nI l)), some (.int (nI D)), some (.int (nI n)), some (.long (lN (wy n D l t))), none, some (.long (lN (bnC D t))), none, some (.int (nI t))] [] (hp I J b) 64 64 Q) ?_ ?_)
  · exact bX0_waysOf_8 (lt_br rfl rfl (by omega) (by omega) (fun _ => k) (fun h => by omega))
  · intro t ht ih
    have hb := (bn_ok D (by omega) t (by omega)).2.1
    have e1 : Int32.toInt64 (nI D - nI t) = lN (D - t) := by rw [pk_sub (by omega), nI_l (by omega)]
    have e2 : Int32.toInt64 (nI t + 1) = lN (t + 1) := by rw [n1, nI_l (by omega)]
    have e3 : ¬ lN (t + 1) = 0 := fun q => by
      have := (pk_lEQ (b := 0) (by omega) (by omega)).mp q
      omega
    have hm : bnC D t * (D - t) ≤ 12870 * 16 := Nat.mul_le_mul hb (by omega)
    have e4 : lN (bnC D t) * lN (D - t) / lN (t + 1) = lN (bnC D (t + 1)) := by rw [lN_mul, pk_lDiv (by omega) (by omega) (by omega)]; rfl
    refine bX0_waysOf_8 (lt_br rfl rfl (by omega) (by omega) (fun h => by omega) (fun _ => lt_br rfl rfl (by omega) hl (fun q => ?_) (fun q => ?_)))
    · rw [e1, e2, e4, n1]
      refine ⟨e3, ?_⟩
      have w : wy n D l (t + 1) = wy n D l t := by unfold wy; rw [fb_sm_succ, if_neg (by omega), Nat.add_zero]
      rw [w] at ih; exact ih
    · refine tX0_power (x := n - 1) (t := D - t) (by rw [show (1 : Int32) = nI 1 from rfl, pk_sub (by omega), nI_l (by omega)]) (pk_sub (by omega)) (by omega) (bX0_waysOf_34 ?_)
      rw [e1, e2, e4, n1, lN_mul, lN_add]
      refine ⟨e3, ?_⟩
      have w : wy n D l (t + 1) = wy n D l t + bnC D t * (n - 1) ^ (D - t) := by unfold wy; rw [fb_sm_succ, if_pos q]
      rw [w] at ih; exact ih
theorem bX10_tailUp_0 {E : Nat × (Nat → Int32)} {I : Nat → Nat → Int32} {J : Nat → Nat → Int64} {b : Bool} {a1 : Int32} {a2 : Int32} {Q : Option Value → am_H → Prop}  (wp : am_R E mX10_oftenOf 0 [some (.ref 48), some (.int a1), some (.int a2), none, none] [] (hp I J b) 64 64 (fun r h' => am_R E mX10_tailUp 17 [some (.ref 48), none, none, some (.int (I 55 15)), some (.long 0), none, none, none, none, none] (r.toList ++ []) h' 64 64 Q)) : am_R E mX10_tailUp 0 [some (.ref 48), some (.int a1), some (.int a2), none, none, none, none, none, none, none] [] (hp I J b) 64 64 Q := by
  refine am_aload_n rfl rfl dX10_tailUp_0 ?_
  refine am_getA (r := 55) dX10_tailUp_1 flX10_35 (Or.inr ⟨_, rfl⟩) rfl (by decide) rfl ?_
  refine am_bipush 15 rfl dX10_tailUp_4 ?_
  refine am_ialdN (j := 15) dX10_tailUp_6 rfl (by decide) rfl (by decide) (by decide) ?_
  refine am_istore_n (ls' := [some (.ref 48), some (.int a1), some (.int a2), some (.int (I 55 15)), none, none, none, none, none, none]) rfl (by decide) rfl rfl dX10_tailUp_7 ?_
  refine am_lconst 0 rfl dX10_tailUp_8 ?_
  refine am_lstore (ls' := [some (.ref 48), some (.int a1), some (.int a2), some (.int (I 55 15)), some (.long 0), none, none, none, none, none]) (by decide) rfl rfl dX10_tailUp_9 ?_
  refine am_aload_n rfl rfl dX10_tailUp_11 ?_
  refine am_iload_n rfl rfl dX10_tailUp_12 ?_
  refine am_iload_n rfl rfl dX10_tailUp_13 ?_
  refine am_invV (ci := 8) (As := [.int a1, .int a2]) (lsZ := [some (.ref 48), some (.int a1), some (.int a2), none, none]) (st := []) dX10_tailUp_14 hX10_oftenOf lkX10_239 ⟨by decide, by decide⟩ (by decide) rfl (by decide) rfl rfl rfl (Nat.le_of_ble_eq_true rfl) rfl (Nat.le_of_ble_eq_true rfl) ⟨Nat.le_refl _, Nat.le_refl _⟩ (am_R.mono wp (fun r h' q => am_R.forget q ⟨rfl, ⟨rfl, ⟨rfl, trivial⟩⟩⟩))
theorem bX10_tailUp_17 {E : Nat × (Nat → Int32)} {I : Nat → Nat → Int32} {J : Nat → Nat → Int64} {b : Bool} {a3 : Int32} {a4 : Int64} {x0 : Int32} {Q : Option Value → am_H → Prop}  (wp : am_R E mX10_tailUp 19 [some (.ref 48), none, none, some (.int a3), some (.long a4), none, some (.int x0), none, none, none] [] (hp I J b) 64 64 Q) : am_R E mX10_tailUp 17 [some (.ref 48), none, none, some (.int a3), some (.long a4), none, none, none, none, none] [.int x0] (hp I J b) 64 64 Q := by
  refine am_istore (ls' := [some (.ref 48), none, none, some (.int a3), some (.long a4), none, some (.int x0), none, none, none]) (by decide) rfl rfl dX10_tailUp_17 ?_
  exact am_R.forget wp ⟨rfl, ⟨rfl, ⟨rfl, ⟨rfl, trivial⟩⟩⟩⟩
theorem bX10_tailUp_19 {E : Nat × (Nat → Int32)} {I : Nat → Nat → Int32} {J : Nat → Nat → Int64} {b : Bool} {a3 : Int32} {a4 : Int64} {a6 : Int32} {Q : Option Value → am_H → Prop}  (wp : ((a3 < a6 → Q (some (.long a4)) (hp I J b)) ∧ (¬ a3 < a6 → am_R E mX10_tailUp 31 [some (.ref 48), none, none, some (.int a3), some (.long a4), none, some (.int a6), some (.long 1), none, some (.int 1)] [] (hp I J b) 64 64 Q))) : am_R E mX10_tailUp 19 [some (.ref 48), none, none, some (.int a3), some (.long a4), none, some (.int a6), none, none, none] [] (hp I J b) 64 64 Q := by
  refine am_iload rfl dX10_tailUp_19 ?_
  refine am_iload_n rfl rfl dX10_tailUp_21 ?_
  refine am_icmp_gt dX10_tailUp_22 (tgt := 102) rfl (fun hc1 => ?_) (fun hc1 => ?_)
  · have wp := wp.1 hc1
    refine am_lload rfl dX10_tailUp_102 ?_
    exact am_lret dX10_tailUp_104 rfl wp
  · have wp := wp.2 hc1
    refine am_lconst 1 rfl dX10_tailUp_25 ?_
    refine am_lstore (ls' := [some (.ref 48), none, none, some (.int a3), some (.long a4), none, some (.int a6), some (.long 1), none, none]) (by decide) rfl rfl dX10_tailUp_26 ?_
    refine am_iconst 1 rfl dX10_tailUp_28 ?_
    refine am_istore (ls' := [some (.ref 48), none, none, some (.int a3), some (.long a4), none, some (.int a6), some (.long 1), none, some (.int 1)]) (by decide) rfl rfl dX10_tailUp_29 ?_
    exact am_R.forget wp ⟨rfl, ⟨rfl, ⟨rfl, ⟨rfl, ⟨rfl, ⟨rfl, trivial⟩⟩⟩⟩⟩⟩
theorem bX10_tailUp_31 {E : Nat × (Nat → Int32)} {I : Nat → Nat → Int32} {J : Nat → Nat → Int64} {b : Bool} {a3 : Int32} {a4 : Int64} {a6 : Int32} {a7 : Int64} {a9 : Int32} {Q : Option Value → am_H → Prop}  (wp : ((a6 < a9 → am_R E mX10_tailUp 65 [some (.ref 48), none, none, some (.int a3), some (.long a4), none, some (.int a6), some (.long a7), none, some (.int a6)] [] (hp I J b) 64 64 Q) ∧ (¬ a6 < a9 → ¬ (Int32.toInt64 a9) = 0 ∧ am_R E mX10_tailUp 31 [some (.ref 48), none, none, some (.int a3), some (.long a4), none, some (.int a6), some (.long ((a7 * (Int32.toInt64 ((a3 - a6) + a9))) / (Int32.toInt64 a9))), none, some (.int (a9 + 1))] [] (hp I J b) 64 64 Q))) : am_R E mX10_tailUp 31 [some (.ref 48), none, none, some (.int a3), some (.long a4), none, some (.int a6), some (.long a7), none, some (.int a9)] [] (hp I J b) 64 64 Q := by
  refine am_iload rfl dX10_tailUp_31 ?_
  refine am_iload rfl dX10_tailUp_33 ?_
  refine am_icmp_gt dX10_tailUp_35 (tgt := 61) rfl (fun hc1 => ?_) (fun hc1 => ?_)
  · have wp := wp.1 hc1
    refine am_iload rfl dX10_tailUp_61 ?_
    refine am_istore (ls' := [some (.ref 48), none, none, some (.int a3), some (.long a4), none, some (.int a6), some (.long a7), none, some (.int a6)]) (by decide) rfl rfl dX10_tailUp_63 ?_
    exact am_R.forget wp ⟨rfl, ⟨rfl, ⟨rfl, ⟨rfl, ⟨rfl, ⟨rfl, trivial⟩⟩⟩⟩⟩⟩
  · have wp := wp.2 hc1
    refine am_lload rfl dX10_tailUp_38 ?_
    refine am_iload_n rfl rfl dX10_tailUp_40 ?_
    refine am_iload rfl dX10_tailUp_41 ?_
    refine am_isub dX10_tailUp_43 ?_
    refine am_iload rfl dX10_tailUp_44 ?_
    refine am_iadd dX10_tailUp_46 ?_
    refine am_i2l dX10_tailUp_47 ?_
    refine am_lmul dX10_tailUp_48 ?_
    refine am_iload rfl dX10_tailUp_49 ?_
    refine am_i2l dX10_tailUp_51 ?_
    obtain ⟨w2, wp⟩ := wp
    refine am_ldiv w2 dX10_tailUp_52 ?_
    refine am_lstore (ls' := [some (.ref 48), none, none, some (.int a3), some (.long a4), none, some (.int a6), some (.long ((a7 * (Int32.toInt64 ((a3 - a6) + a9))) / (Int32.toInt64 a9))), none, some (.int a9)]) (by decide) rfl rfl dX10_tailUp_53 ?_
    refine am_iinc (ls' := [some (.ref 48), none, none, some (.int a3), some (.long a4), none, some (.int a6), some (.long ((a7 * (Int32.toInt64 ((a3 - a6) + a9))) / (Int32.toInt64 a9))), none, some (.int (a9 + 1))]) (by decide) rfl rfl rfl dX10_tailUp_55 ?_
    refine am_goto dX10_tailUp_58 (tgt := 31) rfl ?_
    exact am_R.forget wp ⟨rfl, ⟨rfl, ⟨rfl, ⟨rfl, ⟨rfl, ⟨rfl, trivial⟩⟩⟩⟩⟩⟩
theorem bX10_tailUp_65 {E : Nat × (Nat → Int32)} {I : Nat → Nat → Int32} {J : Nat → Nat → Int64} {b : Bool} {a3 : Int32} {a4 : Int64} {a6 : Int32} {a7 : Int64} {a9 : Int32} {Q : Option Value → am_H → Prop}  (wp : ((a3 ≤ a9 → am_R E mX10_tailUp 19 [some (.ref 48), none, none, some (.int a3), some (.long (a4 + a7)), none, some (.int (a6 + 1)), none, none, none] [] (hp I J b) 64 64 Q) ∧ (¬ a3 ≤ a9 → am_R E mX10_tailUp 65 [some (.ref 48), none, none, some (.int a3), some (.long a4), none, some (.int a6), some (.long (a7 * (Int32.toInt64 ((I 48 0) - 1)))), none, some (.int (a9 + 1))] [] (hp I J b) 64 64 Q))) : am_R E mX10_tailUp 65 [some (.ref 48), none, none, some (.int a3), some (.long a4), none, some (.int a6), some (.long a7), none, some (.int a9)] [] (hp I J b) 64 64 Q := by
  refine am_iload rfl dX10_tailUp_65 ?_
  refine am_iload_n rfl rfl dX10_tailUp_67 ?_
  refine am_icmp_ge dX10_tailUp_68 (tgt := 89) rfl (fun hc1 => ?_) (fun hc1 => ?_)
  · have wp := wp.1 hc1
    refine am_lload rfl dX10_tailUp_89 ?_
    refine am_lload rfl dX10_tailUp_91 ?_
    refine am_ladd dX10_tailUp_93 ?_
    refine am_lstore (ls' := [some (.ref 48), none, none, some (.int a3), some (.long (a4 + a7)), none, some (.int a6), some (.long a7), none, some (.int a9)]) (by decide) rfl rfl dX10_tailUp_94 ?_
    refine am_iinc (ls' := [some (.ref 48), none, none, some (.int a3), some (.long (a4 + a7)), none, some (.int (a6 + 1)), some (.long a7), none, some (.int a9)]) (by decide) rfl rfl rfl dX10_tailUp_96 ?_
    refine am_goto dX10_tailUp_99 (tgt := 19) rfl ?_
    exact am_R.forget wp ⟨rfl, ⟨rfl, ⟨rfl, ⟨rfl, trivial⟩⟩⟩⟩
  · have wp := wp.2 hc1
    refine am_lload rfl dX10_tailUp_71 ?_
    refine am_aload_n rfl rfl dX10_tailUp_73 ?_
    refine am_getI dX10_tailUp_74 flX10_7 (Or.inl rfl) rfl (by decide) ?_
    refine am_iconst 1 rfl dX10_tailUp_77 ?_
    refine am_isub dX10_tailUp_78 ?_
    refine am_i2l dX10_tailUp_79 ?_
    refine am_lmul dX10_tailUp_80 ?_
    refine am_lstore (ls' := [some (.ref 48), none, none, some (.int a3), some (.long a4), none, some (.int a6), some (.long (a7 * (Int32.toInt64 ((I 48 0) - 1)))), none, some (.int a9)]) (by decide) rfl rfl dX10_tailUp_81 ?_
    refine am_iinc (ls' := [some (.ref 48), none, none, some (.int a3), some (.long a4), none, some (.int a6), some (.long (a7 * (Int32.toInt64 ((I 48 0) - 1)))), none, some (.int (a9 + 1))]) (by decide) rfl rfl rfl dX10_tailUp_83 ?_
    refine am_goto dX10_tailUp_86 (tgt := 65) rfl ?_
    exact am_R.forget wp ⟨rfl, ⟨rfl, ⟨rfl, ⟨rfl, ⟨rfl, ⟨rfl, trivial⟩⟩⟩⟩⟩⟩
theorem tX10_tailUp {a1 a2 : Int32} {m d D : Nat} (hN : Nn I n) (em : a1 = nI m) (ed : a2 = nI d) (hm : m < 7) (hD : D ≤ 16) (e : I 55 15 = nI D) (k : Q (some (.long (lN (wy n D (ofc (I 55) D m d) (D + 1))))) (hp I J b)) : am_R E mX10_tailUp 0 [some (.ref 48), some (.int a1), some (.int a2), none, none, none, none, none, none, none] [] (hp I J b) 64 64 Q := by
  obtain ⟨n0, n2, n7⟩ := hN
  refine bX10_tailUp_0 (tX10_oftenOf em ed hm hD e (bX10_tailUp_17 ?_))
  rw [e]
  have hl : ofc (I 55) D m d ≤ D := fb_ct_le _ _
  generalize ofc (I 55) D m d = l at hl k
  have z : wy n D l l = 0 := by
    unfold wy
    have : fb_sm (fun t => if l ≤ t then bnC D t * (n - 1) ^ (D - t) else 0) l = fb_sm (fun _ => 0) l := fb_sm_cong (fun t ht => by rw [if_neg (by omega)])
    rw [this, fb_sm_const, Nat.mul_zero]
  have key : ∀ r j, j + r = D + 1 → l ≤ j → am_R E mX10_tailUp 19 [some (.ref 48), none, none, some (.int (nI D)), some (.long (lN (wy n D l j))), none, some (.int (nI j)), none, none, none] [] (hp I J b) 64 64 Q := by
    intro r
    induction r with
    | zero =>
      intro j hj _
      have ej : j = D + 1 := by omega
      subst ej
      exact bX10_tailUp_19 (lt_br rfl rfl (by omega) (by omega) (fun _ => k) (fun h => by omega))
    | succ r ih =>
      intro j hj hlj
      obtain ⟨b1, b2, b3⟩ := bn_ok D (by omega) j (by omega)
      refine bX10_tailUp_19 (lt_br rfl rfl (by omega) (by omega) (fun h => by omega) (fun _ => ?_))
      have lp2 : ∀ s i, i + s = D → j ≤ i → am_R E mX10_tailUp 65 [some (.ref 48), none, none, some (.int (nI D)), some (.long (lN (wy n D l j))), none, some (.int (nI j)), some (.long (lN (bnC D j * (n - 1) ^ (i - j)))), none, some (.int (nI i))] [] (hp I J b) 64 64 Q := by
        intro s
        induction s with
        | zero =>
          intro i hi hji
          have ei : i = D := by omega
          subst ei
          refine bX10_tailUp_65 (le_br rfl rfl (by omega) (by omega) (fun _ => ?_) (fun h => by omega))
          rw [lN_add, n1]
          have w : wy n i l (j + 1) = wy n i l j + bnC i j * (n - 1) ^ (i - j) := by unfold wy; rw [fb_sm_succ, if_pos hlj]
          rw [← w]
          exact ih (j + 1) (by omega) (by omega)
        | succ s ihs =>
          intro i hi hji
          refine bX10_tailUp_65 (le_br rfl rfl (by omega) (by omega) (fun h => by omega) (fun _ => ?_))
          rw [n0, show (1 : Int32) = nI 1 from rfl, pk_sub (by omega), nI_l (by omega), lN_mul, nI_add]
          have w := ihs (i + 1) (by omega) (by omega)
          rw [show i + 1 - j = (i - j) + 1 by omega, Nat.pow_succ, ← Nat.mul_assoc] at w
          exact w
      have lp1 : ∀ s i, i + s = j → am_R E mX10_tailUp 31 [some (.ref 48), none, none, some (.int (nI D)), some (.long (lN (wy n D l j))), none, some (.int (nI j)), some (.long (lN (mdV D j i))), none, some (.int (nI (i + 1)))] [] (hp I J b) 64 64 Q := by
        intro s
        induction s with
        | zero =>
          intro i hi
          have ei : i = j := by omega
          subst ei
          refine bX10_tailUp_31 (lt_br rfl rfl (by omega) (by omega) (fun _ => ?_) (fun h => by omega))
          have w := lp2 (D - i) i (by omega) (Nat.le_refl _)
          rw [Nat.sub_self, Nat.pow_zero, Nat.mul_one, b1] at w
          exact w
        | succ s ihs =>
          intro i hi
          have hb := b3 i (by omega)
          have hm : mdV D j i * (D - j + (i + 1)) ≤ 12870 * 17 := Nat.mul_le_mul hb (by omega)
          refine bX10_tailUp_31 (lt_br rfl rfl (by omega) (by omega) (fun h => by omega) (fun _ => ?_))
          rw [pk_sub (by omega), nI_add, nI_l (by omega), nI_l (by omega), lN_mul, pk_lDiv (by omega) (by omega) (by omega), n1]
          refine ⟨fun q => ?_, ihs (i + 1) (by omega)⟩
          have := (pk_lEQ (b := 0) (by omega) (by omega)).mp q
          omega
      exact lp1 j 0 (by omega)
  have := key (D + 1 - l) l (by omega) (Nat.le_refl _)
  rw [z] at this
  exact this
theorem wy_lt {D l : Nat} (n7 : n ≤ 7) (hD : D ≤ 16) : wy n D l (D + 1) < 2 ^ 63 := by
  have h := fb_sm_bound (f := fun t => if l ≤ t then bnC D t * (n - 1) ^ (D - t) else 0) (c := 12870 * 6 ^ 16) (n := D + 1) (fun t ht => by
    show (if l ≤ t then bnC D t * (n - 1) ^ (D - t) else 0) ≤ _
    split
    · have h1 := (bn_ok D (by omega) t ht).2.1
      have h2 : (n - 1) ^ (D - t) ≤ 6 ^ (D - t) := Nat.pow_le_pow_left (by omega) _
      have h3 : 6 ^ (D - t) ≤ 6 ^ 16 := Nat.pow_le_pow_right (by omega) (by omega)
      exact Nat.mul_le_mul h1 (Nat.le_trans h2 h3)
    · omega)
  unfold wy
  have h4 : (D + 1) * (12870 * 6 ^ 16) ≤ 17 * (12870 * 6 ^ 16) := Nat.mul_le_mul_right _ (by omega)
  omega
theorem pw_lt {D : Nat} (n2 : 2 ≤ n) (n7 : n ≤ 7) (hD : D ≤ 16) : 0 < n ^ D ∧ n ^ D < 2 ^ 45 := by
  refine ⟨Nat.pow_pos (by omega), ?_⟩
  have h1 : n ^ D ≤ 7 ^ D := Nat.pow_le_pow_left n7 _
  have h2 : 7 ^ D ≤ 7 ^ 16 := Nat.pow_le_pow_right (by omega) hD
  omega
theorem bX9_tail_0 {E : Nat × (Nat → Int32)} {I : Nat → Nat → Int32} {J : Nat → Nat → Int64} {b : Bool} {a1 : Int32} {a2 : Int32} {a3 : Int32} {Q : Option Value → am_H → Prop}  (wp : (((0 ≤ a1 ∧ a1 < (I 4 0)) → (((0 ≤ a2 ∧ a2 < (I 4 0)) → (((a3 = 0 ∨ a3 = 1) → am_R E mX1_timesOf 0 [some (.ref 9), some (.int a1), some (.int a2), none, none] [] (hp I J b) 64 64 (fun r h' => am_R E mX9_tail 40 [some (.ref 0), none, none, some (.int a3), none, none] (r.toList ++ []) h' 64 64 Q)) ∧ (¬ (a3 = 0 ∨ a3 = 1) → Q (some (.long (-3))) (hp I J b)))) ∧ (¬ (0 ≤ a2 ∧ a2 < (I 4 0)) → Q (some (.long (-2))) (hp I J b)))) ∧ (¬ (0 ≤ a1 ∧ a1 < (I 4 0)) → Q (some (.long (-2))) (hp I J b)))) : am_R E mX9_tail 0 [some (.ref 0), some (.int a1), some (.int a2), some (.int a3), none, none] [] (hp I J b) 64 64 Q := by
  refine am_aload_n rfl rfl dX9_tail_0 ?_
  refine am_iload_n rfl rfl dX9_tail_1 ?_
  refine am_invV (ci := 7) (As := [.int a1]) (lsZ := [some (.ref 0), some (.int a1)]) (st := []) dX9_tail_2 hX9_isThere lkX9_122 ⟨by decide, by decide⟩ (by decide) rfl (by decide) rfl rfl rfl (Nat.le_of_ble_eq_true rfl) rfl (Nat.le_of_ble_eq_true rfl) ⟨Nat.le_refl _, Nat.le_refl _⟩ (tX9_isThere  (fun hc1 => ?_) (fun hc1 => ?_))
  · have wp := wp.1 hc1
    show am_R E mX9_tail 5 [some (.ref 0), some (.int a1), some (.int a2), some (.int a3), none, none] [.int 1] (hp I J b) 64 64 Q
    refine am_if_eq dX9_tail_5 (tgt := 16) rfl (fun hc => absurd hc (by decide)) (fun _ => ?_)
    refine am_aload_n rfl rfl dX9_tail_8 ?_
    refine am_iload_n rfl rfl dX9_tail_9 ?_
    refine am_invV (ci := 7) (As := [.int a2]) (lsZ := [some (.ref 0), some (.int a2)]) (st := []) dX9_tail_10 hX9_isThere lkX9_122 ⟨by decide, by decide⟩ (by decide) rfl (by decide) rfl rfl rfl (Nat.le_of_ble_eq_true rfl) rfl (Nat.le_of_ble_eq_true rfl) ⟨Nat.le_refl _, Nat.le_refl _⟩ (tX9_isThere  (fun hc2 => ?_) (fun hc2 => ?_))
    · have wp := wp.1 hc2
      show am_R E mX9_tail 13 [some (.ref 0), some (.int a1), some (.int a2), some (.int a3), none, none] [.int 1] (hp I J b) 64 64 Q
      refine am_if_ne dX9_tail_13 (tgt := 20) rfl (fun _ => ?_) (fun hc => absurd hc (by decide))
      refine am_iload_n rfl rfl dX9_tail_20 ?_
      refine am_invS (As := [.int a3]) (lsZ := [some (.int a3)]) (st := []) dX9_tail_21 hX9_isPart lkX9_224 ⟨by decide, by decide⟩ rfl rfl (Nat.le_of_ble_eq_true rfl) rfl (Nat.le_of_ble_eq_true rfl) ⟨Nat.le_refl _, Nat.le_refl _⟩ (tX9_isPart  (fun hc3 => ?_) (fun hc3 => ?_))
      · have wp := wp.1 hc3
        show am_R E mX9_tail 24 [some (.ref 0), some (.int a1), some (.int a2), some (.int a3), none, none] [.int 1] (hp I J b) 64 64 Q
        refine am_if_ne dX9_tail_24 (tgt := 31) rfl (fun _ => ?_) (fun hc => absurd hc (by decide))
        refine am_aload_n rfl rfl dX9_tail_31 ?_
        refine am_getA (r := 9) dX9_tail_32 flX9_26 (Or.inl ⟨_, rfl⟩) rfl (by decide) rfl ?_
        refine am_iload_n rfl rfl dX9_tail_35 ?_
        refine am_iload_n rfl rfl dX9_tail_36 ?_
        refine am_invV (ci := 0) (As := [.int a1, .int a2]) (lsZ := [some (.ref 9), some (.int a1), some (.int a2), none, none]) (st := []) dX9_tail_37 hX1_timesOf lkX9_246 ⟨by decide, by decide⟩ (by decide) rfl (by decide) rfl rfl rfl (Nat.le_of_ble_eq_true rfl) rfl (Nat.le_of_ble_eq_true rfl) ⟨Nat.le_refl _, Nat.le_refl _⟩ (am_R.mono wp (fun r h' q => am_R.forget q ⟨rfl, ⟨rfl, trivial⟩⟩))
      · have wp := wp.2 hc3
        show am_R E mX9_tail 24 [some (.ref 0), some (.int a1), some (.int a2), some (.int a3), none, none] [.int 0] (hp I J b) 64 64 Q
        refine am_if_ne dX9_tail_24 (tgt := 31) rfl (fun hc => absurd hc (by decide)) (fun _ => ?_)
        refine am_ldc2 (-3) kcX9_251 dX9_tail_27 ?_
        exact am_lret dX9_tail_30 rfl wp
    · have wp := wp.2 hc2
      show am_R E mX9_tail 13 [some (.ref 0), some (.int a1), some (.int a2), some (.int a3), none, none] [.int 0] (hp I J b) 64 64 Q
      refine am_if_ne dX9_tail_13 (tgt := 20) rfl (fun hc => absurd hc (by decide)) (fun _ => ?_)
      refine am_ldc2 (-2) kcX9_249 dX9_tail_16 ?_
      exact am_lret dX9_tail_19 rfl wp
  · have wp := wp.2 hc1
    show am_R E mX9_tail 5 [some (.ref 0), some (.int a1), some (.int a2), some (.int a3), none, none] [.int 0] (hp I J b) 64 64 Q
    refine am_if_eq dX9_tail_5 (tgt := 16) rfl (fun _ => ?_) (fun hc => absurd hc (by decide))
    refine am_ldc2 (-2) kcX9_249 dX9_tail_16 ?_
    exact am_lret dX9_tail_19 rfl wp
theorem bX9_tail_40 {E : Nat × (Nat → Int32)} {I : Nat → Nat → Int32} {J : Nat → Nat → Int64} {b : Bool} {a3 : Int32} {x0 : Int32} {Q : Option Value → am_H → Prop}  (wp : am_R E mX0_waysOf 0 [some (.int x0), some (.int (I 9 3)), some (.int (I 4 0)), none, none, none, none, none] [] (hp I J b) 64 64 (fun r h' => am_R E mX9_tail 57 [some (.ref 0), none, none, some (.int a3), none, none] (r.toList ++ []) h' 64 64 Q)) : am_R E mX9_tail 40 [some (.ref 0), none, none, some (.int a3), none, none] [.int x0] (hp I J b) 64 64 Q := by
  refine am_aload_n rfl rfl dX9_tail_40 ?_
  refine am_getA (r := 9) dX9_tail_41 flX9_26 (Or.inl ⟨_, rfl⟩) rfl (by decide) rfl ?_
  refine am_getI dX9_tail_44 flX9_186 (Or.inl rfl) rfl (by decide) ?_
  refine am_aload_n rfl rfl dX9_tail_47 ?_
  refine am_getA (r := 4) dX9_tail_48 flX9_19 (Or.inl ⟨_, rfl⟩) rfl (by decide) rfl ?_
  refine am_getI dX9_tail_51 flX9_102 (Or.inl rfl) rfl (by decide) ?_
  refine am_invS (As := [.int x0, .int (I 9 3), .int (I 4 0)]) (lsZ := [some (.int x0), some (.int (I 9 3)), some (.int (I 4 0)), none, none, none, none, none]) (st := []) dX9_tail_54 hX0_waysOf lkX9_253 ⟨by decide, by decide⟩ rfl rfl (Nat.le_of_ble_eq_true rfl) rfl (Nat.le_of_ble_eq_true rfl) ⟨Nat.le_refl _, Nat.le_refl _⟩ (am_R.mono wp (fun r h' q => am_R.forget q ⟨rfl, ⟨rfl, trivial⟩⟩))
theorem bX9_tail_57 {E : Nat × (Nat → Int32)} {I : Nat → Nat → Int32} {J : Nat → Nat → Int64} {b : Bool} {a3 : Int32} {x0 : Int64} {Q : Option Value → am_H → Prop}  (wp : am_R E mX0_power 0 [some (.long (Int32.toInt64 (I 4 0))), none, some (.int (I 9 3)), none, none, none] [] (hp I J b) 64 64 (fun r h' => am_R E mX9_tail 79 [none, none, none, some (.int a3), none, none] (r.toList ++ [.long x0]) h' 64 64 Q)) : am_R E mX9_tail 57 [some (.ref 0), none, none, some (.int a3), none, none] [.long x0] (hp I J b) 64 64 Q := by
  refine am_lstore (ls' := [some (.ref 0), none, none, some (.int a3), some (.long x0), none]) (by decide) rfl rfl dX9_tail_57 ?_
  refine am_lload rfl dX9_tail_59 ?_
  refine am_aload_n rfl rfl dX9_tail_61 ?_
  refine am_getA (r := 4) dX9_tail_62 flX9_19 (Or.inl ⟨_, rfl⟩) rfl (by decide) rfl ?_
  refine am_getI dX9_tail_65 flX9_102 (Or.inl rfl) rfl (by decide) ?_
  refine am_i2l dX9_tail_68 ?_
  refine am_aload_n rfl rfl dX9_tail_69 ?_
  refine am_getA (r := 9) dX9_tail_70 flX9_26 (Or.inl ⟨_, rfl⟩) rfl (by decide) rfl ?_
  refine am_getI dX9_tail_73 flX9_186 (Or.inl rfl) rfl (by decide) ?_
  refine am_invS (As := [.long (Int32.toInt64 (I 4 0)), .int (I 9 3)]) (lsZ := [some (.long (Int32.toInt64 (I 4 0))), none, some (.int (I 9 3)), none, none, none]) (st := [.long x0]) dX9_tail_76 hX0_power lkX9_257 ⟨by decide, by decide⟩ rfl rfl (Nat.le_of_ble_eq_true rfl) rfl (Nat.le_of_ble_eq_true rfl) ⟨Nat.le_refl _, Nat.le_refl _⟩ (am_R.mono wp (fun r h' q => am_R.forget q ⟨rfl, trivial⟩))
theorem bX9_tail_79 {E : Nat × (Nat → Int32)} {I : Nat → Nat → Int32} {J : Nat → Nat → Int64} {b : Bool} {a3 : Int32} {x0 : Int64} {x1 : Int64} {Q : Option Value → am_H → Prop}  (wp : am_R E mX0_lowest 0 [some (.long x1), none, some (.long x0), none, some (.int a3), none, none, none, none, none, none, none] [] (hp I J b) 64 64 (fun r h' => am_R E mX9_tail 83 [none, none, none, none, none, none] (r.toList ++ []) h' 64 64 Q)) : am_R E mX9_tail 79 [none, none, none, some (.int a3), none, none] [.long x0, .long x1] (hp I J b) 64 64 Q := by
  refine am_iload_n rfl rfl dX9_tail_79 ?_
  refine am_invS (As := [.long x1, .long x0, .int a3]) (lsZ := [some (.long x1), none, some (.long x0), none, some (.int a3), none, none, none, none, none, none, none]) (st := []) dX9_tail_80 hX0_lowest lkX9_231 ⟨by decide, by decide⟩ rfl rfl (Nat.le_of_ble_eq_true rfl) rfl (Nat.le_of_ble_eq_true rfl) ⟨Nat.le_refl _, Nat.le_refl _⟩ (am_R.mono wp (fun r h' q => am_R.forget q trivial))
theorem bX9_tail_83 {E : Nat × (Nat → Int32)} {I : Nat → Nat → Int32} {J : Nat → Nat → Int64} {b : Bool} {x0 : Int64} {Q : Option Value → am_H → Prop}  (wp : Q (some (.long x0)) (hp I J b)) : am_R E mX9_tail 83 [none, none, none, none, none, none] [.long x0] (hp I J b) 64 64 Q := by
  exact am_lret dX9_tail_83 rfl wp
theorem bX10_tail_0 {E : Nat × (Nat → Int32)} {I : Nat → Nat → Int32} {J : Nat → Nat → Int64} {b : Bool} {a1 : Int32} {a2 : Int32} {a3 : Int32} {Q : Option Value → am_H → Prop}  (wp : (((0 ≤ a1 ∧ a1 ≤ (I 48 0) - 1) → (((0 ≤ a2 ∧ a2 ≤ (I 48 0) - 1) → (((0 ≤ a3 ∧ a3 ≤ 1) → am_R E mX10_tailUp 0 [some (.ref 48), some (.int a1), some (.int a2), none, none, none, none, none, none, none] [] (hp I J b) 64 64 (fun r h' => am_R E mX10_tail 39 [some (.ref 48), none, none, some (.int a3), none, none, none, none, none, none, none, none] (r.toList ++ []) h' 64 64 Q)) ∧ (¬ (0 ≤ a3 ∧ a3 ≤ 1) → Q (some (.long (-3))) (hp I J b)))) ∧ (¬ (0 ≤ a2 ∧ a2 ≤ (I 48 0) - 1) → Q (some (.long (-2))) (hp I J b)))) ∧ (¬ (0 ≤ a1 ∧ a1 ≤ (I 48 0) - 1) → Q (some (.long (-2))) (hp I J b)))) : am_R E mX10_tail 0 [some (.ref 48), some (.int a1), some (.int a2), some (.int a3), none, none, none, none, none, none, none, none] [] (hp I J b) 64 64 Q := by
  refine am_aload_n rfl rfl dX10_tail_0 ?_
  refine am_iload_n rfl rfl dX10_tail_1 ?_
  refine am_invV (ci := 8) (As := [.int a1]) (lsZ := [some (.ref 48), some (.int a1)]) (st := []) dX10_tail_2 hX10_isMonk lkX10_166 ⟨by decide, by decide⟩ (by decide) rfl (by decide) rfl rfl rfl (Nat.le_of_ble_eq_true rfl) rfl (Nat.le_of_ble_eq_true rfl) ⟨Nat.le_refl _, Nat.le_refl _⟩ (tX10_isMonk  (fun hc1 => ?_) (fun hc1 => ?_))
  · have wp := wp.1 hc1
    show am_R E mX10_tail 5 [some (.ref 48), some (.int a1), some (.int a2), some (.int a3), none, none, none, none, none, none, none, none] [.int 1] (hp I J b) 64 64 Q
    refine am_if_eq dX10_tail_5 (tgt := 16) rfl (fun hc => absurd hc (by decide)) (fun _ => ?_)
    refine am_aload_n rfl rfl dX10_tail_8 ?_
    refine am_iload_n rfl rfl dX10_tail_9 ?_
    refine am_invV (ci := 8) (As := [.int a2]) (lsZ := [some (.ref 48), some (.int a2)]) (st := []) dX10_tail_10 hX10_isMonk lkX10_166 ⟨by decide, by decide⟩ (by decide) rfl (by decide) rfl rfl rfl (Nat.le_of_ble_eq_true rfl) rfl (Nat.le_of_ble_eq_true rfl) ⟨Nat.le_refl _, Nat.le_refl _⟩ (tX10_isMonk  (fun hc2 => ?_) (fun hc2 => ?_))
    · have wp := wp.1 hc2
      show am_R E mX10_tail 13 [some (.ref 48), some (.int a1), some (.int a2), some (.int a3), none, none, none, none, none, none, none, none] [.int 1] (hp I J b) 64 64 Q
      refine am_if_ne dX10_tail_13 (tgt := 20) rfl (fun _ => ?_) (fun hc => absurd hc (by decide))
      refine am_iload_n rfl rfl dX10_tail_20 ?_
      refine am_iconst 0 rfl dX10_tail_21 ?_
      refine am_iconst 1 rfl dX10_tail_22 ?_
      refine am_invS (As := [.int a3, .int 0, .int 1]) (lsZ := [some (.int a3), some (.int 0), some (.int 1)]) (st := []) dX10_tail_23 hX10_in lkX10_69 ⟨by decide, by decide⟩ rfl rfl (Nat.le_of_ble_eq_true rfl) rfl (Nat.le_of_ble_eq_true rfl) ⟨Nat.le_refl _, Nat.le_refl _⟩ (tX10_in  (fun hc3 => ?_) (fun hc3 => ?_))
      · have wp := wp.1 hc3
        show am_R E mX10_tail 26 [some (.ref 48), some (.int a1), some (.int a2), some (.int a3), none, none, none, none, none, none, none, none] [.int 1] (hp I J b) 64 64 Q
        refine am_if_ne dX10_tail_26 (tgt := 33) rfl (fun _ => ?_) (fun hc => absurd hc (by decide))
        refine am_aload_n rfl rfl dX10_tail_33 ?_
        refine am_iload_n rfl rfl dX10_tail_34 ?_
        refine am_iload_n rfl rfl dX10_tail_35 ?_
        refine am_invV (ci := 8) (As := [.int a1, .int a2]) (lsZ := [some (.ref 48), some (.int a1), some (.int a2), none, none, none, none, none, none, none]) (st := []) dX10_tail_36 hX10_tailUp lkX10_242 ⟨by decide, by decide⟩ (by decide) rfl (by decide) rfl rfl rfl (Nat.le_of_ble_eq_true rfl) rfl (Nat.le_of_ble_eq_true rfl) ⟨Nat.le_refl _, Nat.le_refl _⟩ (am_R.mono wp (fun r h' q => am_R.forget q ⟨rfl, ⟨rfl, trivial⟩⟩))
      · have wp := wp.2 hc3
        show am_R E mX10_tail 26 [some (.ref 48), some (.int a1), some (.int a2), some (.int a3), none, none, none, none, none, none, none, none] [.int 0] (hp I J b) 64 64 Q
        refine am_if_ne dX10_tail_26 (tgt := 33) rfl (fun hc => absurd hc (by decide)) (fun _ => ?_)
        refine am_ldc2 (-3) kcX10_104 dX10_tail_29 ?_
        exact am_lret dX10_tail_32 rfl wp
    · have wp := wp.2 hc2
      show am_R E mX10_tail 13 [some (.ref 48), some (.int a1), some (.int a2), some (.int a3), none, none, none, none, none, none, none, none] [.int 0] (hp I J b) 64 64 Q
      refine am_if_ne dX10_tail_13 (tgt := 20) rfl (fun hc => absurd hc (by decide)) (fun _ => ?_)
      refine am_ldc2 (-2) kcX10_90 dX10_tail_16 ?_
      exact am_lret dX10_tail_19 rfl wp
  · have wp := wp.2 hc1
    show am_R E mX10_tail 5 [some (.ref 48), some (.int a1), some (.int a2), some (.int a3), none, none, none, none, none, none, none, none] [.int 0] (hp I J b) 64 64 Q
    refine am_if_eq dX10_tail_5 (tgt := 16) rfl (fun _ => ?_) (fun hc => absurd hc (by decide))
    refine am_ldc2 (-2) kcX10_90 dX10_tail_16 ?_
    exact am_lret dX10_tail_19 rfl wp
theorem bX10_tail_39 {E : Nat × (Nat → Int32)} {I : Nat → Nat → Int32} {J : Nat → Nat → Int64} {b : Bool} {a3 : Int32} {x0 : Int64} {Q : Option Value → am_H → Prop}  (wp : am_R E mX10_tailDown 0 [some (.ref 48), none, none, none] [] (hp I J b) 64 64 (fun r h' => am_R E mX10_tail 49 [some (.ref 48), none, none, some (.int a3), some (.long x0), none, some (.long x0), none, none, none, none, none] (r.toList ++ []) h' 64 64 Q)) : am_R E mX10_tail 39 [some (.ref 48), none, none, some (.int a3), none, none, none, none, none, none, none, none] [.long x0] (hp I J b) 64 64 Q := by
  refine am_lstore (ls' := [some (.ref 48), none, none, some (.int a3), some (.long x0), none, none, none, none, none, none, none]) (by decide) rfl rfl dX10_tail_39 ?_
  refine am_lload rfl dX10_tail_41 ?_
  refine am_lstore (ls' := [some (.ref 48), none, none, some (.int a3), some (.long x0), none, some (.long x0), none, none, none, none, none]) (by decide) rfl rfl dX10_tail_43 ?_
  refine am_aload_n rfl rfl dX10_tail_45 ?_
  refine am_invV (ci := 8) (As := []) (lsZ := [some (.ref 48), none, none, none]) (st := []) dX10_tail_46 hX10_tailDown lkX10_246 ⟨by decide, by decide⟩ (by decide) rfl (by decide) rfl rfl rfl (Nat.le_of_ble_eq_true rfl) rfl (Nat.le_of_ble_eq_true rfl) ⟨Nat.le_refl _, Nat.le_refl _⟩ (am_R.mono wp (fun r h' q => am_R.forget q ⟨rfl, ⟨rfl, ⟨rfl, ⟨rfl, trivial⟩⟩⟩⟩))
theorem bX10_tail_49 {E : Nat × (Nat → Int32)} {I : Nat → Nat → Int32} {J : Nat → Nat → Int64} {b : Bool} {a3 : Int32} {a4 : Int64} {a6 : Int64} {x0 : Int64} {Q : Option Value → am_H → Prop}  (wp : am_R E mX10_tail 51 [some (.ref 48), none, none, some (.int a3), some (.long a4), none, some (.long a6), none, some (.long x0), none, none, none] [] (hp I J b) 64 64 Q) : am_R E mX10_tail 49 [some (.ref 48), none, none, some (.int a3), some (.long a4), none, some (.long a6), none, none, none, none, none] [.long x0] (hp I J b) 64 64 Q := by
  refine am_lstore (ls' := [some (.ref 48), none, none, some (.int a3), some (.long a4), none, some (.long a6), none, some (.long x0), none, none, none]) (by decide) rfl rfl dX10_tail_49 ?_
  exact am_R.forget wp ⟨rfl, ⟨rfl, ⟨rfl, ⟨rfl, ⟨rfl, trivial⟩⟩⟩⟩⟩
theorem bX10_tail_51 {E : Nat × (Nat → Int32)} {I : Nat → Nat → Int32} {J : Nat → Nat → Int64} {b : Bool} {a3 : Int32} {a4 : Int64} {a6 : Int64} {a8 : Int64} {Q : Option Value → am_H → Prop}  (wp : (((lg_cmp a8 0) = 0 → ((¬ a3 = 0 → am_R E mX10_tailDown 0 [some (.ref 48), none, none, none] [] (hp I J b) 64 64 (fun r h' => am_R E mX10_tail 89 [none, none, none, none, none, none, some (.long a6), none, none, none, none, none] (r.toList ++ []) h' 64 64 Q)) ∧ (a3 = 0 → ¬ a6 = 0 ∧ Q (some (.long (a4 / a6))) (hp I J b)))) ∧ (¬ (lg_cmp a8 0) = 0 → ¬ a8 = 0 ∧ am_R E mX10_tail 51 [some (.ref 48), none, none, some (.int a3), some (.long a4), none, some (.long a8), none, some (.long (a6 - a6 / a8 * a8)), none, none, none] [] (hp I J b) 64 64 Q))) : am_R E mX10_tail 51 [some (.ref 48), none, none, some (.int a3), some (.long a4), none, some (.long a6), none, some (.long a8), none, none, none] [] (hp I J b) 64 64 Q := by
  refine am_lload rfl dX10_tail_51 ?_
  refine am_lconst 0 rfl dX10_tail_53 ?_
  refine am_lcmp dX10_tail_54 ?_
  refine am_if_eq dX10_tail_55 (tgt := 76) rfl (fun hc1 => ?_) (fun hc1 => ?_)
  · have wp := wp.1 hc1
    refine am_iload_n rfl rfl dX10_tail_76 ?_
    refine am_if_ne dX10_tail_77 (tgt := 85) rfl (fun hc2 => ?_) (fun hc2 => ?_)
    · have wp := wp.1 hc2
      refine am_aload_n rfl rfl dX10_tail_85 ?_
      refine am_invV (ci := 8) (As := []) (lsZ := [some (.ref 48), none, none, none]) (st := []) dX10_tail_86 hX10_tailDown lkX10_246 ⟨by decide, by decide⟩ (by decide) rfl (by decide) rfl rfl rfl (Nat.le_of_ble_eq_true rfl) rfl (Nat.le_of_ble_eq_true rfl) ⟨Nat.le_refl _, Nat.le_refl _⟩ (am_R.mono wp (fun r h' q => am_R.forget q ⟨rfl, trivial⟩))
    · have wp := wp.2 hc2
      refine am_lload rfl dX10_tail_80 ?_
      refine am_goto dX10_tail_82 (tgt := 89) rfl ?_
      refine am_lload rfl dX10_tail_89 ?_
      obtain ⟨w3, wp⟩ := wp
      refine am_ldiv w3 dX10_tail_91 ?_
      exact am_lret dX10_tail_92 rfl wp
  · have wp := wp.2 hc1
    refine am_lload rfl dX10_tail_58 ?_
    refine am_lload rfl dX10_tail_60 ?_
    obtain ⟨w4, wp⟩ := wp
    refine am_lrem w4 dX10_tail_62 ?_
    refine am_lstore (ls' := [some (.ref 48), none, none, some (.int a3), some (.long a4), none, some (.long a6), none, some (.long a8), none, some (.long (a6 - a6 / a8 * a8)), none]) (by decide) rfl rfl dX10_tail_63 ?_
    refine am_lload rfl dX10_tail_65 ?_
    refine am_lstore (ls' := [some (.ref 48), none, none, some (.int a3), some (.long a4), none, some (.long a8), none, some (.long a8), none, some (.long (a6 - a6 / a8 * a8)), none]) (by decide) rfl rfl dX10_tail_67 ?_
    refine am_lload rfl dX10_tail_69 ?_
    refine am_lstore (ls' := [some (.ref 48), none, none, some (.int a3), some (.long a4), none, some (.long a8), none, some (.long (a6 - a6 / a8 * a8)), none, some (.long (a6 - a6 / a8 * a8)), none]) (by decide) rfl rfl dX10_tail_71 ?_
    refine am_goto dX10_tail_73 (tgt := 51) rfl ?_
    exact am_R.forget wp ⟨rfl, ⟨rfl, ⟨rfl, ⟨rfl, ⟨rfl, trivial⟩⟩⟩⟩⟩
theorem bX10_tail_89 {E : Nat × (Nat → Int32)} {I : Nat → Nat → Int32} {J : Nat → Nat → Int64} {b : Bool} {a6 : Int64} {x0 : Int64} {Q : Option Value → am_H → Prop}  (wp : ¬ a6 = 0 ∧ Q (some (.long (x0 / a6))) (hp I J b)) : am_R E mX10_tail 89 [none, none, none, none, none, none, some (.long a6), none, none, none, none, none] [.long x0] (hp I J b) 64 64 Q := by
  refine am_lload rfl dX10_tail_89 ?_
  obtain ⟨w1, wp⟩ := wp
  refine am_ldiv w1 dX10_tail_91 ?_
  exact am_lret dX10_tail_92 rfl wp
theorem tX10_tail51 {a3 : Int32} {x y D : Nat} (hN : Nn I n) (hD : D ≤ 16) (e : I 55 15 = nI D) (hx : x < 2 ^ 63) (hy : y < 2 ^ 63) (h0 : 0 < y) (ey : y = n ^ D) (k0 : a3 = 0 → Q (some (.long (lN (x / Nat.gcd x y)))) (hp I J b)) (k1 : ¬ a3 = 0 → Q (some (.long (lN (y / Nat.gcd x y)))) (hp I J b)) : am_R E mX10_tail 51 [some (.ref 48), none, none, some (.int a3), some (.long (lN x)), none, some (.long (lN x)), none, some (.long (lN y)), none, none, none] [] (hp I J b) 64 64 Q := by
  have hg : 0 < Nat.gcd x y := Nat.gcd_pos_of_pos_right _ h0
  have hg2 : Nat.gcd x y ≤ y := Nat.gcd_le_right _ h0
  have nz : ∀ w : Nat, 0 < w → w < 2 ^ 63 → ¬ lN w = 0 := fun w h1 h2 q => by
    have := (pk_lEQ (b := 0) h2 (by omega)).mp q
    omega
  have key : ∀ (v u : Nat), u < 2 ^ 63 → v < 2 ^ 63 → Nat.gcd u v = Nat.gcd x y → am_R E mX10_tail 51 [some (.ref 48), none, none, some (.int a3), some (.long (lN x)), none, some (.long (lN u)), none, some (.long (lN v)), none, none, none] [] (hp I J b) 64 64 Q := by
    intro v
    induction v using Nat.strongRecOn with
    | _ v ih =>
      intro u hu hv he
      by_cases v0 : v = 0
      · subst v0
        rw [Nat.gcd_zero_right] at he
        subst he
        refine bX10_tail_51 ⟨fun _ => ⟨fun q => ?_, fun q => ⟨nz _ hg (by omega), ?_⟩⟩, fun q => absurd ((lg_cmp_eq _ _).mpr rfl) q⟩
        · refine tX10_tailDown (n := n) hN hD e (bX10_tail_89 ⟨nz _ hg (by omega), ?_⟩)
          rw [← ey, pk_lDiv hy hg (by omega)]; exact k1 q
        · rw [pk_lDiv hx hg (by omega)]; exact k0 q
      · have hlt := Nat.mod_lt u (show 0 < v by omega)
        refine bX10_tail_51 ⟨fun q => absurd ((lg_cmp_eq _ _).mp q) (nz v (by omega) hv), fun _ => ⟨nz v (by omega) hv, ?_⟩⟩
        rw [pk_lRem hu (by omega) hv]
        exact ih (u % v) hlt v hv (by omega) (by rw [← gcd_step]; exact he)
  exact key y x hx hy rfl
/-- as Pair, with a long for an answer -/
def PairL (E : Nat × (Nat → Int32)) (mx mm : am_M) (lx lm : List (Option Value)) (I : Nat → Nat → Int32) (J : Nat → Nat → Int64) (b : Bool) : Prop := ∃ (v : Int64) (Mid : (Nat → Nat → Int32) → Prop), (∀ Q : Option Value → am_H → Prop, (∀ I1 J1 b1, Mid I1 → Q (some (.long v)) (hp I1 J1 b1)) → am_R E mx 0 lx [] (hp I J b) 64 64 Q) ∧ (∀ I1 J1 b1, Mid I1 → ∀ Q : Option Value → am_H → Prop, (∀ I2 J2 b2 n2, Inv I2 n2 → Q (some (.long v)) (hp I2 J2 b2)) → am_R E mm 0 lm [] (hp I1 J1 b1) 64 64 Q)
theorem PairL.same {mx mm : am_M} {lx lm : List (Option Value)} (hI : Inv I n) (v : Int64) (h1 : ∀ Q : Option Value → am_H → Prop, Q (some (.long v)) (hp I J b) → am_R E mx 0 lx [] (hp I J b) 64 64 Q) (h2 : ∀ (J : Nat → Nat → Int64) (b : Bool) (Q : Option Value → am_H → Prop), Q (some (.long v)) (hp I J b) → am_R E mm 0 lm [] (hp I J b) 64 64 Q) : PairL E mx mm lx lm I J b :=
  ⟨v, fun I1 => I1 = I, fun Q h => h1 Q (h I J b rfl), fun I1 J1 b1 e Q h => by subst e; exact h2 J1 b1 Q (h _ J1 b1 n hI)⟩
theorem p_tail (hI : Inv I n) (a1 a2 a3 : Int32) : PairL E mX9_tail mX10_tail [some (.ref 0), some (.int a1), some (.int a2), some (.int a3), none, none] [some (.ref 48), some (.int a1), some (.int a2), some (.int a3), none, none, none, none, none, none, none, none] I J b := by
  have hN := hI.1.1
  have n0 := hN.1
  have n2 := hN.2.1
  have n7 := hN.2.2
  have e0 : I 4 0 = nI n := hI.2.1.1
  obtain ⟨D, hD1, hD2⟩ := hI.1.2.2.2.2.2.2.1.2.2.2
  have c5 := hI.2.2.2.2.2.2.1
  have e3 : I 9 3 = nI D := c5.2.1.trans hD2
  have im : ∀ a : Int32, (0 ≤ a ∧ a ≤ nI n - 1) = (0 ≤ a ∧ a < nI n) := fun a => propext (in_mod (by omega) n7)
  have ip : (0 ≤ a3 ∧ a3 ≤ 1) = (a3 = 0 ∨ a3 = 1) := propext in_01i
  by_cases h1 : 0 ≤ a1 ∧ a1 < nI n
  case neg => exact PairL.same hI (-2) (fun Q h => bX9_tail_0 (by rw [e0]; (repeat' (first | exact h | contradiction | apply And.intro | intro _)))) (fun J b Q h => bX10_tail_0 (by rw [n0, im, im, ip]; (repeat' (first | exact h | contradiction | apply And.intro | intro _))))
  by_cases h2 : 0 ≤ a2 ∧ a2 < nI n
  case neg => exact PairL.same hI (-2) (fun Q h => bX9_tail_0 (by rw [e0]; (repeat' (first | exact h | contradiction | apply And.intro | intro _)))) (fun J b Q h => bX10_tail_0 (by rw [n0, im, im, ip]; (repeat' (first | exact h | contradiction | apply And.intro | intro _))))
  by_cases hp' : a3 = 0 ∨ a3 = 1
  case neg => exact PairL.same hI (-3) (fun Q h => bX9_tail_0 (by rw [e0]; (repeat' (first | exact h | contradiction | apply And.intro | intro _)))) (fun J b Q h => bX10_tail_0 (by rw [n0, im, im, ip]; (repeat' (first | exact h | contradiction | apply And.intro | intro _))))
  obtain ⟨m, hm, rfl⟩ := in_cls n7 h1
  obtain ⟨d, hd, rfl⟩ := in_cls n7 h2
  obtain ⟨p0, p45⟩ := pw_lt n2 n7 hD1
  have hw := wy_lt (l := ofc (I 55) D m d) n7 hD1
  have hl : ofc (I 55) D m d ≤ D := fb_ct_le _ _
  have cls : ∀ Q : Option Value → am_H → Prop, (a3 = 0 → Q (some (.long (lN (wy n D (ofc (I 55) D m d) (D + 1) / Nat.gcd (wy n D (ofc (I 55) D m d) (D + 1)) (n ^ D))))) (hp I J b)) → (a3 = 1 → Q (some (.long (lN (n ^ D / Nat.gcd (wy n D (ofc (I 55) D m d) (D + 1)) (n ^ D))))) (hp I J b)) → am_R E mX9_tail 0 [some (.ref 0), some (.int (nI m)), some (.int (nI d)), some (.int a3), none, none] [] (hp I J b) 64 64 Q := by
    intro Q k0 k1
    refine bX9_tail_0 ?_
    rw [e0]
    refine ⟨fun _ => ⟨fun _ => ⟨fun _ => ?_, fun q => absurd hp' q⟩, fun q => absurd h2 q⟩, fun q => absurd h1 q⟩
    refine tX1_timesOf rfl rfl (by omega) hD1 e3 (fun i hi => c5.2.2.2.2 D hD1 hD2 i hi m hm) (bX9_tail_40 ?_)
    refine tX0_waysOf (n := n) rfl (by omega) e3 hD1 e0 n2 n7 (bX9_tail_57 ?_)
    refine tX0_power (x := n) (t := D) (by rw [e0, nI_l (by omega)]) e3 (by omega) (bX9_tail_79 ?_)
    exact tX0_lowest rfl rfl hw p45 hp' (fun q => bX9_tail_83 (k0 q)) (fun q => bX9_tail_83 (k1 q)) p0
  have mdl : ∀ (J : Nat → Nat → Int64) (b : Bool) (Q : Option Value → am_H → Prop), (a3 = 0 → Q (some (.long (lN (wy n D (ofc (I 55) D m d) (D + 1) / Nat.gcd (wy n D (ofc (I 55) D m d) (D + 1)) (n ^ D))))) (hp I J b)) → (a3 = 1 → Q (some (.long (lN (n ^ D / Nat.gcd (wy n D (ofc (I 55) D m d) (D + 1)) (n ^ D))))) (hp I J b)) → am_R E mX10_tail 0 [some (.ref 48), some (.int (nI m)), some (.int (nI d)), some (.int a3), none, none, none, none, none, none, none, none] [] (hp I J b) 64 64 Q := by
    intro J b Q k0 k1
    refine bX10_tail_0 ?_
    rw [n0, im, im, ip]
    refine ⟨fun _ => ⟨fun _ => ⟨fun _ => ?_, fun q => absurd hp' q⟩, fun q => absurd h2 q⟩, fun q => absurd h1 q⟩
    refine tX10_tailUp (n := n) hN rfl rfl (by omega) hD1 hD2 (bX10_tail_39 ?_)
    refine tX10_tailDown (n := n) hN hD1 hD2 (bX10_tail_49 ?_)
    exact tX10_tail51 hN hD1 hD2 hw (by omega) p0 rfl k0 (fun q => k1 (hp'.elim (fun z => absurd z q) id))
  rcases hp' with rfl | rfl
  · exact PairL.same hI _ (fun Q h => cls Q (fun _ => h) (fun q => absurd q (by decide))) (fun J b Q h => mdl J b Q (fun _ => h) (fun q => absurd q (by decide)))
  · exact PairL.same hI _ (fun Q h => cls Q (fun q => absurd q (by decide)) (fun _ => h)) (fun J b Q h => mdl J b Q (fun q => absurd q (by decide)) (fun _ => h))
/-- the first of all monks and duties -/
def nf (c : Nat → Nat → Bool) (n : Nat) : Nat → Nat → Nat → Int32
  | 0, _, _ => -1
  | f + 1, m, d => if d < n then (if c m d then nI (10 * m + d) else nf c n f m (d + 1)) else if m + 1 < n then nf c n f (m + 1) 0 else -1
theorem bX9_named_0 {E : Nat × (Nat → Int32)} {I : Nat → Nat → Int32} {J : Nat → Nat → Int64} {b : Bool} {a1 : Int32} {Q : Option Value → am_H → Prop}  (wp : ((a1 < 0 → Q (some (.int (-3))) (hp I J b)) ∧ (¬ a1 < 0 → ((a1 ≤ 1000 → am_R E mX0_power 0 [some (.long (Int32.toInt64 (I 4 0))), none, some (.int (I 9 3)), none, none, none] [] (hp I J b) 64 64 (fun r h' => am_R E mX9_named 32 [some (.ref 0), some (.int a1), none, none, none, none, none, none] (r.toList ++ []) h' 64 64 Q)) ∧ (¬ a1 ≤ 1000 → Q (some (.int (-3))) (hp I J b)))))) : am_R E mX9_named 0 [some (.ref 0), some (.int a1), none, none, none, none, none, none] [] (hp I J b) 64 64 Q := by
  refine am_iload_n rfl rfl dX9_named_0 ?_
  refine am_if_lt dX9_named_1 (tgt := 11) rfl (fun hc1 => ?_) (fun hc1 => ?_)
  · have wp := wp.1 hc1
    refine am_bipush (-3) rfl dX9_named_11 ?_
    exact am_iret dX9_named_13 rfl rfl wp
  · have wp := wp.2 hc1
    refine am_iload_n rfl rfl dX9_named_4 ?_
    refine am_sipush 1000 rfl dX9_named_5 ?_
    refine am_icmp_le dX9_named_8 (tgt := 14) rfl (fun hc2 => ?_) (fun hc2 => ?_)
    · have wp := wp.1 hc2
      refine am_aload_n rfl rfl dX9_named_14 ?_
      refine am_getA (r := 4) dX9_named_15 flX9_19 (Or.inl ⟨_, rfl⟩) rfl (by decide) rfl ?_
      refine am_getI dX9_named_18 flX9_102 (Or.inl rfl) rfl (by decide) ?_
      refine am_i2l dX9_named_21 ?_
      refine am_aload_n rfl rfl dX9_named_22 ?_
      refine am_getA (r := 9) dX9_named_23 flX9_26 (Or.inl ⟨_, rfl⟩) rfl (by decide) rfl ?_
      refine am_getI dX9_named_26 flX9_186 (Or.inl rfl) rfl (by decide) ?_
      refine am_invS (As := [.long (Int32.toInt64 (I 4 0)), .int (I 9 3)]) (lsZ := [some (.long (Int32.toInt64 (I 4 0))), none, some (.int (I 9 3)), none, none, none]) (st := []) dX9_named_29 hX0_power lkX9_257 ⟨by decide, by decide⟩ rfl rfl (Nat.le_of_ble_eq_true rfl) rfl (Nat.le_of_ble_eq_true rfl) ⟨Nat.le_refl _, Nat.le_refl _⟩ (am_R.mono wp (fun r h' q => am_R.forget q ⟨rfl, ⟨rfl, trivial⟩⟩))
    · have wp := wp.2 hc2
      refine am_bipush (-3) rfl dX9_named_11 ?_
      exact am_iret dX9_named_13 rfl rfl wp
theorem bX9_named_32 {E : Nat × (Nat → Int32)} {I : Nat → Nat → Int32} {J : Nat → Nat → Int64} {b : Bool} {a1 : Int32} {x0 : Int64} {Q : Option Value → am_H → Prop}  (wp : am_R E mX9_named 36 [some (.ref 0), some (.int a1), some (.long x0), none, some (.int 0), none, none, none] [] (hp I J b) 64 64 Q) : am_R E mX9_named 32 [some (.ref 0), some (.int a1), none, none, none, none, none, none] [.long x0] (hp I J b) 64 64 Q := by
  refine am_lstore_n (ls' := [some (.ref 0), some (.int a1), some (.long x0), none, none, none, none, none]) rfl (by decide) rfl rfl dX9_named_32 ?_
  refine am_iconst 0 rfl dX9_named_33 ?_
  refine am_istore (ls' := [some (.ref 0), some (.int a1), some (.long x0), none, some (.int 0), none, none, none]) (by decide) rfl rfl dX9_named_34 ?_
  exact am_R.forget wp ⟨rfl, ⟨rfl, ⟨rfl, ⟨rfl, trivial⟩⟩⟩⟩
theorem bX9_named_36 {E : Nat × (Nat → Int32)} {I : Nat → Nat → Int32} {J : Nat → Nat → Int64} {b : Bool} {a1 : Int32} {a2 : Int64} {a4 : Int32} {Q : Option Value → am_H → Prop}  (wp : (((I 4 0) ≤ a4 → Q (some (.int (-1))) (hp I J b)) ∧ (¬ (I 4 0) ≤ a4 → am_R E mX9_named 51 [some (.ref 0), some (.int a1), some (.long a2), none, some (.int a4), some (.int 0), none, none] [] (hp I J b) 64 64 Q))) : am_R E mX9_named 36 [some (.ref 0), some (.int a1), some (.long a2), none, some (.int a4), none, none, none] [] (hp I J b) 64 64 Q := by
  refine am_iload rfl dX9_named_36 ?_
  refine am_aload_n rfl rfl dX9_named_38 ?_
  refine am_getA (r := 4) dX9_named_39 flX9_19 (Or.inl ⟨_, rfl⟩) rfl (by decide) rfl ?_
  refine am_getI dX9_named_42 flX9_102 (Or.inl rfl) rfl (by decide) ?_
  refine am_icmp_ge dX9_named_45 (tgt := 128) rfl (fun hc1 => ?_) (fun hc1 => ?_)
  · have wp := wp.1 hc1
    refine am_iconst (-1) rfl dX9_named_128 ?_
    exact am_iret dX9_named_129 rfl rfl wp
  · have wp := wp.2 hc1
    refine am_iconst 0 rfl dX9_named_48 ?_
    refine am_istore (ls' := [some (.ref 0), some (.int a1), some (.long a2), none, some (.int a4), some (.int 0), none, none]) (by decide) rfl rfl dX9_named_49 ?_
    exact am_R.forget wp ⟨rfl, ⟨rfl, ⟨rfl, ⟨rfl, ⟨rfl, trivial⟩⟩⟩⟩⟩
theorem bX9_named_51 {E : Nat × (Nat → Int32)} {I : Nat → Nat → Int32} {J : Nat → Nat → Int64} {b : Bool} {a1 : Int32} {a2 : Int64} {a4 : Int32} {a5 : Int32} {Q : Option Value → am_H → Prop}  (wp : (((I 4 0) ≤ a5 → am_R E mX9_named 36 [some (.ref 0), some (.int a1), some (.long a2), none, some (.int (a4 + 1)), none, none, none] [] (hp I J b) 64 64 Q) ∧ (¬ (I 4 0) ≤ a5 → am_R E mX1_timesOf 0 [some (.ref 9), some (.int a4), some (.int a5), none, none] [] (hp I J b) 64 64 (fun r h' => am_R E mX9_named 74 [some (.ref 0), some (.int a1), some (.long a2), none, some (.int a4), some (.int a5), none, none] (r.toList ++ []) h' 64 64 Q)))) : am_R E mX9_named 51 [some (.ref 0), some (.int a1), some (.long a2), none, some (.int a4), some (.int a5), none, none] [] (hp I J b) 64 64 Q := by
  refine am_iload rfl dX9_named_51 ?_
  refine am_aload_n rfl rfl dX9_named_53 ?_
  refine am_getA (r := 4) dX9_named_54 flX9_19 (Or.inl ⟨_, rfl⟩) rfl (by decide) rfl ?_
  refine am_getI dX9_named_57 flX9_102 (Or.inl rfl) rfl (by decide) ?_
  refine am_icmp_ge dX9_named_60 (tgt := 122) rfl (fun hc1 => ?_) (fun hc1 => ?_)
  · have wp := wp.1 hc1
    refine am_iinc (ls' := [some (.ref 0), some (.int a1), some (.long a2), none, some (.int (a4 + 1)), some (.int a5), none, none]) (by decide) rfl rfl rfl dX9_named_122 ?_
    refine am_goto dX9_named_125 (tgt := 36) rfl ?_
    exact am_R.forget wp ⟨rfl, ⟨rfl, ⟨rfl, ⟨rfl, trivial⟩⟩⟩⟩
  · have wp := wp.2 hc1
    refine am_aload_n rfl rfl dX9_named_63 ?_
    refine am_getA (r := 9) dX9_named_64 flX9_26 (Or.inl ⟨_, rfl⟩) rfl (by decide) rfl ?_
    refine am_iload rfl dX9_named_67 ?_
    refine am_iload rfl dX9_named_69 ?_
    refine am_invV (ci := 0) (As := [.int a4, .int a5]) (lsZ := [some (.ref 9), some (.int a4), some (.int a5), none, none]) (st := []) dX9_named_71 hX1_timesOf lkX9_246 ⟨by decide, by decide⟩ (by decide) rfl (by decide) rfl rfl rfl (Nat.le_of_ble_eq_true rfl) rfl (Nat.le_of_ble_eq_true rfl) ⟨Nat.le_refl _, Nat.le_refl _⟩ (am_R.mono wp (fun r h' q => am_R.forget q ⟨rfl, ⟨rfl, ⟨rfl, ⟨rfl, ⟨rfl, trivial⟩⟩⟩⟩⟩))
theorem bX9_named_74 {E : Nat × (Nat → Int32)} {I : Nat → Nat → Int32} {J : Nat → Nat → Int64} {b : Bool} {a1 : Int32} {a2 : Int64} {a4 : Int32} {a5 : Int32} {x0 : Int32} {Q : Option Value → am_H → Prop}  (wp : am_R E mX0_waysOf 0 [some (.int x0), some (.int (I 9 3)), some (.int (I 4 0)), none, none, none, none, none] [] (hp I J b) 64 64 (fun r h' => am_R E mX9_named 91 [some (.ref 0), some (.int a1), some (.long a2), none, some (.int a4), some (.int a5), none, none] (r.toList ++ []) h' 64 64 Q)) : am_R E mX9_named 74 [some (.ref 0), some (.int a1), some (.long a2), none, some (.int a4), some (.int a5), none, none] [.int x0] (hp I J b) 64 64 Q := by
  refine am_aload_n rfl rfl dX9_named_74 ?_
  refine am_getA (r := 9) dX9_named_75 flX9_26 (Or.inl ⟨_, rfl⟩) rfl (by decide) rfl ?_
  refine am_getI dX9_named_78 flX9_186 (Or.inl rfl) rfl (by decide) ?_
  refine am_aload_n rfl rfl dX9_named_81 ?_
  refine am_getA (r := 4) dX9_named_82 flX9_19 (Or.inl ⟨_, rfl⟩) rfl (by decide) rfl ?_
  refine am_getI dX9_named_85 flX9_102 (Or.inl rfl) rfl (by decide) ?_
  refine am_invS (As := [.int x0, .int (I 9 3), .int (I 4 0)]) (lsZ := [some (.int x0), some (.int (I 9 3)), some (.int (I 4 0)), none, none, none, none, none]) (st := []) dX9_named_88 hX0_waysOf lkX9_253 ⟨by decide, by decide⟩ rfl rfl (Nat.le_of_ble_eq_true rfl) rfl (Nat.le_of_ble_eq_true rfl) ⟨Nat.le_refl _, Nat.le_refl _⟩ (am_R.mono wp (fun r h' q => am_R.forget q ⟨rfl, ⟨rfl, ⟨rfl, ⟨rfl, ⟨rfl, trivial⟩⟩⟩⟩⟩))
theorem bX9_named_91 {E : Nat × (Nat → Int32)} {I : Nat → Nat → Int32} {J : Nat → Nat → Int64} {b : Bool} {a1 : Int32} {a2 : Int64} {a4 : Int32} {a5 : Int32} {x0 : Int64} {Q : Option Value → am_H → Prop}  (wp : ((0 ≤ (lg_cmp (1000 * x0) ((Int32.toInt64 a1) * a2)) → am_R E mX9_named 51 [some (.ref 0), some (.int a1), some (.long a2), none, some (.int a4), some (.int (a5 + 1)), none, none] [] (hp I J b) 64 64 Q) ∧ (¬ 0 ≤ (lg_cmp (1000 * x0) ((Int32.toInt64 a1) * a2)) → Q (some (.int ((10 * a4) + a5))) (hp I J b)))) : am_R E mX9_named 91 [some (.ref 0), some (.int a1), some (.long a2), none, some (.int a4), some (.int a5), none, none] [.long x0] (hp I J b) 64 64 Q := by
  refine am_lstore (ls' := [some (.ref 0), some (.int a1), some (.long a2), none, some (.int a4), some (.int a5), some (.long x0), none]) (by decide) rfl rfl dX9_named_91 ?_
  refine am_ldc2 1000 kcX9_261 dX9_named_93 ?_
  refine am_lload rfl dX9_named_96 ?_
  refine am_lmul dX9_named_98 ?_
  refine am_iload_n rfl rfl dX9_named_99 ?_
  refine am_i2l dX9_named_100 ?_
  refine am_lload_n rfl rfl dX9_named_101 ?_
  refine am_lmul dX9_named_102 ?_
  refine am_lcmp dX9_named_103 ?_
  refine am_if_ge dX9_named_104 (tgt := 116) rfl (fun hc1 => ?_) (fun hc1 => ?_)
  · have wp := wp.1 hc1
    refine am_iinc (ls' := [some (.ref 0), some (.int a1), some (.long a2), none, some (.int a4), some (.int (a5 + 1)), some (.long x0), none]) (by decide) rfl rfl rfl dX9_named_116 ?_
    refine am_goto dX9_named_119 (tgt := 51) rfl ?_
    exact am_R.forget wp ⟨rfl, ⟨rfl, ⟨rfl, ⟨rfl, ⟨rfl, trivial⟩⟩⟩⟩⟩
  · have wp := wp.2 hc1
    refine am_bipush 10 rfl dX9_named_107 ?_
    refine am_iload rfl dX9_named_109 ?_
    refine am_imul dX9_named_111 ?_
    refine am_iload rfl dX9_named_112 ?_
    refine am_iadd dX9_named_114 ?_
    exact am_iret dX9_named_115 rfl rfl wp
theorem bX10_named_0 {E : Nat × (Nat → Int32)} {I : Nat → Nat → Int32} {J : Nat → Nat → Int64} {b : Bool} {a1 : Int32} {Q : Option Value → am_H → Prop}  (wp : (((0 ≤ a1 ∧ a1 ≤ 1000) → am_R E mX10_named 16 [some (.ref 48), some (.int a1), some (.int 0), none] [] (hp I J b) 64 64 Q) ∧ (¬ (0 ≤ a1 ∧ a1 ≤ 1000) → Q (some (.int (-3))) (hp I J b)))) : am_R E mX10_named 0 [some (.ref 48), some (.int a1), none, none] [] (hp I J b) 64 64 Q := by
  refine am_iload_n rfl rfl dX10_named_0 ?_
  refine am_iconst 0 rfl dX10_named_1 ?_
  refine am_sipush 1000 rfl dX10_named_2 ?_
  refine am_invS (As := [.int a1, .int 0, .int 1000]) (lsZ := [some (.int a1), some (.int 0), some (.int 1000)]) (st := []) dX10_named_5 hX10_in lkX10_69 ⟨by decide, by decide⟩ rfl rfl (Nat.le_of_ble_eq_true rfl) rfl (Nat.le_of_ble_eq_true rfl) ⟨Nat.le_refl _, Nat.le_refl _⟩ (tX10_in  (fun hc1 => ?_) (fun hc1 => ?_))
  · have wp := wp.1 hc1
    show am_R E mX10_named 8 [some (.ref 48), some (.int a1), none, none] [.int 1] (hp I J b) 64 64 Q
    refine am_if_ne dX10_named_8 (tgt := 14) rfl (fun _ => ?_) (fun hc => absurd hc (by decide))
    refine am_iconst 0 rfl dX10_named_14 ?_
    refine am_istore_n (ls' := [some (.ref 48), some (.int a1), some (.int 0), none]) rfl (by decide) rfl rfl dX10_named_15 ?_
    exact am_R.forget wp ⟨rfl, ⟨rfl, ⟨rfl, trivial⟩⟩⟩
  · have wp := wp.2 hc1
    show am_R E mX10_named 8 [some (.ref 48), some (.int a1), none, none] [.int 0] (hp I J b) 64 64 Q
    refine am_if_ne dX10_named_8 (tgt := 14) rfl (fun hc => absurd hc (by decide)) (fun _ => ?_)
    refine am_bipush (-3) rfl dX10_named_11 ?_
    exact am_iret dX10_named_13 rfl rfl wp
theorem bX10_named_16 {E : Nat × (Nat → Int32)} {I : Nat → Nat → Int32} {J : Nat → Nat → Int64} {b : Bool} {a1 : Int32} {a2 : Int32} {Q : Option Value → am_H → Prop}  (wp : (((I 48 0) ≤ a2 → Q (some (.int (-1))) (hp I J b)) ∧ (¬ (I 48 0) ≤ a2 → am_R E mX10_named 26 [some (.ref 48), some (.int a1), some (.int a2), some (.int 0)] [] (hp I J b) 64 64 Q))) : am_R E mX10_named 16 [some (.ref 48), some (.int a1), some (.int a2), none] [] (hp I J b) 64 64 Q := by
  refine am_iload_n rfl rfl dX10_named_16 ?_
  refine am_aload_n rfl rfl dX10_named_17 ?_
  refine am_getI dX10_named_18 flX10_7 (Or.inl rfl) rfl (by decide) ?_
  refine am_icmp_ge dX10_named_21 (tgt := 74) rfl (fun hc1 => ?_) (fun hc1 => ?_)
  · have wp := wp.1 hc1
    refine am_iconst (-1) rfl dX10_named_74 ?_
    exact am_iret dX10_named_75 rfl rfl wp
  · have wp := wp.2 hc1
    refine am_iconst 0 rfl dX10_named_24 ?_
    refine am_istore_n (ls' := [some (.ref 48), some (.int a1), some (.int a2), some (.int 0)]) rfl (by decide) rfl rfl dX10_named_25 ?_
    exact am_R.forget wp ⟨rfl, ⟨rfl, ⟨rfl, ⟨rfl, trivial⟩⟩⟩⟩
theorem bX10_named_26 {E : Nat × (Nat → Int32)} {I : Nat → Nat → Int32} {J : Nat → Nat → Int64} {b : Bool} {a1 : Int32} {a2 : Int32} {a3 : Int32} {Q : Option Value → am_H → Prop}  (wp : (((I 48 0) ≤ a3 → am_R E mX10_named 16 [some (.ref 48), some (.int a1), some (.int (a2 + 1)), none] [] (hp I J b) 64 64 Q) ∧ (¬ (I 48 0) ≤ a3 → am_R E mX10_tailUp 0 [some (.ref 48), some (.int a2), some (.int a3), none, none, none, none, none, none, none] [] (hp I J b) 64 64 (fun r h' => am_R E mX10_named 43 [some (.ref 48), some (.int a1), some (.int a2), some (.int a3)] (r.toList ++ [.long 1000]) h' 64 64 Q)))) : am_R E mX10_named 26 [some (.ref 48), some (.int a1), some (.int a2), some (.int a3)] [] (hp I J b) 64 64 Q := by
  refine am_iload_n rfl rfl dX10_named_26 ?_
  refine am_aload_n rfl rfl dX10_named_27 ?_
  refine am_getI dX10_named_28 flX10_7 (Or.inl rfl) rfl (by decide) ?_
  refine am_icmp_ge dX10_named_31 (tgt := 68) rfl (fun hc1 => ?_) (fun hc1 => ?_)
  · have wp := wp.1 hc1
    refine am_iinc (ls' := [some (.ref 48), some (.int a1), some (.int (a2 + 1)), some (.int a3)]) (by decide) rfl rfl rfl dX10_named_68 ?_
    refine am_goto dX10_named_71 (tgt := 16) rfl ?_
    exact am_R.forget wp ⟨rfl, ⟨rfl, ⟨rfl, trivial⟩⟩⟩
  · have wp := wp.2 hc1
    refine am_ldc2 1000 kcX10_250 dX10_named_34 ?_
    refine am_aload_n rfl rfl dX10_named_37 ?_
    refine am_iload_n rfl rfl dX10_named_38 ?_
    refine am_iload_n rfl rfl dX10_named_39 ?_
    refine am_invV (ci := 8) (As := [.int a2, .int a3]) (lsZ := [some (.ref 48), some (.int a2), some (.int a3), none, none, none, none, none, none, none]) (st := [.long 1000]) dX10_named_40 hX10_tailUp lkX10_242 ⟨by decide, by decide⟩ (by decide) rfl (by decide) rfl rfl rfl (Nat.le_of_ble_eq_true rfl) rfl (Nat.le_of_ble_eq_true rfl) ⟨Nat.le_refl _, Nat.le_refl _⟩ (am_R.mono wp (fun r h' q => am_R.forget q ⟨rfl, ⟨rfl, ⟨rfl, ⟨rfl, trivial⟩⟩⟩⟩))
theorem bX10_named_43 {E : Nat × (Nat → Int32)} {I : Nat → Nat → Int32} {J : Nat → Nat → Int64} {b : Bool} {a1 : Int32} {a2 : Int32} {a3 : Int32} {x0 : Int64} {x1 : Int64} {Q : Option Value → am_H → Prop}  (wp : am_R E mX10_tailDown 0 [some (.ref 48), none, none, none] [] (hp I J b) 64 64 (fun r h' => am_R E mX10_named 50 [some (.ref 48), some (.int a1), some (.int a2), some (.int a3)] (r.toList ++ [.long (Int32.toInt64 a1), .long (x1 * x0)]) h' 64 64 Q)) : am_R E mX10_named 43 [some (.ref 48), some (.int a1), some (.int a2), some (.int a3)] [.long x0, .long x1] (hp I J b) 64 64 Q := by
  refine am_lmul dX10_named_43 ?_
  refine am_iload_n rfl rfl dX10_named_44 ?_
  refine am_i2l dX10_named_45 ?_
  refine am_aload_n rfl rfl dX10_named_46 ?_
  refine am_invV (ci := 8) (As := []) (lsZ := [some (.ref 48), none, none, none]) (st := [.long (Int32.toInt64 a1), .long (x1 * x0)]) dX10_named_47 hX10_tailDown lkX10_246 ⟨by decide, by decide⟩ (by decide) rfl (by decide) rfl rfl rfl (Nat.le_of_ble_eq_true rfl) rfl (Nat.le_of_ble_eq_true rfl) ⟨Nat.le_refl _, Nat.le_refl _⟩ (am_R.mono wp (fun r h' q => am_R.forget q ⟨rfl, ⟨rfl, ⟨rfl, ⟨rfl, trivial⟩⟩⟩⟩))
theorem bX10_named_50 {E : Nat × (Nat → Int32)} {I : Nat → Nat → Int32} {J : Nat → Nat → Int64} {b : Bool} {a1 : Int32} {a2 : Int32} {a3 : Int32} {x0 : Int64} {x1 : Int64} {x2 : Int64} {Q : Option Value → am_H → Prop}  (wp : ((0 ≤ (lg_cmp x2 (x1 * x0)) → am_R E mX10_named 26 [some (.ref 48), some (.int a1), some (.int a2), some (.int (a3 + 1))] [] (hp I J b) 64 64 Q) ∧ (¬ 0 ≤ (lg_cmp x2 (x1 * x0)) → Q (some (.int ((10 * a2) + a3))) (hp I J b)))) : am_R E mX10_named 50 [some (.ref 48), some (.int a1), some (.int a2), some (.int a3)] [.long x0, .long x1, .long x2] (hp I J b) 64 64 Q := by
  refine am_lmul dX10_named_50 ?_
  refine am_lcmp dX10_named_51 ?_
  refine am_if_ge dX10_named_52 (tgt := 62) rfl (fun hc1 => ?_) (fun hc1 => ?_)
  · have wp := wp.1 hc1
    refine am_iinc (ls' := [some (.ref 48), some (.int a1), some (.int a2), some (.int (a3 + 1))]) (by decide) rfl rfl rfl dX10_named_62 ?_
    refine am_goto dX10_named_65 (tgt := 26) rfl ?_
    exact am_R.forget wp ⟨rfl, ⟨rfl, ⟨rfl, ⟨rfl, trivial⟩⟩⟩⟩
  · have wp := wp.2 hc1
    refine am_bipush 10 rfl dX10_named_55 ?_
    refine am_iload_n rfl rfl dX10_named_57 ?_
    refine am_imul dX10_named_58 ?_
    refine am_iload_n rfl rfl dX10_named_59 ?_
    refine am_iadd dX10_named_60 ?_
    exact am_iret dX10_named_61 rfl rfl wp
theorem p_named (hI : Inv I n) (a1 : Int32) : Pair E mX9_named mX10_named [some (.ref 0), some (.int a1), none, none, none, none, none, none] [some (.ref 48), some (.int a1), none, none] I J b := by
  have hN := hI.1.1
  have n0 := hN.1
  have n2 := hN.2.1
  have n7 := hN.2.2
  have e0 : I 4 0 = nI n := hI.2.1.1
  obtain ⟨D, hD1, hD2⟩ := hI.1.2.2.2.2.2.2.1.2.2.2
  have c5 := hI.2.2.2.2.2.2.1
  have e3 : I 9 3 = nI D := c5.2.1.trans hD2
  by_cases hk : 0 ≤ a1 ∧ a1 ≤ 1000
  case neg => exact Pair.same hI (.int (-3)) (fun Q h => bX9_named_0 ⟨fun _ => h, fun q => ⟨fun q2 => absurd ⟨nlt q, q2⟩ hk, fun _ => h⟩⟩) (fun J b Q h => bX10_named_0 ⟨fun q => absurd q hk, fun _ => h⟩)
  have t10 : ∀ m d : Nat, 10 * nI m + nI d = nI (10 * m + d) := fun m d => by rw [show (10 : Int32) = nI 10 from rfl, pk_mul, nI_add]
  generalize hc : (fun m d => decide (¬ 0 ≤ lg_cmp (1000 * lN (wy n D (ofc (I 55) D m d) (D + 1))) (Int32.toInt64 a1 * lN (n ^ D)))) = c
  have hcs : ∀ m d, c m d = decide (¬ 0 ≤ lg_cmp (1000 * lN (wy n D (ofc (I 55) D m d) (D + 1))) (Int32.toInt64 a1 * lN (n ^ D))) := fun m d => by rw [← hc]
  have hl : ∀ m d, ofc (I 55) D m d ≤ D := fun m d => fb_ct_le _ _
  refine Pair.same hI (.int (nf c n 64 0 0)) (fun Q h => ?_) (fun J b Q h => ?_)
  · have key : ∀ f m d, m < n → d ≤ n → 8 * (n - 1 - m) + (n - d) + 1 ≤ f → Q (some (.int (nf c n f m d))) (hp I J b) → am_R E mX9_named 51 [some (.ref 0), some (.int a1), some (.long (lN (n ^ D))), none, some (.int (nI m)), some (.int (nI d)), none, none] [] (hp I J b) 64 64 Q := by
      intro f
      induction f with
      | zero => intro m d h1 h2 h3; omega
      | succ f ih =>
        intro m d h1 h2 h3 hQ
        rw [nf] at hQ
        refine bX9_named_51 (le_br e0 rfl (by omega) (by omega) (fun q => ?_) (fun q => ?_))
        · rw [if_neg (by omega)] at hQ
          rw [n1]
          refine bX9_named_36 (le_br e0 rfl (by omega) (by omega) (fun q2 => ?_) (fun q2 => ?_))
          · rw [if_neg (by omega)] at hQ; exact hQ
          · rw [if_pos (by omega)] at hQ
            exact ih (m + 1) 0 (by omega) (by omega) (by omega) hQ
        · rw [if_pos q] at hQ
          refine tX1_timesOf rfl rfl (by omega) hD1 e3 (fun i hi => c5.2.2.2.2 D hD1 hD2 i hi m h1) (bX9_named_74 ?_)
          refine tX0_waysOf (n := n) rfl (by have := hl m d; omega) e3 hD1 e0 n2 n7 (bX9_named_91 ⟨fun z => ?_, fun z => ?_⟩)
          · rw [hcs, decide_eq_false (fun w => w z)] at hQ
            rw [n1]
            exact ih m (d + 1) h1 (by omega) (by omega) hQ
          · rw [hcs, decide_eq_true z] at hQ
            rw [t10]; exact hQ
    refine bX9_named_0 ⟨fun q => absurd hk.1 (Int32.not_le.mpr q), fun _ => ⟨fun _ => ?_, fun q => absurd hk.2 q⟩⟩
    refine tX0_power (x := n) (t := D) (by rw [e0, nI_l (by omega)]) e3 (by omega) (bX9_named_32 ?_)
    refine bX9_named_36 (le_br (m := 0) e0 rfl (by omega) (by omega) (fun q => by omega) (fun _ => ?_))
    exact key 64 0 0 (by omega) (by omega) (by omega) h
  · have key : ∀ f m d, m < n → d ≤ n → 8 * (n - 1 - m) + (n - d) + 1 ≤ f → Q (some (.int (nf c n f m d))) (hp I J b) → am_R E mX10_named 26 [some (.ref 48), some (.int a1), some (.int (nI m)), some (.int (nI d))] [] (hp I J b) 64 64 Q := by
      intro f
      induction f with
      | zero => intro m d h1 h2 h3; omega
      | succ f ih =>
        intro m d h1 h2 h3 hQ
        rw [nf] at hQ
        refine bX10_named_26 (le_br n0 rfl (by omega) (by omega) (fun q => ?_) (fun q => ?_))
        · rw [if_neg (by omega)] at hQ
          rw [n1]
          refine bX10_named_16 (le_br n0 rfl (by omega) (by omega) (fun q2 => ?_) (fun q2 => ?_))
          · rw [if_neg (by omega)] at hQ; exact hQ
          · rw [if_pos (by omega)] at hQ
            exact ih (m + 1) 0 (by omega) (by omega) (by omega) hQ
        · rw [if_pos q] at hQ
          refine tX10_tailUp (n := n) hN rfl rfl (by omega) hD1 hD2 (bX10_named_43 ?_)
          refine tX10_tailDown (n := n) hN hD1 hD2 (bX10_named_50 ⟨fun z => ?_, fun z => ?_⟩)
          · rw [hcs, decide_eq_false (fun w => w z)] at hQ
            rw [n1]
            exact ih m (d + 1) h1 (by omega) (by omega) hQ
          · rw [hcs, decide_eq_true z] at hQ
            rw [t10]; exact hQ
    refine bX10_named_0 ⟨fun _ => ?_, fun q => absurd hk q⟩
    refine bX10_named_16 (le_br (m := 0) n0 rfl (by omega) (by omega) (fun q => by omega) (fun _ => ?_))
    exact key 64 0 0 (by omega) (by omega) (by omega) h
end P12
