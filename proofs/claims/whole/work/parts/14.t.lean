theorem bX2_gladnessOf_0 {E : Nat × (Nat → Int32)} {I : Nat → Nat → Int32} {J : Nat → Nat → Int64} {b : Bool} {a1 : Nat} {Q : Option Value → am_H → Prop} (hs_a1 : am_s a1 = .inl (.int, 7)) (hk_a1 : a1 < 64) (wp : am_R E mX2_gladnessOf 4 [some (.ref 4), some (.ref a1), some (.int 0), some (.int 0)] [] (hp I J b) 64 64 Q) : am_R E mX2_gladnessOf 0 [some (.ref 4), some (.ref a1), none, none] [] (hp I J b) 64 64 Q := by
  refine am_iconst 0 rfl dX2_gladnessOf_0 ?_
  refine am_istore_n (ls' := [some (.ref 4), some (.ref a1), some (.int 0), none]) rfl (by decide) rfl rfl dX2_gladnessOf_1 ?_
  refine am_iconst 0 rfl dX2_gladnessOf_2 ?_
  refine am_istore_n (ls' := [some (.ref 4), some (.ref a1), some (.int 0), some (.int 0)]) rfl (by decide) rfl rfl dX2_gladnessOf_3 ?_
  exact am_R.forget wp ⟨rfl, ⟨rfl, ⟨rfl, ⟨rfl, trivial⟩⟩⟩⟩
theorem bX2_gladnessOf_4 {E : Nat × (Nat → Int32)} {I : Nat → Nat → Int32} {J : Nat → Nat → Int64} {b : Bool} {a1 : Nat} {a2 : Int32} {a3 : Int32} {Q : Option Value → am_H → Prop} (hs_a1 : am_s a1 = .inl (.int, 7)) (hk_a1 : a1 < 64) (wp : (((I 4 0) ≤ a3 → Q (some (.int a2)) (hp I J b)) ∧ (¬ (I 4 0) ≤ a3 → ∃ j2, a3 = nI j2 ∧ j2 < 7 ∧ am_R E mX2_likingOf 0 [some (.ref 4), some (.int a3), some (.int (I a1 j2))] [] (hp I J b) 64 64 (fun r h' => am_R E mX2_gladnessOf 21 [some (.ref 4), some (.ref a1), none, some (.int a3)] (r.toList ++ [.int a2]) h' 64 64 Q)))) : am_R E mX2_gladnessOf 4 [some (.ref 4), some (.ref a1), some (.int a2), some (.int a3)] [] (hp I J b) 64 64 Q := by
  refine am_iload_n rfl rfl dX2_gladnessOf_4 ?_
  refine am_aload_n rfl rfl dX2_gladnessOf_5 ?_
  refine am_getI dX2_gladnessOf_6 flX2_24 (Or.inl rfl) rfl (by decide) ?_
  refine am_icmp_ge dX2_gladnessOf_9 (tgt := 29) rfl (fun hc1 => ?_) (fun hc1 => ?_)
  · have wp := wp.1 hc1
    refine am_iload_n rfl rfl dX2_gladnessOf_29 ?_
    exact am_iret dX2_gladnessOf_30 rfl rfl wp
  · have wp := wp.2 hc1
    refine am_iload_n rfl rfl dX2_gladnessOf_12 ?_
    refine am_aload_n rfl rfl dX2_gladnessOf_13 ?_
    refine am_iload_n rfl rfl dX2_gladnessOf_14 ?_
    refine am_aload_n rfl rfl dX2_gladnessOf_15 ?_
    refine am_iload_n rfl rfl dX2_gladnessOf_16 ?_
    obtain ⟨j2, e2, w2, wp⟩ := wp
    refine am_ialdN (j := j2) dX2_gladnessOf_17 hs_a1 hk_a1 e2 w2 (by decide) ?_
    refine am_invV (ci := 1) (As := [.int a3, .int (I a1 j2)]) (lsZ := [some (.ref 4), some (.int a3), some (.int (I a1 j2))]) (st := [.int a2]) dX2_gladnessOf_18 hX2_likingOf lkX2_45 ⟨by decide, by decide⟩ (by decide) rfl (by decide) rfl rfl rfl (Nat.le_of_ble_eq_true rfl) rfl (Nat.le_of_ble_eq_true rfl) ⟨Nat.le_refl _, Nat.le_refl _⟩ (am_R.mono wp (fun r h' q => am_R.forget q ⟨rfl, ⟨rfl, ⟨rfl, trivial⟩⟩⟩))
theorem bX2_gladnessOf_21 {E : Nat × (Nat → Int32)} {I : Nat → Nat → Int32} {J : Nat → Nat → Int64} {b : Bool} {a1 : Nat} {a3 : Int32} {x0 : Int32} {x1 : Int32} {Q : Option Value → am_H → Prop} (hs_a1 : am_s a1 = .inl (.int, 7)) (hk_a1 : a1 < 64) (wp : am_R E mX2_gladnessOf 4 [some (.ref 4), some (.ref a1), some (.int (x1 + x0)), some (.int (a3 + 1))] [] (hp I J b) 64 64 Q) : am_R E mX2_gladnessOf 21 [some (.ref 4), some (.ref a1), none, some (.int a3)] [.int x0, .int x1] (hp I J b) 64 64 Q := by
  refine am_iadd dX2_gladnessOf_21 ?_
  refine am_istore_n (ls' := [some (.ref 4), some (.ref a1), some (.int (x1 + x0)), some (.int a3)]) rfl (by decide) rfl rfl dX2_gladnessOf_22 ?_
  refine am_iinc (ls' := [some (.ref 4), some (.ref a1), some (.int (x1 + x0)), some (.int (a3 + 1))]) (by decide) rfl rfl rfl dX2_gladnessOf_23 ?_
  refine am_goto dX2_gladnessOf_26 (tgt := 4) rfl ?_
  exact am_R.forget wp ⟨rfl, ⟨rfl, ⟨rfl, ⟨rfl, trivial⟩⟩⟩⟩
theorem bX5_wants_0 {E : Nat × (Nat → Int32)} {I : Nat → Nat → Int32} {J : Nat → Nat → Int64} {b : Bool} {a1 : Nat} {a2 : Int32} {a3 : Int32} {Q : Option Value → am_H → Prop} (hs_a1 : am_s a1 = .inl (.int, 7)) (hk_a1 : a1 < 64) (wp : ∃ j1, a3 = nI j1 ∧ j1 < 7 ∧ am_R E mX5_mayDo 0 [some (.ref 23), some (.int a2), some (.int (I a1 j1))] [] (hp I J b) 64 64 (fun r h' => am_R E mX5_wants 8 [some (.ref 23), some (.ref a1), some (.int a2), some (.int a3)] (r.toList ++ []) h' 64 64 Q)) : am_R E mX5_wants 0 [some (.ref 23), some (.ref a1), some (.int a2), some (.int a3)] [] (hp I J b) 64 64 Q := by
  refine am_aload_n rfl rfl dX5_wants_0 ?_
  refine am_iload_n rfl rfl dX5_wants_1 ?_
  refine am_aload_n rfl rfl dX5_wants_2 ?_
  refine am_iload_n rfl rfl dX5_wants_3 ?_
  obtain ⟨j1, e1, w1, wp⟩ := wp
  refine am_ialdN (j := j1) dX5_wants_4 hs_a1 hk_a1 e1 w1 (by decide) ?_
  refine am_invV (ci := 3) (As := [.int a2, .int (I a1 j1)]) (lsZ := [some (.ref 23), some (.int a2), some (.int (I a1 j1))]) (st := []) dX5_wants_5 hX5_mayDo lkX5_36 ⟨by decide, by decide⟩ (by decide) rfl (by decide) rfl rfl rfl (Nat.le_of_ble_eq_true rfl) rfl (Nat.le_of_ble_eq_true rfl) ⟨Nat.le_refl _, Nat.le_refl _⟩ (am_R.mono wp (fun r h' q => am_R.forget q ⟨rfl, ⟨rfl, ⟨rfl, ⟨rfl, trivial⟩⟩⟩⟩))
theorem bX5_wants_8 {E : Nat × (Nat → Int32)} {I : Nat → Nat → Int32} {J : Nat → Nat → Int64} {b : Bool} {a1 : Nat} {a2 : Int32} {a3 : Int32} {x0 : Int32} {Q : Option Value → am_H → Prop} (hs_a1 : am_s a1 = .inl (.int, 7)) (hk_a1 : a1 < 64) (wp : ((x0 = 0 → Q (some (.int 0)) (hp I J b)) ∧ (¬ x0 = 0 → ∃ j2, a3 = nI j2 ∧ j2 < 7 ∧ am_R E mX2_likingOf 0 [some (.ref 4), some (.int a2), some (.int (I a1 j2))] [] (hp I J b) 64 64 (fun r h' => am_R E mX5_wants 22 [some (.ref 23), some (.ref a1), some (.int a2), none] (r.toList ++ []) h' 64 64 Q)))) : am_R E mX5_wants 8 [some (.ref 23), some (.ref a1), some (.int a2), some (.int a3)] [.int x0] (hp I J b) 64 64 Q := by
  refine am_if_eq dX5_wants_8 (tgt := 40) rfl (fun hc1 => ?_) (fun hc1 => ?_)
  · have wp := wp.1 hc1
    refine am_iconst 0 rfl dX5_wants_40 ?_
    exact am_iret dX5_wants_41 rfl (by decide) wp
  · have wp := wp.2 hc1
    refine am_aload_n rfl rfl dX5_wants_11 ?_
    refine am_getA (r := 4) dX5_wants_12 flX5_18 (Or.inl ⟨_, rfl⟩) rfl (by decide) rfl ?_
    refine am_iload_n rfl rfl dX5_wants_15 ?_
    refine am_aload_n rfl rfl dX5_wants_16 ?_
    refine am_iload_n rfl rfl dX5_wants_17 ?_
    obtain ⟨j2, e2, w2, wp⟩ := wp
    refine am_ialdN (j := j2) dX5_wants_18 hs_a1 hk_a1 e2 w2 (by decide) ?_
    refine am_invV (ci := 1) (As := [.int a2, .int (I a1 j2)]) (lsZ := [some (.ref 4), some (.int a2), some (.int (I a1 j2))]) (st := []) dX5_wants_19 hX2_likingOf lkX5_39 ⟨by decide, by decide⟩ (by decide) rfl (by decide) rfl rfl rfl (Nat.le_of_ble_eq_true rfl) rfl (Nat.le_of_ble_eq_true rfl) ⟨Nat.le_refl _, Nat.le_refl _⟩ (am_R.mono wp (fun r h' q => am_R.forget q ⟨rfl, ⟨rfl, ⟨rfl, trivial⟩⟩⟩))
theorem bX5_wants_22 {E : Nat × (Nat → Int32)} {I : Nat → Nat → Int32} {J : Nat → Nat → Int64} {b : Bool} {a1 : Nat} {a2 : Int32} {x0 : Int32} {Q : Option Value → am_H → Prop} (hs_a1 : am_s a1 = .inl (.int, 7)) (hk_a1 : a1 < 64) (wp : ∃ j1, a2 = nI j1 ∧ j1 < 7 ∧ am_R E mX2_likingOf 0 [some (.ref 4), some (.int a2), some (.int (I a1 j1))] [] (hp I J b) 64 64 (fun r h' => am_R E mX5_wants 33 [none, none, none, none] (r.toList ++ [.int x0]) h' 64 64 Q)) : am_R E mX5_wants 22 [some (.ref 23), some (.ref a1), some (.int a2), none] [.int x0] (hp I J b) 64 64 Q := by
  refine am_aload_n rfl rfl dX5_wants_22 ?_
  refine am_getA (r := 4) dX5_wants_23 flX5_18 (Or.inl ⟨_, rfl⟩) rfl (by decide) rfl ?_
  refine am_iload_n rfl rfl dX5_wants_26 ?_
  refine am_aload_n rfl rfl dX5_wants_27 ?_
  refine am_iload_n rfl rfl dX5_wants_28 ?_
  obtain ⟨j1, e1, w1, wp⟩ := wp
  refine am_ialdN (j := j1) dX5_wants_29 hs_a1 hk_a1 e1 w1 (by decide) ?_
  refine am_invV (ci := 1) (As := [.int a2, .int (I a1 j1)]) (lsZ := [some (.ref 4), some (.int a2), some (.int (I a1 j1))]) (st := [.int x0]) dX5_wants_30 hX2_likingOf lkX5_39 ⟨by decide, by decide⟩ (by decide) rfl (by decide) rfl rfl rfl (Nat.le_of_ble_eq_true rfl) rfl (Nat.le_of_ble_eq_true rfl) ⟨Nat.le_refl _, Nat.le_refl _⟩ (am_R.mono wp (fun r h' q => am_R.forget q trivial))
theorem bX5_wants_33 {E : Nat × (Nat → Int32)} {I : Nat → Nat → Int32} {J : Nat → Nat → Int64} {b : Bool} {x0 : Int32} {x1 : Int32} {Q : Option Value → am_H → Prop}  (wp : ((x1 ≤ x0 → Q (some (.int 0)) (hp I J b)) ∧ (¬ x1 ≤ x0 → Q (some (.int 1)) (hp I J b)))) : am_R E mX5_wants 33 [none, none, none, none] [.int x0, .int x1] (hp I J b) 64 64 Q := by
  refine am_icmp_le dX5_wants_33 (tgt := 40) rfl (fun hc1 => ?_) (fun hc1 => ?_)
  · have wp := wp.1 hc1
    refine am_iconst 0 rfl dX5_wants_40 ?_
    exact am_iret dX5_wants_41 rfl (by decide) wp
  · have wp := wp.2 hc1
    refine am_iconst 1 rfl dX5_wants_36 ?_
    refine am_goto dX5_wants_37 (tgt := 41) rfl ?_
    exact am_iret dX5_wants_41 rfl (by decide) wp
theorem bX10_nextToken_0 {E : Nat × (Nat → Int32)} {I : Nat → Nat → Int32} {J : Nat → Nat → Int64} {b : Bool}  {Q : Option Value → am_H → Prop}  (wp : (((I 48 6) ≤ (I 48 8) → ((¬ (I 48 8) = (I 48 6) → ∃ j3, (I 48 8) = nI j3 ∧ j3 < 200 ∧ am_R E mX10_in 0 [some (.int (I 53 j3)), some (.int 97), some (.int 122)] [] (hp (u2 (u2 (u2 I 48 9 (I 48 8)) 48 11 0) 48 12 0) J b) 64 64 (fun r h' => am_R E mX10_nextToken 93 [some (.ref 48)] (r.toList ++ []) h' 64 64 Q)) ∧ ((I 48 8) = (I 48 6) → Q none (hp (u2 (u2 (u2 I 48 9 (I 48 8)) 48 11 0) 48 12 0) (v2 J 48 10 (-2)) b)))) ∧ (¬ (I 48 6) ≤ (I 48 8) → ∃ j4, (I 48 8) = nI j4 ∧ j4 < 200 ∧ ((¬ (I 53 j4) = 32 → ((¬ (I 48 8) = (I 48 6) → am_R E mX10_in 0 [some (.int (I 53 j4)), some (.int 97), some (.int 122)] [] (hp (u2 (u2 (u2 I 48 9 (I 48 8)) 48 11 0) 48 12 0) J b) 64 64 (fun r h' => am_R E mX10_nextToken 93 [some (.ref 48)] (r.toList ++ []) h' 64 64 Q)) ∧ ((I 48 8) = (I 48 6) → Q none (hp (u2 (u2 (u2 I 48 9 (I 48 8)) 48 11 0) 48 12 0) (v2 J 48 10 (-2)) b)))) ∧ ((I 53 j4) = 32 → am_R E mX10_nextToken 0 [some (.ref 48)] [] (hp (u2 I 48 8 ((I 48 8) + 1)) J b) 64 64 Q))))) : am_R E mX10_nextToken 0 [some (.ref 48)] [] (hp I J b) 64 64 Q := by
  refine am_aload_n rfl rfl dX10_nextToken_0 ?_
  refine am_getI dX10_nextToken_1 flX10_78 (Or.inl rfl) rfl (by decide) ?_
  refine am_aload_n rfl rfl dX10_nextToken_4 ?_
  refine am_getI dX10_nextToken_5 flX10_73 (Or.inl rfl) rfl (by decide) ?_
  refine am_icmp_ge dX10_nextToken_8 (tgt := 38) rfl (fun hc1 => ?_) (fun hc1 => ?_)
  · have wp := wp.1 hc1
    refine am_aload_n rfl rfl dX10_nextToken_38 ?_
    refine am_aload_n rfl rfl dX10_nextToken_39 ?_
    refine am_getI dX10_nextToken_40 flX10_78 (Or.inl rfl) rfl (by decide) ?_
    refine am_putI dX10_nextToken_43 flX10_81 (Or.inl rfl) rfl rfl (by decide) ?_
    refine am_aload_n rfl rfl dX10_nextToken_46 ?_
    refine am_iconst 0 rfl dX10_nextToken_47 ?_
    refine am_putI dX10_nextToken_48 flX10_84 (Or.inl rfl) rfl rfl (by decide) ?_
    refine am_aload_n rfl rfl dX10_nextToken_51 ?_
    refine am_iconst 0 rfl dX10_nextToken_52 ?_
    refine am_putI dX10_nextToken_53 flX10_87 (Or.inl rfl) rfl rfl (by decide) ?_
    refine am_aload_n rfl rfl dX10_nextToken_56 ?_
    refine am_getI dX10_nextToken_57 flX10_78 (Or.inl rfl) rfl (by decide) ?_
    show am_R E mX10_nextToken 60 [some (.ref 48)] [.int (I 48 8)] (hp (u2 (u2 (u2 I 48 9 (I 48 8)) 48 11 0) 48 12 0) J b) 64 64 Q
    refine am_aload_n rfl rfl dX10_nextToken_60 ?_
    refine am_getI dX10_nextToken_61 flX10_73 (Or.inl rfl) rfl (by decide) ?_
    show am_R E mX10_nextToken 64 [some (.ref 48)] [.int (I 48 6), .int (I 48 8)] (hp (u2 (u2 (u2 I 48 9 (I 48 8)) 48 11 0) 48 12 0) J b) 64 64 Q
    refine am_icmp_ne dX10_nextToken_64 (tgt := 77) rfl (fun hc2 => ?_) (fun hc2 => ?_)
    · have wp := wp.1 hc2
      refine am_aload_n rfl rfl dX10_nextToken_77 ?_
      refine am_getA (r := 53) dX10_nextToken_78 flX10_29 (Or.inr ⟨_, rfl⟩) rfl (by decide) rfl ?_
      refine am_aload_n rfl rfl dX10_nextToken_81 ?_
      refine am_getI dX10_nextToken_82 flX10_78 (Or.inl rfl) rfl (by decide) ?_
      show am_R E mX10_nextToken 85 [some (.ref 48)] [.int (I 48 8), .ref 53] (hp (u2 (u2 (u2 I 48 9 (I 48 8)) 48 11 0) 48 12 0) J b) 64 64 Q
      obtain ⟨j3, e3, w3, wp⟩ := wp
      refine am_ialdN (j := j3) dX10_nextToken_85 rfl (by decide) e3 w3 (by decide) ?_
      show am_R E mX10_nextToken 86 [some (.ref 48)] [.int (I 53 j3)] (hp (u2 (u2 (u2 I 48 9 (I 48 8)) 48 11 0) 48 12 0) J b) 64 64 Q
      refine am_bipush 97 rfl dX10_nextToken_86 ?_
      refine am_bipush 122 rfl dX10_nextToken_88 ?_
      refine am_invS (As := [.int (I 53 j3), .int 97, .int 122]) (lsZ := [some (.int (I 53 j3)), some (.int 97), some (.int 122)]) (st := []) dX10_nextToken_90 hX10_in lkX10_69 ⟨by decide, by decide⟩ rfl rfl (Nat.le_of_ble_eq_true rfl) rfl (Nat.le_of_ble_eq_true rfl) ⟨Nat.le_refl _, Nat.le_refl _⟩ (am_R.mono wp (fun r h' q => am_R.forget q ⟨rfl, trivial⟩))
    · have wp := wp.2 hc2
      refine am_aload_n rfl rfl dX10_nextToken_67 ?_
      refine am_ldc2 (-2) kcX10_90 dX10_nextToken_68 ?_
      refine am_putJ dX10_nextToken_71 flX10_92 (Or.inl rfl) rfl rfl (by decide) ?_
      refine am_goto dX10_nextToken_74 (tgt := 394) rfl ?_
      exact am_vret dX10_nextToken_394 rfl wp
  · have wp := wp.2 hc1
    refine am_aload_n rfl rfl dX10_nextToken_11 ?_
    refine am_getA (r := 53) dX10_nextToken_12 flX10_29 (Or.inr ⟨_, rfl⟩) rfl (by decide) rfl ?_
    refine am_aload_n rfl rfl dX10_nextToken_15 ?_
    refine am_getI dX10_nextToken_16 flX10_78 (Or.inl rfl) rfl (by decide) ?_
    obtain ⟨j4, e4, w4, wp⟩ := wp
    refine am_ialdN (j := j4) dX10_nextToken_19 rfl (by decide) e4 w4 (by decide) ?_
    refine am_bipush 32 rfl dX10_nextToken_20 ?_
    refine am_icmp_ne dX10_nextToken_22 (tgt := 38) rfl (fun hc5 => ?_) (fun hc5 => ?_)
    · have wp := wp.1 hc5
      refine am_aload_n rfl rfl dX10_nextToken_38 ?_
      refine am_aload_n rfl rfl dX10_nextToken_39 ?_
      refine am_getI dX10_nextToken_40 flX10_78 (Or.inl rfl) rfl (by decide) ?_
      refine am_putI dX10_nextToken_43 flX10_81 (Or.inl rfl) rfl rfl (by decide) ?_
      refine am_aload_n rfl rfl dX10_nextToken_46 ?_
      refine am_iconst 0 rfl dX10_nextToken_47 ?_
      refine am_putI dX10_nextToken_48 flX10_84 (Or.inl rfl) rfl rfl (by decide) ?_
      refine am_aload_n rfl rfl dX10_nextToken_51 ?_
      refine am_iconst 0 rfl dX10_nextToken_52 ?_
      refine am_putI dX10_nextToken_53 flX10_87 (Or.inl rfl) rfl rfl (by decide) ?_
      refine am_aload_n rfl rfl dX10_nextToken_56 ?_
      refine am_getI dX10_nextToken_57 flX10_78 (Or.inl rfl) rfl (by decide) ?_
      show am_R E mX10_nextToken 60 [some (.ref 48)] [.int (I 48 8)] (hp (u2 (u2 (u2 I 48 9 (I 48 8)) 48 11 0) 48 12 0) J b) 64 64 Q
      refine am_aload_n rfl rfl dX10_nextToken_60 ?_
      refine am_getI dX10_nextToken_61 flX10_73 (Or.inl rfl) rfl (by decide) ?_
      show am_R E mX10_nextToken 64 [some (.ref 48)] [.int (I 48 6), .int (I 48 8)] (hp (u2 (u2 (u2 I 48 9 (I 48 8)) 48 11 0) 48 12 0) J b) 64 64 Q
      refine am_icmp_ne dX10_nextToken_64 (tgt := 77) rfl (fun hc6 => ?_) (fun hc6 => ?_)
      · have wp := wp.1 hc6
        refine am_aload_n rfl rfl dX10_nextToken_77 ?_
        refine am_getA (r := 53) dX10_nextToken_78 flX10_29 (Or.inr ⟨_, rfl⟩) rfl (by decide) rfl ?_
        refine am_aload_n rfl rfl dX10_nextToken_81 ?_
        refine am_getI dX10_nextToken_82 flX10_78 (Or.inl rfl) rfl (by decide) ?_
        show am_R E mX10_nextToken 85 [some (.ref 48)] [.int (I 48 8), .ref 53] (hp (u2 (u2 (u2 I 48 9 (I 48 8)) 48 11 0) 48 12 0) J b) 64 64 Q
        refine am_ialdN (j := j4) dX10_nextToken_85 rfl (by decide) e4 w4 (by decide) ?_
        show am_R E mX10_nextToken 86 [some (.ref 48)] [.int (I 53 j4)] (hp (u2 (u2 (u2 I 48 9 (I 48 8)) 48 11 0) 48 12 0) J b) 64 64 Q
        refine am_bipush 97 rfl dX10_nextToken_86 ?_
        refine am_bipush 122 rfl dX10_nextToken_88 ?_
        refine am_invS (As := [.int (I 53 j4), .int 97, .int 122]) (lsZ := [some (.int (I 53 j4)), some (.int 97), some (.int 122)]) (st := []) dX10_nextToken_90 hX10_in lkX10_69 ⟨by decide, by decide⟩ rfl rfl (Nat.le_of_ble_eq_true rfl) rfl (Nat.le_of_ble_eq_true rfl) ⟨Nat.le_refl _, Nat.le_refl _⟩ (am_R.mono wp (fun r h' q => am_R.forget q ⟨rfl, trivial⟩))
      · have wp := wp.2 hc6
        refine am_aload_n rfl rfl dX10_nextToken_67 ?_
        refine am_ldc2 (-2) kcX10_90 dX10_nextToken_68 ?_
        refine am_putJ dX10_nextToken_71 flX10_92 (Or.inl rfl) rfl rfl (by decide) ?_
        refine am_goto dX10_nextToken_74 (tgt := 394) rfl ?_
        exact am_vret dX10_nextToken_394 rfl wp
    · have wp := wp.2 hc5
      refine am_aload_n rfl rfl dX10_nextToken_25 ?_
      refine am_dup rfl dX10_nextToken_26 ?_
      refine am_getI dX10_nextToken_27 flX10_78 (Or.inl rfl) rfl (by decide) ?_
      refine am_iconst 1 rfl dX10_nextToken_30 ?_
      refine am_iadd dX10_nextToken_31 ?_
      refine am_putI dX10_nextToken_32 flX10_78 (Or.inl rfl) rfl rfl (by decide) ?_
      refine am_goto dX10_nextToken_35 (tgt := 0) rfl ?_
      exact am_R.forget wp ⟨rfl, trivial⟩
theorem bX10_nextToken_93 {E : Nat × (Nat → Int32)} {I : Nat → Nat → Int32} {J : Nat → Nat → Int64} {b : Bool} {x0 : Int32} {Q : Option Value → am_H → Prop}  (wp : ((x0 = 0 → ∃ j2, (I 48 8) = nI j2 ∧ j2 < 200 ∧ am_R E mX10_in 0 [some (.int (I 53 j2)), some (.int 48), some (.int 57)] [] (hp I J b) 64 64 (fun r h' => am_R E mX10_nextToken 238 [some (.ref 48)] (r.toList ++ []) h' 64 64 Q)) ∧ (¬ x0 = 0 → am_R E mX10_nextToken 101 [some (.ref 48)] [] (hp I (v2 J 48 10 0) b) 64 64 Q))) : am_R E mX10_nextToken 93 [some (.ref 48)] [.int x0] (hp I J b) 64 64 Q := by
  refine am_if_eq dX10_nextToken_93 (tgt := 222) rfl (fun hc1 => ?_) (fun hc1 => ?_)
  · have wp := wp.1 hc1
    refine am_aload_n rfl rfl dX10_nextToken_222 ?_
    refine am_getA (r := 53) dX10_nextToken_223 flX10_29 (Or.inr ⟨_, rfl⟩) rfl (by decide) rfl ?_
    refine am_aload_n rfl rfl dX10_nextToken_226 ?_
    refine am_getI dX10_nextToken_227 flX10_78 (Or.inl rfl) rfl (by decide) ?_
    obtain ⟨j2, e2, w2, wp⟩ := wp
    refine am_ialdN (j := j2) dX10_nextToken_230 rfl (by decide) e2 w2 (by decide) ?_
    refine am_bipush 48 rfl dX10_nextToken_231 ?_
    refine am_bipush 57 rfl dX10_nextToken_233 ?_
    refine am_invS (As := [.int (I 53 j2), .int 48, .int 57]) (lsZ := [some (.int (I 53 j2)), some (.int 48), some (.int 57)]) (st := []) dX10_nextToken_235 hX10_in lkX10_69 ⟨by decide, by decide⟩ rfl rfl (Nat.le_of_ble_eq_true rfl) rfl (Nat.le_of_ble_eq_true rfl) ⟨Nat.le_refl _, Nat.le_refl _⟩ (am_R.mono wp (fun r h' q => am_R.forget q ⟨rfl, trivial⟩))
  · have wp := wp.2 hc1
    refine am_aload_n rfl rfl dX10_nextToken_96 ?_
    refine am_lconst 0 rfl dX10_nextToken_97 ?_
    refine am_putJ dX10_nextToken_98 flX10_92 (Or.inl rfl) rfl rfl (by decide) ?_
    exact am_R.forget wp ⟨rfl, trivial⟩
theorem bX10_nextToken_101 {E : Nat × (Nat → Int32)} {I : Nat → Nat → Int32} {J : Nat → Nat → Int64} {b : Bool}  {Q : Option Value → am_H → Prop}  (wp : (((I 48 6) ≤ (I 48 8) → ((((I 48 8) - (I 48 9)) ≤ 9 → Q none (hp I (v2 J 48 10 (J 48 10)) b)) ∧ (¬ ((I 48 8) - (I 48 9)) ≤ 9 → Q none (hp I (v2 J 48 10 (-4)) b)))) ∧ (¬ (I 48 6) ≤ (I 48 8) → ∃ j3, (I 48 8) = nI j3 ∧ j3 < 200 ∧ am_R E mX10_in 0 [some (.int (I 53 j3)), some (.int 97), some (.int 122)] [] (hp I J b) 64 64 (fun r h' => am_R E mX10_nextToken 128 [some (.ref 48)] (r.toList ++ []) h' 64 64 Q)))) : am_R E mX10_nextToken 101 [some (.ref 48)] [] (hp I J b) 64 64 Q := by
  refine am_aload_n rfl rfl dX10_nextToken_101 ?_
  refine am_getI dX10_nextToken_102 flX10_78 (Or.inl rfl) rfl (by decide) ?_
  refine am_aload_n rfl rfl dX10_nextToken_105 ?_
  refine am_getI dX10_nextToken_106 flX10_73 (Or.inl rfl) rfl (by decide) ?_
  refine am_icmp_ge dX10_nextToken_109 (tgt := 191) rfl (fun hc1 => ?_) (fun hc1 => ?_)
  · have wp := wp.1 hc1
    refine am_aload_n rfl rfl dX10_nextToken_191 ?_
    refine am_aload_n rfl rfl dX10_nextToken_192 ?_
    refine am_getI dX10_nextToken_193 flX10_78 (Or.inl rfl) rfl (by decide) ?_
    refine am_aload_n rfl rfl dX10_nextToken_196 ?_
    refine am_getI dX10_nextToken_197 flX10_81 (Or.inl rfl) rfl (by decide) ?_
    refine am_isub dX10_nextToken_200 ?_
    refine am_bipush 9 rfl dX10_nextToken_201 ?_
    refine am_icmp_le dX10_nextToken_203 (tgt := 212) rfl (fun hc2 => ?_) (fun hc2 => ?_)
    · have wp := wp.1 hc2
      refine am_aload_n rfl rfl dX10_nextToken_212 ?_
      refine am_getJ dX10_nextToken_213 flX10_92 rfl rfl (by decide) ?_
      refine am_putJ dX10_nextToken_216 flX10_92 (Or.inl rfl) rfl rfl (by decide) ?_
      refine am_goto dX10_nextToken_219 (tgt := 394) rfl ?_
      exact am_vret dX10_nextToken_394 rfl wp
    · have wp := wp.2 hc2
      refine am_ldc2 (-4) kcX10_100 dX10_nextToken_206 ?_
      refine am_goto dX10_nextToken_209 (tgt := 216) rfl ?_
      refine am_putJ dX10_nextToken_216 flX10_92 (Or.inl rfl) rfl rfl (by decide) ?_
      refine am_goto dX10_nextToken_219 (tgt := 394) rfl ?_
      exact am_vret dX10_nextToken_394 rfl wp
  · have wp := wp.2 hc1
    refine am_aload_n rfl rfl dX10_nextToken_112 ?_
    refine am_getA (r := 53) dX10_nextToken_113 flX10_29 (Or.inr ⟨_, rfl⟩) rfl (by decide) rfl ?_
    refine am_aload_n rfl rfl dX10_nextToken_116 ?_
    refine am_getI dX10_nextToken_117 flX10_78 (Or.inl rfl) rfl (by decide) ?_
    obtain ⟨j3, e3, w3, wp⟩ := wp
    refine am_ialdN (j := j3) dX10_nextToken_120 rfl (by decide) e3 w3 (by decide) ?_
    refine am_bipush 97 rfl dX10_nextToken_121 ?_
    refine am_bipush 122 rfl dX10_nextToken_123 ?_
    refine am_invS (As := [.int (I 53 j3), .int 97, .int 122]) (lsZ := [some (.int (I 53 j3)), some (.int 97), some (.int 122)]) (st := []) dX10_nextToken_125 hX10_in lkX10_69 ⟨by decide, by decide⟩ rfl rfl (Nat.le_of_ble_eq_true rfl) rfl (Nat.le_of_ble_eq_true rfl) ⟨Nat.le_refl _, Nat.le_refl _⟩ (am_R.mono wp (fun r h' q => am_R.forget q ⟨rfl, trivial⟩))
theorem bX10_nextToken_128 {E : Nat × (Nat → Int32)} {I : Nat → Nat → Int32} {J : Nat → Nat → Int64} {b : Bool} {x0 : Int32} {Q : Option Value → am_H → Prop}  (wp : ((x0 = 0 → ((((I 48 8) - (I 48 9)) ≤ 9 → Q none (hp I (v2 J 48 10 (J 48 10)) b)) ∧ (¬ ((I 48 8) - (I 48 9)) ≤ 9 → Q none (hp I (v2 J 48 10 (-4)) b)))) ∧ (¬ x0 = 0 → ((9 ≤ ((I 48 8) - (I 48 9)) → am_R E mX10_nextToken 101 [some (.ref 48)] [] (hp (u2 I 48 8 ((I 48 8) + 1)) (v2 J 48 10 (-4)) b) 64 64 Q) ∧ (¬ 9 ≤ ((I 48 8) - (I 48 9)) → ∃ j4, (I 48 8) = nI j4 ∧ j4 < 200 ∧ am_R E mX10_nextToken 101 [some (.ref 48)] [] (hp (u2 I 48 8 ((I 48 8) + 1)) (v2 J 48 10 (((27 * (J 48 10)) + (Int32.toInt64 (I 53 j4))) - 96)) b) 64 64 Q))))) : am_R E mX10_nextToken 128 [some (.ref 48)] [.int x0] (hp I J b) 64 64 Q := by
  refine am_if_eq dX10_nextToken_128 (tgt := 191) rfl (fun hc1 => ?_) (fun hc1 => ?_)
  · have wp := wp.1 hc1
    refine am_aload_n rfl rfl dX10_nextToken_191 ?_
    refine am_aload_n rfl rfl dX10_nextToken_192 ?_
    refine am_getI dX10_nextToken_193 flX10_78 (Or.inl rfl) rfl (by decide) ?_
    refine am_aload_n rfl rfl dX10_nextToken_196 ?_
    refine am_getI dX10_nextToken_197 flX10_81 (Or.inl rfl) rfl (by decide) ?_
    refine am_isub dX10_nextToken_200 ?_
    refine am_bipush 9 rfl dX10_nextToken_201 ?_
    refine am_icmp_le dX10_nextToken_203 (tgt := 212) rfl (fun hc2 => ?_) (fun hc2 => ?_)
    · have wp := wp.1 hc2
      refine am_aload_n rfl rfl dX10_nextToken_212 ?_
      refine am_getJ dX10_nextToken_213 flX10_92 rfl rfl (by decide) ?_
      refine am_putJ dX10_nextToken_216 flX10_92 (Or.inl rfl) rfl rfl (by decide) ?_
      refine am_goto dX10_nextToken_219 (tgt := 394) rfl ?_
      exact am_vret dX10_nextToken_394 rfl wp
    · have wp := wp.2 hc2
      refine am_ldc2 (-4) kcX10_100 dX10_nextToken_206 ?_
      refine am_goto dX10_nextToken_209 (tgt := 216) rfl ?_
      refine am_putJ dX10_nextToken_216 flX10_92 (Or.inl rfl) rfl rfl (by decide) ?_
      refine am_goto dX10_nextToken_219 (tgt := 394) rfl ?_
      exact am_vret dX10_nextToken_394 rfl wp
  · have wp := wp.2 hc1
    refine am_aload_n rfl rfl dX10_nextToken_131 ?_
    refine am_aload_n rfl rfl dX10_nextToken_132 ?_
    refine am_getI dX10_nextToken_133 flX10_78 (Or.inl rfl) rfl (by decide) ?_
    refine am_aload_n rfl rfl dX10_nextToken_136 ?_
    refine am_getI dX10_nextToken_137 flX10_81 (Or.inl rfl) rfl (by decide) ?_
    refine am_isub dX10_nextToken_140 ?_
    refine am_bipush 9 rfl dX10_nextToken_141 ?_
    refine am_icmp_ge dX10_nextToken_143 (tgt := 172) rfl (fun hc3 => ?_) (fun hc3 => ?_)
    · have wp := wp.1 hc3
      refine am_ldc2 (-4) kcX10_100 dX10_nextToken_172 ?_
      refine am_putJ dX10_nextToken_175 flX10_92 (Or.inl rfl) rfl rfl (by decide) ?_
      refine am_aload_n rfl rfl dX10_nextToken_178 ?_
      refine am_dup rfl dX10_nextToken_179 ?_
      refine am_getI dX10_nextToken_180 flX10_78 (Or.inl rfl) rfl (by decide) ?_
      show am_R E mX10_nextToken 183 [some (.ref 48)] [.int (I 48 8), .ref 48] (hp I (v2 J 48 10 (-4)) b) 64 64 Q
      refine am_iconst 1 rfl dX10_nextToken_183 ?_
      refine am_iadd dX10_nextToken_184 ?_
      refine am_putI dX10_nextToken_185 flX10_78 (Or.inl rfl) rfl rfl (by decide) ?_
      refine am_goto dX10_nextToken_188 (tgt := 101) rfl ?_
      exact am_R.forget wp ⟨rfl, trivial⟩
    · have wp := wp.2 hc3
      refine am_ldc2 27 kcX10_96 dX10_nextToken_146 ?_
      refine am_aload_n rfl rfl dX10_nextToken_149 ?_
      refine am_getJ dX10_nextToken_150 flX10_92 rfl rfl (by decide) ?_
      refine am_lmul dX10_nextToken_153 ?_
      refine am_aload_n rfl rfl dX10_nextToken_154 ?_
      refine am_getA (r := 53) dX10_nextToken_155 flX10_29 (Or.inr ⟨_, rfl⟩) rfl (by decide) rfl ?_
      refine am_aload_n rfl rfl dX10_nextToken_158 ?_
      refine am_getI dX10_nextToken_159 flX10_78 (Or.inl rfl) rfl (by decide) ?_
      obtain ⟨j4, e4, w4, wp⟩ := wp
      refine am_ialdN (j := j4) dX10_nextToken_162 rfl (by decide) e4 w4 (by decide) ?_
      refine am_i2l dX10_nextToken_163 ?_
      refine am_ladd dX10_nextToken_164 ?_
      refine am_ldc2 96 kcX10_98 dX10_nextToken_165 ?_
      refine am_lsub dX10_nextToken_168 ?_
      refine am_goto dX10_nextToken_169 (tgt := 175) rfl ?_
      refine am_putJ dX10_nextToken_175 flX10_92 (Or.inl rfl) rfl rfl (by decide) ?_
      refine am_aload_n rfl rfl dX10_nextToken_178 ?_
      refine am_dup rfl dX10_nextToken_179 ?_
      refine am_getI dX10_nextToken_180 flX10_78 (Or.inl rfl) rfl (by decide) ?_
      show am_R E mX10_nextToken 183 [some (.ref 48)] [.int (I 48 8), .ref 48] (hp I (v2 J 48 10 (((27 * (J 48 10)) + (Int32.toInt64 (I 53 j4))) - 96)) b) 64 64 Q
      refine am_iconst 1 rfl dX10_nextToken_183 ?_
      refine am_iadd dX10_nextToken_184 ?_
      refine am_putI dX10_nextToken_185 flX10_78 (Or.inl rfl) rfl rfl (by decide) ?_
      refine am_goto dX10_nextToken_188 (tgt := 101) rfl ?_
      exact am_R.forget wp ⟨rfl, trivial⟩
theorem bX10_nextToken_238 {E : Nat × (Nat → Int32)} {I : Nat → Nat → Int32} {J : Nat → Nat → Int64} {b : Bool} {x0 : Int32} {Q : Option Value → am_H → Prop}  (wp : ((x0 = 0 → ∃ j2, (I 48 8) = nI j2 ∧ j2 < 200 ∧ ((¬ (I 53 j2) = 59 → Q none (hp (u2 I 48 8 ((I 48 8) + 1)) (v2 J 48 10 (-4)) b)) ∧ ((I 53 j2) = 59 → Q none (hp (u2 I 48 8 ((I 48 8) + 1)) (v2 J 48 10 (-3)) b)))) ∧ (¬ x0 = 0 → am_R E mX10_nextToken 241 [some (.ref 48)] [] (hp I J b) 64 64 Q))) : am_R E mX10_nextToken 238 [some (.ref 48)] [.int x0] (hp I J b) 64 64 Q := by
  refine am_if_eq dX10_nextToken_238 (tgt := 357) rfl (fun hc1 => ?_) (fun hc1 => ?_)
  · have wp := wp.1 hc1
    refine am_aload_n rfl rfl dX10_nextToken_357 ?_
    refine am_aload_n rfl rfl dX10_nextToken_358 ?_
    refine am_getA (r := 53) dX10_nextToken_359 flX10_29 (Or.inr ⟨_, rfl⟩) rfl (by decide) rfl ?_
    refine am_aload_n rfl rfl dX10_nextToken_362 ?_
    refine am_getI dX10_nextToken_363 flX10_78 (Or.inl rfl) rfl (by decide) ?_
    obtain ⟨j2, e2, w2, wp⟩ := wp
    refine am_ialdN (j := j2) dX10_nextToken_366 rfl (by decide) e2 w2 (by decide) ?_
    refine am_bipush 59 rfl dX10_nextToken_367 ?_
    refine am_icmp_ne dX10_nextToken_369 (tgt := 378) rfl (fun hc3 => ?_) (fun hc3 => ?_)
    · have wp := wp.1 hc3
      refine am_ldc2 (-4) kcX10_100 dX10_nextToken_378 ?_
      refine am_putJ dX10_nextToken_381 flX10_92 (Or.inl rfl) rfl rfl (by decide) ?_
      refine am_aload_n rfl rfl dX10_nextToken_384 ?_
      refine am_dup rfl dX10_nextToken_385 ?_
      refine am_getI dX10_nextToken_386 flX10_78 (Or.inl rfl) rfl (by decide) ?_
      show am_R E mX10_nextToken 389 [some (.ref 48)] [.int (I 48 8), .ref 48] (hp I (v2 J 48 10 (-4)) b) 64 64 Q
      refine am_iconst 1 rfl dX10_nextToken_389 ?_
      refine am_iadd dX10_nextToken_390 ?_
      refine am_putI dX10_nextToken_391 flX10_78 (Or.inl rfl) rfl rfl (by decide) ?_
      exact am_vret dX10_nextToken_394 rfl wp
    · have wp := wp.2 hc3
      refine am_ldc2 (-3) kcX10_104 dX10_nextToken_372 ?_
      refine am_goto dX10_nextToken_375 (tgt := 381) rfl ?_
      refine am_putJ dX10_nextToken_381 flX10_92 (Or.inl rfl) rfl rfl (by decide) ?_
      refine am_aload_n rfl rfl dX10_nextToken_384 ?_
      refine am_dup rfl dX10_nextToken_385 ?_
      refine am_getI dX10_nextToken_386 flX10_78 (Or.inl rfl) rfl (by decide) ?_
      show am_R E mX10_nextToken 389 [some (.ref 48)] [.int (I 48 8), .ref 48] (hp I (v2 J 48 10 (-3)) b) 64 64 Q
      refine am_iconst 1 rfl dX10_nextToken_389 ?_
      refine am_iadd dX10_nextToken_390 ?_
      refine am_putI dX10_nextToken_391 flX10_78 (Or.inl rfl) rfl rfl (by decide) ?_
      exact am_vret dX10_nextToken_394 rfl wp
  · have wp := wp.2 hc1
    exact am_R.forget wp ⟨rfl, trivial⟩
theorem bX10_nextToken_241 {E : Nat × (Nat → Int32)} {I : Nat → Nat → Int32} {J : Nat → Nat → Int64} {b : Bool}  {Q : Option Value → am_H → Prop}  (wp : (((I 48 6) ≤ (I 48 8) → (((I 48 11) ≤ 2 → Q none (hp I (v2 J 48 10 (-1)) b)) ∧ (¬ (I 48 11) ≤ 2 → Q none (hp I (v2 J 48 10 (-4)) b)))) ∧ (¬ (I 48 6) ≤ (I 48 8) → ∃ j3, (I 48 8) = nI j3 ∧ j3 < 200 ∧ am_R E mX10_in 0 [some (.int (I 53 j3)), some (.int 48), some (.int 57)] [] (hp I J b) 64 64 (fun r h' => am_R E mX10_nextToken 268 [some (.ref 48)] (r.toList ++ []) h' 64 64 Q)))) : am_R E mX10_nextToken 241 [some (.ref 48)] [] (hp I J b) 64 64 Q := by
  refine am_aload_n rfl rfl dX10_nextToken_241 ?_
  refine am_getI dX10_nextToken_242 flX10_78 (Or.inl rfl) rfl (by decide) ?_
  refine am_aload_n rfl rfl dX10_nextToken_245 ?_
  refine am_getI dX10_nextToken_246 flX10_73 (Or.inl rfl) rfl (by decide) ?_
  refine am_icmp_ge dX10_nextToken_249 (tgt := 333) rfl (fun hc1 => ?_) (fun hc1 => ?_)
  · have wp := wp.1 hc1
    refine am_aload_n rfl rfl dX10_nextToken_333 ?_
    refine am_aload_n rfl rfl dX10_nextToken_334 ?_
    refine am_getI dX10_nextToken_335 flX10_84 (Or.inl rfl) rfl (by decide) ?_
    refine am_iconst 2 rfl dX10_nextToken_338 ?_
    refine am_icmp_le dX10_nextToken_339 (tgt := 348) rfl (fun hc2 => ?_) (fun hc2 => ?_)
    · have wp := wp.1 hc2
      refine am_ldc2 (-1) kcX10_102 dX10_nextToken_348 ?_
      refine am_putJ dX10_nextToken_351 flX10_92 (Or.inl rfl) rfl rfl (by decide) ?_
      refine am_goto dX10_nextToken_354 (tgt := 394) rfl ?_
      exact am_vret dX10_nextToken_394 rfl wp
    · have wp := wp.2 hc2
      refine am_ldc2 (-4) kcX10_100 dX10_nextToken_342 ?_
      refine am_goto dX10_nextToken_345 (tgt := 351) rfl ?_
      refine am_putJ dX10_nextToken_351 flX10_92 (Or.inl rfl) rfl rfl (by decide) ?_
      refine am_goto dX10_nextToken_354 (tgt := 394) rfl ?_
      exact am_vret dX10_nextToken_394 rfl wp
  · have wp := wp.2 hc1
    refine am_aload_n rfl rfl dX10_nextToken_252 ?_
    refine am_getA (r := 53) dX10_nextToken_253 flX10_29 (Or.inr ⟨_, rfl⟩) rfl (by decide) rfl ?_
    refine am_aload_n rfl rfl dX10_nextToken_256 ?_
    refine am_getI dX10_nextToken_257 flX10_78 (Or.inl rfl) rfl (by decide) ?_
    obtain ⟨j3, e3, w3, wp⟩ := wp
    refine am_ialdN (j := j3) dX10_nextToken_260 rfl (by decide) e3 w3 (by decide) ?_
    refine am_bipush 48 rfl dX10_nextToken_261 ?_
    refine am_bipush 57 rfl dX10_nextToken_263 ?_
    refine am_invS (As := [.int (I 53 j3), .int 48, .int 57]) (lsZ := [some (.int (I 53 j3)), some (.int 48), some (.int 57)]) (st := []) dX10_nextToken_265 hX10_in lkX10_69 ⟨by decide, by decide⟩ rfl rfl (Nat.le_of_ble_eq_true rfl) rfl (Nat.le_of_ble_eq_true rfl) ⟨Nat.le_refl _, Nat.le_refl _⟩ (am_R.mono wp (fun r h' q => am_R.forget q ⟨rfl, trivial⟩))
theorem bX10_nextToken_268 {E : Nat × (Nat → Int32)} {I : Nat → Nat → Int32} {J : Nat → Nat → Int64} {b : Bool} {x0 : Int32} {Q : Option Value → am_H → Prop}  (wp : ((x0 = 0 → (((I 48 11) ≤ 2 → Q none (hp I (v2 J 48 10 (-1)) b)) ∧ (¬ (I 48 11) ≤ 2 → Q none (hp I (v2 J 48 10 (-4)) b)))) ∧ (¬ x0 = 0 → ((2 ≤ (I 48 11) → am_R E mX10_nextToken 241 [some (.ref 48)] [] (hp (u2 (u2 (u2 I 48 12 (I 48 12)) 48 11 ((I 48 11) + 1)) 48 8 ((I 48 8) + 1)) J b) 64 64 Q) ∧ (¬ 2 ≤ (I 48 11) → ∃ j4, (I 48 8) = nI j4 ∧ j4 < 200 ∧ am_R E mX10_nextToken 241 [some (.ref 48)] [] (hp (u2 (u2 (u2 I 48 12 (((10 * (I 48 12)) + (I 53 j4)) - 48)) 48 11 ((I 48 11) + 1)) 48 8 ((I 48 8) + 1)) J b) 64 64 Q))))) : am_R E mX10_nextToken 268 [some (.ref 48)] [.int x0] (hp I J b) 64 64 Q := by
  refine am_if_eq dX10_nextToken_268 (tgt := 333) rfl (fun hc1 => ?_) (fun hc1 => ?_)
  · have wp := wp.1 hc1
    refine am_aload_n rfl rfl dX10_nextToken_333 ?_
    refine am_aload_n rfl rfl dX10_nextToken_334 ?_
    refine am_getI dX10_nextToken_335 flX10_84 (Or.inl rfl) rfl (by decide) ?_
    refine am_iconst 2 rfl dX10_nextToken_338 ?_
    refine am_icmp_le dX10_nextToken_339 (tgt := 348) rfl (fun hc2 => ?_) (fun hc2 => ?_)
    · have wp := wp.1 hc2
      refine am_ldc2 (-1) kcX10_102 dX10_nextToken_348 ?_
      refine am_putJ dX10_nextToken_351 flX10_92 (Or.inl rfl) rfl rfl (by decide) ?_
      refine am_goto dX10_nextToken_354 (tgt := 394) rfl ?_
      exact am_vret dX10_nextToken_394 rfl wp
    · have wp := wp.2 hc2
      refine am_ldc2 (-4) kcX10_100 dX10_nextToken_342 ?_
      refine am_goto dX10_nextToken_345 (tgt := 351) rfl ?_
      refine am_putJ dX10_nextToken_351 flX10_92 (Or.inl rfl) rfl rfl (by decide) ?_
      refine am_goto dX10_nextToken_354 (tgt := 394) rfl ?_
      exact am_vret dX10_nextToken_394 rfl wp
  · have wp := wp.2 hc1
    refine am_aload_n rfl rfl dX10_nextToken_271 ?_
    refine am_aload_n rfl rfl dX10_nextToken_272 ?_
    refine am_getI dX10_nextToken_273 flX10_84 (Or.inl rfl) rfl (by decide) ?_
    refine am_iconst 2 rfl dX10_nextToken_276 ?_
    refine am_icmp_ge dX10_nextToken_277 (tgt := 303) rfl (fun hc3 => ?_) (fun hc3 => ?_)
    · have wp := wp.1 hc3
      refine am_aload_n rfl rfl dX10_nextToken_303 ?_
      refine am_getI dX10_nextToken_304 flX10_87 (Or.inl rfl) rfl (by decide) ?_
      refine am_putI dX10_nextToken_307 flX10_87 (Or.inl rfl) rfl rfl (by decide) ?_
      refine am_aload_n rfl rfl dX10_nextToken_310 ?_
      refine am_dup rfl dX10_nextToken_311 ?_
      refine am_getI dX10_nextToken_312 flX10_84 (Or.inl rfl) rfl (by decide) ?_
      show am_R E mX10_nextToken 315 [some (.ref 48)] [.int (I 48 11), .ref 48] (hp (u2 I 48 12 (I 48 12)) J b) 64 64 Q
      refine am_iconst 1 rfl dX10_nextToken_315 ?_
      refine am_iadd dX10_nextToken_316 ?_
      refine am_putI dX10_nextToken_317 flX10_84 (Or.inl rfl) rfl rfl (by decide) ?_
      refine am_aload_n rfl rfl dX10_nextToken_320 ?_
      refine am_dup rfl dX10_nextToken_321 ?_
      refine am_getI dX10_nextToken_322 flX10_78 (Or.inl rfl) rfl (by decide) ?_
      show am_R E mX10_nextToken 325 [some (.ref 48)] [.int (I 48 8), .ref 48] (hp (u2 (u2 I 48 12 (I 48 12)) 48 11 ((I 48 11) + 1)) J b) 64 64 Q
      refine am_iconst 1 rfl dX10_nextToken_325 ?_
      refine am_iadd dX10_nextToken_326 ?_
      refine am_putI dX10_nextToken_327 flX10_78 (Or.inl rfl) rfl rfl (by decide) ?_
      refine am_goto dX10_nextToken_330 (tgt := 241) rfl ?_
      exact am_R.forget wp ⟨rfl, trivial⟩
    · have wp := wp.2 hc3
      refine am_bipush 10 rfl dX10_nextToken_280 ?_
      refine am_aload_n rfl rfl dX10_nextToken_282 ?_
      refine am_getI dX10_nextToken_283 flX10_87 (Or.inl rfl) rfl (by decide) ?_
      refine am_imul dX10_nextToken_286 ?_
      refine am_aload_n rfl rfl dX10_nextToken_287 ?_
      refine am_getA (r := 53) dX10_nextToken_288 flX10_29 (Or.inr ⟨_, rfl⟩) rfl (by decide) rfl ?_
      refine am_aload_n rfl rfl dX10_nextToken_291 ?_
      refine am_getI dX10_nextToken_292 flX10_78 (Or.inl rfl) rfl (by decide) ?_
      obtain ⟨j4, e4, w4, wp⟩ := wp
      refine am_ialdN (j := j4) dX10_nextToken_295 rfl (by decide) e4 w4 (by decide) ?_
      refine am_iadd dX10_nextToken_296 ?_
      refine am_bipush 48 rfl dX10_nextToken_297 ?_
      refine am_isub dX10_nextToken_299 ?_
      refine am_goto dX10_nextToken_300 (tgt := 307) rfl ?_
      refine am_putI dX10_nextToken_307 flX10_87 (Or.inl rfl) rfl rfl (by decide) ?_
      refine am_aload_n rfl rfl dX10_nextToken_310 ?_
      refine am_dup rfl dX10_nextToken_311 ?_
      refine am_getI dX10_nextToken_312 flX10_84 (Or.inl rfl) rfl (by decide) ?_
      show am_R E mX10_nextToken 315 [some (.ref 48)] [.int (I 48 11), .ref 48] (hp (u2 I 48 12 (((10 * (I 48 12)) + (I 53 j4)) - 48)) J b) 64 64 Q
      refine am_iconst 1 rfl dX10_nextToken_315 ?_
      refine am_iadd dX10_nextToken_316 ?_
      refine am_putI dX10_nextToken_317 flX10_84 (Or.inl rfl) rfl rfl (by decide) ?_
      refine am_aload_n rfl rfl dX10_nextToken_320 ?_
      refine am_dup rfl dX10_nextToken_321 ?_
      refine am_getI dX10_nextToken_322 flX10_78 (Or.inl rfl) rfl (by decide) ?_
      show am_R E mX10_nextToken 325 [some (.ref 48)] [.int (I 48 8), .ref 48] (hp (u2 (u2 I 48 12 (((10 * (I 48 12)) + (I 53 j4)) - 48)) 48 11 ((I 48 11) + 1)) J b) 64 64 Q
      refine am_iconst 1 rfl dX10_nextToken_325 ?_
      refine am_iadd dX10_nextToken_326 ?_
      refine am_putI dX10_nextToken_327 flX10_78 (Or.inl rfl) rfl rfl (by decide) ?_
      refine am_goto dX10_nextToken_330 (tgt := 241) rfl ?_
      exact am_R.forget wp ⟨rfl, trivial⟩
