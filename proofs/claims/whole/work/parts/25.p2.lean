/-! ===== pairs: has, monk, as, often ===== -/
section P2
variable {E : Nat × (Nat → Int32)} {I : Nat → Nat → Int32} {J : Nat → Nat → Int64} {b : Bool} {n : Nat} {Q : Option Value → am_H → Prop}
theorem bX9_has_0 {E : Nat × (Nat → Int32)} {I : Nat → Nat → Int32} {J : Nat → Nat → Int64} {b : Bool} {a1 : Int32} {a2 : Int32} {Q : Option Value → am_H → Prop}  (wp : (((0 ≤ a1 ∧ a1 < (I 4 0)) → ((a2 < 0 → Q (some (.int (-3))) (hp I J b)) ∧ (¬ a2 < 0 → ((a2 ≤ 1 → ((¬ a2 = 1 → (((I 9 0) = 0 → Q (some (.int (-1))) (hp I J b)) ∧ (¬ (I 9 0) = 0 → ∃ j6, a1 = nI j6 ∧ j6 < 7 ∧ Q (some (.int (I 10 j6))) (hp I J b)))) ∧ (a2 = 1 → ∃ j7, a1 = nI j7 ∧ j7 < 7 ∧ Q (some (.int (I 11 j7))) (hp I J b)))) ∧ (¬ a2 ≤ 1 → Q (some (.int (-3))) (hp I J b)))))) ∧ (¬ (0 ≤ a1 ∧ a1 < (I 4 0)) → Q (some (.int (-2))) (hp I J b)))) : am_R E mX9_has 0 [some (.ref 0), some (.int a1), some (.int a2)] [] (hp I J b) 64 64 Q := by
  refine am_aload_n rfl rfl dX9_has_0 ?_
  refine am_iload_n rfl rfl dX9_has_1 ?_
  refine am_invV (ci := 7) (As := [.int a1]) (lsZ := [some (.ref 0), some (.int a1)]) (st := []) dX9_has_2 hX9_isThere lkX9_122 ⟨by decide, by decide⟩ (by decide) rfl (by decide) rfl rfl rfl (Nat.le_of_ble_eq_true rfl) rfl (Nat.le_of_ble_eq_true rfl) ⟨Nat.le_refl _, Nat.le_refl _⟩ (tX9_isThere  (fun hc1 => ?_) (fun hc1 => ?_))
  · have wp := wp.1 hc1
    show am_R E mX9_has 5 [some (.ref 0), some (.int a1), some (.int a2)] [.int 1] (hp I J b) 64 64 Q
    refine am_if_ne dX9_has_5 (tgt := 11) rfl (fun _ => ?_) (fun hc => absurd hc (by decide))
    refine am_iload_n rfl rfl dX9_has_11 ?_
    refine am_if_lt dX9_has_12 (tgt := 20) rfl (fun hc2 => ?_) (fun hc2 => ?_)
    · have wp := wp.1 hc2
      refine am_bipush (-3) rfl dX9_has_20 ?_
      exact am_iret dX9_has_22 rfl rfl wp
    · have wp := wp.2 hc2
      refine am_iload_n rfl rfl dX9_has_15 ?_
      refine am_iconst 1 rfl dX9_has_16 ?_
      refine am_icmp_le dX9_has_17 (tgt := 23) rfl (fun hc3 => ?_) (fun hc3 => ?_)
      · have wp := wp.1 hc3
        refine am_iload_n rfl rfl dX9_has_23 ?_
        refine am_iconst 1 rfl dX9_has_24 ?_
        refine am_icmp_ne dX9_has_25 (tgt := 38) rfl (fun hc4 => ?_) (fun hc4 => ?_)
        · have wp := wp.1 hc4
          refine am_aload_n rfl rfl dX9_has_38 ?_
          refine am_getA (r := 9) dX9_has_39 flX9_26 (Or.inl ⟨_, rfl⟩) rfl (by decide) rfl ?_
          refine am_getI dX9_has_42 flX9_160 (Or.inr rfl) rfl (by decide) ?_
          refine am_if_eq dX9_has_45 (tgt := 60) rfl (fun hc5 => ?_) (fun hc5 => ?_)
          · have wp := wp.1 hc5
            refine am_iconst (-1) rfl dX9_has_60 ?_
            exact am_iret dX9_has_61 rfl rfl wp
          · have wp := wp.2 hc5
            refine am_aload_n rfl rfl dX9_has_48 ?_
            refine am_getA (r := 9) dX9_has_49 flX9_26 (Or.inl ⟨_, rfl⟩) rfl (by decide) rfl ?_
            refine am_getA (r := 10) dX9_has_52 flX9_164 (Or.inr ⟨_, rfl⟩) rfl (by decide) rfl ?_
            refine am_iload_n rfl rfl dX9_has_55 ?_
            obtain ⟨j6, e6, w6, wp⟩ := wp
            refine am_ialdN (j := j6) dX9_has_56 rfl (by decide) e6 w6 (by decide) ?_
            refine am_goto dX9_has_57 (tgt := 61) rfl ?_
            exact am_iret dX9_has_61 rfl rfl wp
        · have wp := wp.2 hc4
          refine am_aload_n rfl rfl dX9_has_28 ?_
          refine am_getA (r := 9) dX9_has_29 flX9_26 (Or.inl ⟨_, rfl⟩) rfl (by decide) rfl ?_
          refine am_getA (r := 11) dX9_has_32 flX9_87 (Or.inr ⟨_, rfl⟩) rfl (by decide) rfl ?_
          refine am_iload_n rfl rfl dX9_has_35 ?_
          obtain ⟨j7, e7, w7, wp⟩ := wp
          refine am_ialdN (j := j7) dX9_has_36 rfl (by decide) e7 w7 (by decide) ?_
          exact am_iret dX9_has_37 rfl rfl wp
      · have wp := wp.2 hc3
        refine am_bipush (-3) rfl dX9_has_20 ?_
        exact am_iret dX9_has_22 rfl rfl wp
  · have wp := wp.2 hc1
    show am_R E mX9_has 5 [some (.ref 0), some (.int a1), some (.int a2)] [.int 0] (hp I J b) 64 64 Q
    refine am_if_ne dX9_has_5 (tgt := 11) rfl (fun hc => absurd hc (by decide)) (fun _ => ?_)
    refine am_bipush (-2) rfl dX9_has_8 ?_
    exact am_iret dX9_has_10 rfl rfl wp
theorem bX10_has_0 {E : Nat × (Nat → Int32)} {I : Nat → Nat → Int32} {J : Nat → Nat → Int64} {b : Bool} {a1 : Int32} {a2 : Int32} {Q : Option Value → am_H → Prop}  (wp : (((0 ≤ a1 ∧ a1 ≤ (I 48 0) - 1) → ((¬ a2 = 0 → ((¬ a2 = 1 → Q (some (.int (-3))) (hp I J b)) ∧ (a2 = 1 → ∃ j4, (8 + a1) = nI j4 ∧ j4 < 128 ∧ Q (some (.int (I 55 j4))) (hp I J b)))) ∧ (a2 = 0 → ((¬ (I 55 0) = 1 → Q (some (.int (-1))) (hp I J b)) ∧ ((I 55 0) = 1 → ∃ j6, (1 + a1) = nI j6 ∧ j6 < 128 ∧ Q (some (.int (I 55 j6))) (hp I J b)))))) ∧ (¬ (0 ≤ a1 ∧ a1 ≤ (I 48 0) - 1) → Q (some (.int (-2))) (hp I J b)))) : am_R E mX10_has 0 [some (.ref 48), some (.int a1), some (.int a2)] [] (hp I J b) 64 64 Q := by
  refine am_aload_n rfl rfl dX10_has_0 ?_
  refine am_iload_n rfl rfl dX10_has_1 ?_
  refine am_invV (ci := 8) (As := [.int a1]) (lsZ := [some (.ref 48), some (.int a1)]) (st := []) dX10_has_2 hX10_isMonk lkX10_166 ⟨by decide, by decide⟩ (by decide) rfl (by decide) rfl rfl rfl (Nat.le_of_ble_eq_true rfl) rfl (Nat.le_of_ble_eq_true rfl) ⟨Nat.le_refl _, Nat.le_refl _⟩ (tX10_isMonk  (fun hc1 => ?_) (fun hc1 => ?_))
  · have wp := wp.1 hc1
    show am_R E mX10_has 5 [some (.ref 48), some (.int a1), some (.int a2)] [.int 1] (hp I J b) 64 64 Q
    refine am_if_ne dX10_has_5 (tgt := 11) rfl (fun _ => ?_) (fun hc => absurd hc (by decide))
    refine am_iload_n rfl rfl dX10_has_11 ?_
    refine am_if_ne dX10_has_12 (tgt := 40) rfl (fun hc2 => ?_) (fun hc2 => ?_)
    · have wp := wp.1 hc2
      refine am_iload_n rfl rfl dX10_has_40 ?_
      refine am_iconst 1 rfl dX10_has_41 ?_
      refine am_icmp_ne dX10_has_42 (tgt := 57) rfl (fun hc3 => ?_) (fun hc3 => ?_)
      · have wp := wp.1 hc3
        refine am_bipush (-3) rfl dX10_has_57 ?_
        exact am_iret dX10_has_59 rfl rfl wp
      · have wp := wp.2 hc3
        refine am_aload_n rfl rfl dX10_has_45 ?_
        refine am_getA (r := 55) dX10_has_46 flX10_35 (Or.inr ⟨_, rfl⟩) rfl (by decide) rfl ?_
        refine am_bipush 8 rfl dX10_has_49 ?_
        refine am_iload_n rfl rfl dX10_has_51 ?_
        refine am_iadd dX10_has_52 ?_
        obtain ⟨j4, e4, w4, wp⟩ := wp
        refine am_ialdN (j := j4) dX10_has_53 rfl (by decide) e4 w4 (by decide) ?_
        refine am_goto dX10_has_54 (tgt := 59) rfl ?_
        exact am_iret dX10_has_59 rfl rfl wp
    · have wp := wp.2 hc2
      refine am_aload_n rfl rfl dX10_has_15 ?_
      refine am_getA (r := 55) dX10_has_16 flX10_35 (Or.inr ⟨_, rfl⟩) rfl (by decide) rfl ?_
      refine am_iconst 0 rfl dX10_has_19 ?_
      refine am_ialdN (j := 0) dX10_has_20 rfl (by decide) rfl (by decide) (by decide) ?_
      refine am_iconst 1 rfl dX10_has_21 ?_
      refine am_icmp_ne dX10_has_22 (tgt := 36) rfl (fun hc5 => ?_) (fun hc5 => ?_)
      · have wp := wp.1 hc5
        refine am_iconst (-1) rfl dX10_has_36 ?_
        refine am_goto dX10_has_37 (tgt := 59) rfl ?_
        exact am_iret dX10_has_59 rfl rfl wp
      · have wp := wp.2 hc5
        refine am_aload_n rfl rfl dX10_has_25 ?_
        refine am_getA (r := 55) dX10_has_26 flX10_35 (Or.inr ⟨_, rfl⟩) rfl (by decide) rfl ?_
        refine am_iconst 1 rfl dX10_has_29 ?_
        refine am_iload_n rfl rfl dX10_has_30 ?_
        refine am_iadd dX10_has_31 ?_
        obtain ⟨j6, e6, w6, wp⟩ := wp
        refine am_ialdN (j := j6) dX10_has_32 rfl (by decide) e6 w6 (by decide) ?_
        refine am_goto dX10_has_33 (tgt := 59) rfl ?_
        exact am_iret dX10_has_59 rfl rfl wp
  · have wp := wp.2 hc1
    show am_R E mX10_has 5 [some (.ref 48), some (.int a1), some (.int a2)] [.int 0] (hp I J b) 64 64 Q
    refine am_if_ne dX10_has_5 (tgt := 11) rfl (fun hc => absurd hc (by decide)) (fun _ => ?_)
    refine am_bipush (-2) rfl dX10_has_8 ?_
    exact am_iret dX10_has_10 rfl rfl wp
theorem p_has (hI : Inv I n) (a1 a2 : Int32) : Pair E mX9_has mX10_has [some (.ref 0), some (.int a1), some (.int a2)] [some (.ref 48), some (.int a1), some (.int a2)] I J b := by
  have hI0 := hI
  obtain ⟨hM, hC⟩ := hI
  obtain ⟨hN, -, -, -, -, -, hD, -⟩ := hM
  obtain ⟨c1, c2, c3, c4, -, c5, c6⟩ := hC
  obtain ⟨n0, n2, n7⟩ := hN
  obtain ⟨d1, d2, d3, d4, d5⟩ := c5
  have e0 : I 4 0 = nI n := c1.1
  by_cases hk : 0 ≤ a1 ∧ a1 < nI n
  · obtain ⟨m, hm, rfl⟩ := in_cls n7 hk
    have hk' := (in_mod (by omega) n7).mpr hk
    by_cases h0 : a2 = 0
    · subst h0
      rcases hD.1 with z | z
      · refine Pair.same hI0 (.int (-1)) (fun Q h => bX9_has_0 (by rw [e0, d1, z]; exact ⟨fun _ => ⟨fun q => absurd q (by decide), fun _ => ⟨fun _ => ⟨fun _ => z00 rfl h, fun q => absurd q (by decide)⟩, fun q => absurd (by decide) q⟩⟩, fun q => absurd hk q⟩)) (fun J b Q h => bX10_has_0 (by rw [n0, z]; exact ⟨fun _ => ⟨fun q => absurd rfl q, fun _ => ⟨fun _ => h, fun q => absurd q (by decide)⟩⟩, fun q => absurd hk' q⟩))
      · refine Pair.same hI0 (.int (I 55 (1 + m))) (fun Q h => bX9_has_0 (by rw [e0, d1, z]; exact ⟨fun _ => ⟨fun q => absurd q (by decide), fun _ => ⟨fun _ => ⟨fun _ => z01 rfl ⟨m, rfl, by omega, by rw [d3 z m hm]; exact h⟩, fun q => absurd q (by decide)⟩, fun q => absurd (by decide) q⟩⟩, fun q => absurd hk q⟩)) (fun J b Q h => bX10_has_0 (by rw [n0, z]; exact ⟨fun _ => ⟨fun q => absurd rfl q, fun _ => ⟨fun q => absurd rfl q, fun _ => ⟨1 + m, n1' m, by omega, h⟩⟩⟩, fun q => absurd hk' q⟩))
    · by_cases h1 : a2 = 1
      · subst h1
        refine Pair.same hI0 (.int (I 55 (8 + m))) (fun Q h => bX9_has_0 (by rw [e0]; exact ⟨fun _ => ⟨fun q => absurd q (by decide), fun _ => ⟨fun _ => ⟨fun q => absurd rfl q, fun _ => ⟨m, rfl, by omega, by rw [d4 m hm]; exact h⟩⟩, fun q => absurd (by decide) q⟩⟩, fun q => absurd hk q⟩)) (fun J b Q h => bX10_has_0 (by rw [n0]; exact ⟨fun _ => ⟨fun _ => ⟨fun q => absurd rfl q, fun _ => ⟨8 + m, n8' m, by omega, h⟩⟩, fun q => absurd q (by decide)⟩, fun q => absurd hk' q⟩))
      · refine Pair.same hI0 (.int (-3)) (fun Q h => bX9_has_0 (by
          rw [e0]
          refine ⟨fun _ => ⟨fun _ => h, fun q1 => ⟨fun q2 => ?_, fun _ => h⟩⟩, fun q => absurd hk q⟩
          exfalso
          obtain ⟨j, j1, j2⟩ := nI_of2 (x := a2) (M := 1) (n := 1) (by decide) q1 q2
          rcases (show j = 0 ∨ j = 1 by omega) with rfl | rfl
          · exact h0 j2
          · exact h1 j2)) (fun J b Q h => bX10_has_0 (by rw [n0]; exact ⟨fun _ => ⟨fun _ => ⟨fun _ => h, fun q => absurd q h1⟩, fun q => absurd q h0⟩, fun q => absurd hk' q⟩))
  · have hk' : ¬ (0 ≤ a1 ∧ a1 ≤ nI n - 1) := fun q => hk ((in_mod (by omega) n7).mp q)
    exact Pair.same hI0 (.int (-2)) (fun Q h => bX9_has_0 (by rw [e0]; exact ⟨fun q => absurd q hk, fun _ => h⟩)) (fun J b Q h => bX10_has_0 (by rw [n0]; exact ⟨fun q => absurd q hk', fun _ => h⟩))
theorem bX9_monk_0 {E : Nat × (Nat → Int32)} {I : Nat → Nat → Int32} {J : Nat → Nat → Int64} {b : Bool} {a1 : Int32} {a2 : Int32} {a3 : Int32} {Q : Option Value → am_H → Prop}  (wp : (((0 ≤ a1 ∧ a1 < (I 4 0)) → (((0 ≤ a2 ∧ a2 < (I 4 0)) → ((a3 = 0 → ∃ j4, ((a1 * 7) + a2) = nI j4 ∧ j4 < 49 ∧ Q (some (.int (I 5 j4))) (hp I J b)) ∧ (a3 = 1 → ∃ j5, ((a1 * 7) + a2) = nI j5 ∧ j5 < 49 ∧ Q (some (.int (I 6 j5))) (hp I J b)) ∧ (a3 = 2 → ∃ j6, a1 = nI j6 ∧ j6 < 7 ∧ ((((((I 24 j6) >>> (a2 &&& 31)) &&& 1) = 1) → Q (some (.int 1)) (hp I J b)) ∧ (¬ ((((I 24 j6) >>> (a2 &&& 31)) &&& 1) = 1) → Q (some (.int 0)) (hp I J b)))) ∧ (¬ a3 = 0 → ¬ a3 = 1 → ¬ a3 = 2 → Q (some (.int (-3))) (hp I J b)))) ∧ (¬ (0 ≤ a2 ∧ a2 < (I 4 0)) → Q (some (.int (-2))) (hp I J b)))) ∧ (¬ (0 ≤ a1 ∧ a1 < (I 4 0)) → Q (some (.int (-2))) (hp I J b)))) : am_R E mX9_monk 0 [some (.ref 0), some (.int a1), some (.int a2), some (.int a3)] [] (hp I J b) 64 64 Q := by
  refine am_aload_n rfl rfl dX9_monk_0 ?_
  refine am_iload_n rfl rfl dX9_monk_1 ?_
  refine am_invV (ci := 7) (As := [.int a1]) (lsZ := [some (.ref 0), some (.int a1)]) (st := []) dX9_monk_2 hX9_isThere lkX9_122 ⟨by decide, by decide⟩ (by decide) rfl (by decide) rfl rfl rfl (Nat.le_of_ble_eq_true rfl) rfl (Nat.le_of_ble_eq_true rfl) ⟨Nat.le_refl _, Nat.le_refl _⟩ (tX9_isThere  (fun hc1 => ?_) (fun hc1 => ?_))
  · have wp := wp.1 hc1
    show am_R E mX9_monk 5 [some (.ref 0), some (.int a1), some (.int a2), some (.int a3)] [.int 1] (hp I J b) 64 64 Q
    refine am_if_eq dX9_monk_5 (tgt := 16) rfl (fun hc => absurd hc (by decide)) (fun _ => ?_)
    refine am_aload_n rfl rfl dX9_monk_8 ?_
    refine am_iload_n rfl rfl dX9_monk_9 ?_
    refine am_invV (ci := 7) (As := [.int a2]) (lsZ := [some (.ref 0), some (.int a2)]) (st := []) dX9_monk_10 hX9_isThere lkX9_122 ⟨by decide, by decide⟩ (by decide) rfl (by decide) rfl rfl rfl (Nat.le_of_ble_eq_true rfl) rfl (Nat.le_of_ble_eq_true rfl) ⟨Nat.le_refl _, Nat.le_refl _⟩ (tX9_isThere  (fun hc2 => ?_) (fun hc2 => ?_))
    · have wp := wp.1 hc2
      show am_R E mX9_monk 13 [some (.ref 0), some (.int a1), some (.int a2), some (.int a3)] [.int 1] (hp I J b) 64 64 Q
      refine am_if_ne dX9_monk_13 (tgt := 19) rfl (fun _ => ?_) (fun hc => absurd hc (by decide))
      refine am_iload_n rfl rfl dX9_monk_19 ?_
      have wq3 := wp
      by_cases hs3_0 : a3 = 0
      · have wp := wq3.1 hs3_0
        refine am_tabC 0 dX9_monk_20 hs3_0 (by decide) (by decide) rfl (tgt := 48) rfl ?_
        refine am_aload_n rfl rfl dX9_monk_48 ?_
        refine am_getA (r := 4) dX9_monk_49 flX9_19 (Or.inl ⟨_, rfl⟩) rfl (by decide) rfl ?_
        refine am_iload_n rfl rfl dX9_monk_52 ?_
        refine am_iload_n rfl rfl dX9_monk_53 ?_
        obtain ⟨j4, e4, w4, wp⟩ := wp
        refine am_invV (ci := 1) (As := [.int a1, .int a2]) (lsZ := [some (.ref 4), some (.int a1), some (.int a2)]) (st := []) dX9_monk_54 hX2_skillOf lkX9_126 ⟨by decide, by decide⟩ (by decide) rfl (by decide) rfl rfl rfl (Nat.le_of_ble_eq_true rfl) rfl (Nat.le_of_ble_eq_true rfl) ⟨Nat.le_refl _, Nat.le_refl _⟩ (tX2_skillOf (by decide) (j := j4) e4 w4 ?_)
        show am_R E mX9_monk 57 [some (.ref 0), some (.int a1), some (.int a2), some (.int a3)] [.int (I 5 j4)] (hp I J b) 64 64 Q
        exact am_iret dX9_monk_57 rfl rfl wp
      by_cases hs3_1 : a3 = 1
      · have wp := wq3.2.1 hs3_1
        refine am_tabC 1 dX9_monk_20 hs3_1 (by decide) (by decide) rfl (tgt := 58) rfl ?_
        refine am_aload_n rfl rfl dX9_monk_58 ?_
        refine am_getA (r := 4) dX9_monk_59 flX9_19 (Or.inl ⟨_, rfl⟩) rfl (by decide) rfl ?_
        refine am_iload_n rfl rfl dX9_monk_62 ?_
        refine am_iload_n rfl rfl dX9_monk_63 ?_
        obtain ⟨j5, e5, w5, wp⟩ := wp
        refine am_invV (ci := 1) (As := [.int a1, .int a2]) (lsZ := [some (.ref 4), some (.int a1), some (.int a2)]) (st := []) dX9_monk_64 hX2_likingOf lkX9_130 ⟨by decide, by decide⟩ (by decide) rfl (by decide) rfl rfl rfl (Nat.le_of_ble_eq_true rfl) rfl (Nat.le_of_ble_eq_true rfl) ⟨Nat.le_refl _, Nat.le_refl _⟩ (tX2_likingOf (by decide) (j := j5) e5 w5 ?_)
        show am_R E mX9_monk 67 [some (.ref 0), some (.int a1), some (.int a2), some (.int a3)] [.int (I 6 j5)] (hp I J b) 64 64 Q
        exact am_iret dX9_monk_67 rfl rfl wp
      by_cases hs3_2 : a3 = 2
      · have wp := wq3.2.2.1 hs3_2
        refine am_tabC 2 dX9_monk_20 hs3_2 (by decide) (by decide) rfl (tgt := 68) rfl ?_
        refine am_aload_n rfl rfl dX9_monk_68 ?_
        refine am_getA (r := 23) dX9_monk_69 flX9_43 (Or.inl ⟨_, rfl⟩) rfl (by decide) rfl ?_
        refine am_iload_n rfl rfl dX9_monk_72 ?_
        refine am_iload_n rfl rfl dX9_monk_73 ?_
        obtain ⟨j6, e6, w6, wp⟩ := wp
        refine am_invV (ci := 3) (As := [.int a1, .int a2]) (lsZ := [some (.ref 23), some (.int a1), some (.int a2)]) (st := []) dX9_monk_74 hX5_mayDo lkX9_133 ⟨by decide, by decide⟩ (by decide) rfl (by decide) rfl rfl rfl (Nat.le_of_ble_eq_true rfl) rfl (Nat.le_of_ble_eq_true rfl) ⟨Nat.le_refl _, Nat.le_refl _⟩ (tX5_mayDo (j := j6) e6 w6 (fun hc7 => ?_) (fun hc7 => ?_))
        · have wp := wp.1 hc7
          show am_R E mX9_monk 77 [some (.ref 0), some (.int a1), some (.int a2), some (.int a3)] [.int 1] (hp I J b) 64 64 Q
          refine am_if_eq dX9_monk_77 (tgt := 84) rfl (fun hc => absurd hc (by decide)) (fun _ => ?_)
          refine am_iconst 1 rfl dX9_monk_80 ?_
          refine am_goto dX9_monk_81 (tgt := 85) rfl ?_
          exact am_iret dX9_monk_85 rfl rfl wp
        · have wp := wp.2 hc7
          show am_R E mX9_monk 77 [some (.ref 0), some (.int a1), some (.int a2), some (.int a3)] [.int 0] (hp I J b) 64 64 Q
          refine am_if_eq dX9_monk_77 (tgt := 84) rfl (fun _ => ?_) (fun hc => absurd hc (by decide))
          refine am_iconst 0 rfl dX9_monk_84 ?_
          exact am_iret dX9_monk_85 rfl rfl wp
      have wp := wq3.2.2.2 hs3_0 hs3_1 hs3_2
      have hz3_0 : a3.toInt ≠ 0 := am_ne hs3_0
      have hz3_1 : a3.toInt ≠ 1 := am_ne hs3_1
      have hz3_2 : a3.toInt ≠ 2 := am_ne hs3_2
      show am_R E mX9_monk 20 [some (.ref 0), some (.int a1), some (.int a2), some (.int a3)] [.int a3] (hp I J b) 64 64 Q
      refine am_tabOut dX9_monk_20 (by omega) (tgt := 86) rfl ?_
      refine am_bipush (-3) rfl dX9_monk_86 ?_
      exact am_iret dX9_monk_88 rfl rfl wp
    · have wp := wp.2 hc2
      show am_R E mX9_monk 13 [some (.ref 0), some (.int a1), some (.int a2), some (.int a3)] [.int 0] (hp I J b) 64 64 Q
      refine am_if_ne dX9_monk_13 (tgt := 19) rfl (fun hc => absurd hc (by decide)) (fun _ => ?_)
      refine am_bipush (-2) rfl dX9_monk_16 ?_
      exact am_iret dX9_monk_18 rfl rfl wp
  · have wp := wp.2 hc1
    show am_R E mX9_monk 5 [some (.ref 0), some (.int a1), some (.int a2), some (.int a3)] [.int 0] (hp I J b) 64 64 Q
    refine am_if_eq dX9_monk_5 (tgt := 16) rfl (fun _ => ?_) (fun hc => absurd hc (by decide))
    refine am_bipush (-2) rfl dX9_monk_16 ?_
    exact am_iret dX9_monk_18 rfl rfl wp
theorem bX10_monk_0 {E : Nat × (Nat → Int32)} {I : Nat → Nat → Int32} {J : Nat → Nat → Int64} {b : Bool} {a1 : Int32} {a2 : Int32} {a3 : Int32} {Q : Option Value → am_H → Prop}  (wp : (((0 ≤ a1 ∧ a1 ≤ (I 48 0) - 1) → (((0 ≤ a2 ∧ a2 ≤ (I 48 0) - 1) → ((¬ a3 = 0 → ((¬ a3 = 1 → ((¬ a3 = 2 → Q (some (.int (-3))) (hp I J b)) ∧ (a3 = 2 → ∃ j6, a1 = nI j6 ∧ j6 < 7 ∧ ∃ j7, a2 = nI j7 ∧ j7 < 7 ∧ ((I 55 (8 + j6)) = -1 ∨ ∃ e, e < 7 ∧ (I 55 (8 + j6)) = nI e) ∧ (((my I j6 j7) → Q (some (.int 1)) (hp I J b)) ∧ (¬ (my I j6 j7) → Q (some (.int 0)) (hp I J b)))))) ∧ (a3 = 1 → ∃ j10, ((7 * a1) + a2) = nI j10 ∧ j10 < 49 ∧ Q (some (.int (I 50 j10))) (hp I J b)))) ∧ (a3 = 0 → ∃ j11, ((7 * a1) + a2) = nI j11 ∧ j11 < 49 ∧ Q (some (.int (I 49 j11))) (hp I J b)))) ∧ (¬ (0 ≤ a2 ∧ a2 ≤ (I 48 0) - 1) → Q (some (.int (-2))) (hp I J b)))) ∧ (¬ (0 ≤ a1 ∧ a1 ≤ (I 48 0) - 1) → Q (some (.int (-2))) (hp I J b)))) : am_R E mX10_monk 0 [some (.ref 48), some (.int a1), some (.int a2), some (.int a3)] [] (hp I J b) 64 64 Q := by
  refine am_aload_n rfl rfl dX10_monk_0 ?_
  refine am_iload_n rfl rfl dX10_monk_1 ?_
  refine am_invV (ci := 8) (As := [.int a1]) (lsZ := [some (.ref 48), some (.int a1)]) (st := []) dX10_monk_2 hX10_isMonk lkX10_166 ⟨by decide, by decide⟩ (by decide) rfl (by decide) rfl rfl rfl (Nat.le_of_ble_eq_true rfl) rfl (Nat.le_of_ble_eq_true rfl) ⟨Nat.le_refl _, Nat.le_refl _⟩ (tX10_isMonk  (fun hc1 => ?_) (fun hc1 => ?_))
  · have wp := wp.1 hc1
    show am_R E mX10_monk 5 [some (.ref 48), some (.int a1), some (.int a2), some (.int a3)] [.int 1] (hp I J b) 64 64 Q
    refine am_if_eq dX10_monk_5 (tgt := 16) rfl (fun hc => absurd hc (by decide)) (fun _ => ?_)
    refine am_aload_n rfl rfl dX10_monk_8 ?_
    refine am_iload_n rfl rfl dX10_monk_9 ?_
    refine am_invV (ci := 8) (As := [.int a2]) (lsZ := [some (.ref 48), some (.int a2)]) (st := []) dX10_monk_10 hX10_isMonk lkX10_166 ⟨by decide, by decide⟩ (by decide) rfl (by decide) rfl rfl rfl (Nat.le_of_ble_eq_true rfl) rfl (Nat.le_of_ble_eq_true rfl) ⟨Nat.le_refl _, Nat.le_refl _⟩ (tX10_isMonk  (fun hc2 => ?_) (fun hc2 => ?_))
    · have wp := wp.1 hc2
      show am_R E mX10_monk 13 [some (.ref 48), some (.int a1), some (.int a2), some (.int a3)] [.int 1] (hp I J b) 64 64 Q
      refine am_if_ne dX10_monk_13 (tgt := 19) rfl (fun _ => ?_) (fun hc => absurd hc (by decide))
      refine am_iload_n rfl rfl dX10_monk_19 ?_
      refine am_if_ne dX10_monk_20 (tgt := 37) rfl (fun hc3 => ?_) (fun hc3 => ?_)
      · have wp := wp.1 hc3
        refine am_iload_n rfl rfl dX10_monk_37 ?_
        refine am_iconst 1 rfl dX10_monk_38 ?_
        refine am_icmp_ne dX10_monk_39 (tgt := 56) rfl (fun hc4 => ?_) (fun hc4 => ?_)
        · have wp := wp.1 hc4
          refine am_iload_n rfl rfl dX10_monk_56 ?_
          refine am_iconst 2 rfl dX10_monk_57 ?_
          refine am_icmp_ne dX10_monk_58 (tgt := 78) rfl (fun hc5 => ?_) (fun hc5 => ?_)
          · have wp := wp.1 hc5
            refine am_bipush (-3) rfl dX10_monk_78 ?_
            exact am_iret dX10_monk_80 rfl rfl wp
          · have wp := wp.2 hc5
            refine am_aload_n rfl rfl dX10_monk_61 ?_
            refine am_iload_n rfl rfl dX10_monk_62 ?_
            refine am_iload_n rfl rfl dX10_monk_63 ?_
            obtain ⟨j6, e6, w6, wp⟩ := wp
            obtain ⟨j7, e7, w7, wp⟩ := wp
            obtain ⟨w8, wp⟩ := wp
            refine am_invV (ci := 8) (As := [.int a1, .int a2]) (lsZ := [some (.ref 48), some (.int a1), some (.int a2)]) (st := []) dX10_monk_64 hX10_may lkX10_169 ⟨by decide, by decide⟩ (by decide) rfl (by decide) rfl rfl rfl (Nat.le_of_ble_eq_true rfl) rfl (Nat.le_of_ble_eq_true rfl) ⟨Nat.le_refl _, Nat.le_refl _⟩ (tX10_may (m := j6) (d := j7) e6 w6 e7 w7 w8 (fun hc9 => ?_) (fun hc9 => ?_))
            · have wp := wp.1 hc9
              show am_R E mX10_monk 67 [some (.ref 48), some (.int a1), some (.int a2), some (.int a3)] [.int 1] (hp I J b) 64 64 Q
              refine am_if_eq dX10_monk_67 (tgt := 74) rfl (fun hc => absurd hc (by decide)) (fun _ => ?_)
              refine am_iconst 1 rfl dX10_monk_70 ?_
              refine am_goto dX10_monk_71 (tgt := 80) rfl ?_
              exact am_iret dX10_monk_80 rfl rfl wp
            · have wp := wp.2 hc9
              show am_R E mX10_monk 67 [some (.ref 48), some (.int a1), some (.int a2), some (.int a3)] [.int 0] (hp I J b) 64 64 Q
              refine am_if_eq dX10_monk_67 (tgt := 74) rfl (fun _ => ?_) (fun hc => absurd hc (by decide))
              refine am_iconst 0 rfl dX10_monk_74 ?_
              refine am_goto dX10_monk_75 (tgt := 80) rfl ?_
              exact am_iret dX10_monk_80 rfl rfl wp
        · have wp := wp.2 hc4
          refine am_aload_n rfl rfl dX10_monk_42 ?_
          refine am_getA (r := 50) dX10_monk_43 flX10_20 (Or.inr ⟨_, rfl⟩) rfl (by decide) rfl ?_
          refine am_bipush 7 rfl dX10_monk_46 ?_
          refine am_iload_n rfl rfl dX10_monk_48 ?_
          refine am_imul dX10_monk_49 ?_
          refine am_iload_n rfl rfl dX10_monk_50 ?_
          refine am_iadd dX10_monk_51 ?_
          obtain ⟨j10, e10, w10, wp⟩ := wp
          refine am_ialdN (j := j10) dX10_monk_52 rfl (by decide) e10 w10 (by decide) ?_
          refine am_goto dX10_monk_53 (tgt := 80) rfl ?_
          exact am_iret dX10_monk_80 rfl rfl wp
      · have wp := wp.2 hc3
        refine am_aload_n rfl rfl dX10_monk_23 ?_
        refine am_getA (r := 49) dX10_monk_24 flX10_16 (Or.inr ⟨_, rfl⟩) rfl (by decide) rfl ?_
        refine am_bipush 7 rfl dX10_monk_27 ?_
        refine am_iload_n rfl rfl dX10_monk_29 ?_
        refine am_imul dX10_monk_30 ?_
        refine am_iload_n rfl rfl dX10_monk_31 ?_
        refine am_iadd dX10_monk_32 ?_
        obtain ⟨j11, e11, w11, wp⟩ := wp
        refine am_ialdN (j := j11) dX10_monk_33 rfl (by decide) e11 w11 (by decide) ?_
        refine am_goto dX10_monk_34 (tgt := 80) rfl ?_
        exact am_iret dX10_monk_80 rfl rfl wp
    · have wp := wp.2 hc2
      show am_R E mX10_monk 13 [some (.ref 48), some (.int a1), some (.int a2), some (.int a3)] [.int 0] (hp I J b) 64 64 Q
      refine am_if_ne dX10_monk_13 (tgt := 19) rfl (fun hc => absurd hc (by decide)) (fun _ => ?_)
      refine am_bipush (-2) rfl dX10_monk_16 ?_
      exact am_iret dX10_monk_18 rfl rfl wp
  · have wp := wp.2 hc1
    show am_R E mX10_monk 5 [some (.ref 48), some (.int a1), some (.int a2), some (.int a3)] [.int 0] (hp I J b) 64 64 Q
    refine am_if_eq dX10_monk_5 (tgt := 16) rfl (fun _ => ?_) (fun hc => absurd hc (by decide))
    refine am_bipush (-2) rfl dX10_monk_16 ?_
    exact am_iret dX10_monk_18 rfl rfl wp
theorem p_monk (hI : Inv I n) (a1 a2 a3 : Int32) : Pair E mX9_monk mX10_monk [some (.ref 0), some (.int a1), some (.int a2), some (.int a3)] [some (.ref 48), some (.int a1), some (.int a2), some (.int a3)] I J b := by
  have hI0 := hI
  obtain ⟨hM, hC⟩ := hI
  obtain ⟨⟨n0, n2, n7⟩, -, -, -, -, -, hD, -⟩ := hM
  obtain ⟨⟨e0, -, cs, cl, cm⟩, -⟩ := hC
  have hY : Yw I n := hD.2.2.1
  by_cases hk : 0 ≤ a1 ∧ a1 < nI n
  · have hk' := (in_mod (by omega) n7).mpr hk
    by_cases hj : 0 ≤ a2 ∧ a2 < nI n
    · have hj' := (in_mod (by omega) n7).mpr hj
      obtain ⟨m, hm, rfl⟩ := in_cls n7 hk
      obtain ⟨d, hd, rfl⟩ := in_cls n7 hj
      by_cases h0 : a3 = 0
      · subst h0
        refine Pair.same hI0 (.int (I 49 (7 * m + d))) (fun Q h => bX9_monk_0 (by rw [e0]; exact ⟨fun _ => ⟨fun _ => ⟨fun _ => ⟨7 * m + d, k7' m d, by omega, by rw [cs _ (by omega)]; exact h⟩, fun q => absurd q (by decide), fun q => absurd q (by decide), fun q => absurd rfl q⟩, fun q => absurd hj q⟩, fun q => absurd hk q⟩)) (fun J b Q h => bX10_monk_0 (by rw [n0]; exact ⟨fun _ => ⟨fun _ => ⟨fun q => absurd rfl q, fun _ => ⟨7 * m + d, k7 m d, by omega, h⟩⟩, fun q => absurd hj' q⟩, fun q => absurd hk' q⟩))
      · by_cases h1 : a3 = 1
        · subst h1
          refine Pair.same hI0 (.int (I 50 (7 * m + d))) (fun Q h => bX9_monk_0 (by rw [e0]; exact ⟨fun _ => ⟨fun _ => ⟨fun q => absurd q (by decide), fun _ => ⟨7 * m + d, k7' m d, by omega, by rw [cl _ (by omega)]; exact h⟩, fun q => absurd q (by decide), fun _ q => absurd rfl q⟩, fun q => absurd hj q⟩, fun q => absurd hk q⟩)) (fun J b Q h => bX10_monk_0 (by rw [n0]; exact ⟨fun _ => ⟨fun _ => ⟨fun _ => ⟨fun q => absurd rfl q, fun _ => ⟨7 * m + d, k7 m d, by omega, h⟩⟩, fun q => absurd q (by decide)⟩, fun q => absurd hj' q⟩, fun q => absurd hk' q⟩))
        · by_cases h2 : a3 = 2
          · subst h2
            by_cases hmy : my I m d
            · refine Pair.same hI0 (.int 1) (fun Q h => bX9_monk_0 (by rw [e0]; exact ⟨fun _ => ⟨fun _ => ⟨fun q => absurd q (by decide), fun q => absurd q (by decide), fun _ => ⟨m, rfl, by omega, fun _ => h, fun q => absurd ((cm m hm d hd).mpr hmy) q⟩, fun _ _ q => absurd rfl q⟩, fun q => absurd hj q⟩, fun q => absurd hk q⟩)) (fun J b Q h => bX10_monk_0 (by rw [n0]; exact ⟨fun _ => ⟨fun _ => ⟨fun _ => ⟨fun _ => ⟨fun q => absurd rfl q, fun _ => ⟨m, rfl, by omega, d, rfl, by omega, hY.seven n7 hm, fun _ => h, fun q => absurd hmy q⟩⟩, fun q => absurd q (by decide)⟩, fun q => absurd q (by decide)⟩, fun q => absurd hj' q⟩, fun q => absurd hk' q⟩))
            · refine Pair.same hI0 (.int 0) (fun Q h => bX9_monk_0 (by rw [e0]; exact ⟨fun _ => ⟨fun _ => ⟨fun q => absurd q (by decide), fun q => absurd q (by decide), fun _ => ⟨m, rfl, by omega, fun q => absurd ((cm m hm d hd).mp q) hmy, fun _ => h⟩, fun _ _ q => absurd rfl q⟩, fun q => absurd hj q⟩, fun q => absurd hk q⟩)) (fun J b Q h => bX10_monk_0 (by rw [n0]; exact ⟨fun _ => ⟨fun _ => ⟨fun _ => ⟨fun _ => ⟨fun q => absurd rfl q, fun _ => ⟨m, rfl, by omega, d, rfl, by omega, hY.seven n7 hm, fun q => absurd q hmy, fun _ => h⟩⟩, fun q => absurd q (by decide)⟩, fun q => absurd q (by decide)⟩, fun q => absurd hj' q⟩, fun q => absurd hk' q⟩))
          · exact Pair.same hI0 (.int (-3)) (fun Q h => bX9_monk_0 (by rw [e0]; exact ⟨fun _ => ⟨fun _ => ⟨fun q => absurd q h0, fun q => absurd q h1, fun q => absurd q h2, fun _ _ _ => h⟩, fun q => absurd hj q⟩, fun q => absurd hk q⟩)) (fun J b Q h => bX10_monk_0 (by rw [n0]; exact ⟨fun _ => ⟨fun _ => ⟨fun _ => ⟨fun _ => ⟨fun _ => h, fun q => absurd q h2⟩, fun q => absurd q h1⟩, fun q => absurd q h0⟩, fun q => absurd hj' q⟩, fun q => absurd hk' q⟩))
    · have hj' : ¬ (0 ≤ a2 ∧ a2 ≤ nI n - 1) := fun q => hj ((in_mod (by omega) n7).mp q)
      exact Pair.same hI0 (.int (-2)) (fun Q h => bX9_monk_0 (by rw [e0]; exact ⟨fun _ => ⟨fun q => absurd q hj, fun _ => h⟩, fun q => absurd hk q⟩)) (fun J b Q h => bX10_monk_0 (by rw [n0]; exact ⟨fun _ => ⟨fun q => absurd q hj', fun _ => h⟩, fun q => absurd hk' q⟩))
  · have hk' : ¬ (0 ≤ a1 ∧ a1 ≤ nI n - 1) := fun q => hk ((in_mod (by omega) n7).mp q)
    exact Pair.same hI0 (.int (-2)) (fun Q h => bX9_monk_0 (by rw [e0]; exact ⟨fun q => absurd q hk, fun _ => h⟩)) (fun J b Q h => bX10_monk_0 (by rw [n0]; exact ⟨fun q => absurd q hk', fun _ => h⟩))
/-- how often: the reference's book -/
def ofc (f : Nat → Int32) (D m d : Nat) : Nat := fb_ct (fun k => decide (f (16 + 7 * k + m) = nI d)) D
theorem bX1_timesOf_0 {E : Nat × (Nat → Int32)} {I : Nat → Nat → Int32} {J : Nat → Nat → Int64} {b : Bool} {a1 : Int32} {a2 : Int32} {Q : Option Value → am_H → Prop}  (wp : am_R E mX1_timesOf 5 [some (.ref 9), some (.int a1), some (.int a2), some (.int 0), some (.int 0)] [] (hp I J b) 64 64 Q) : am_R E mX1_timesOf 0 [some (.ref 9), some (.int a1), some (.int a2), none, none] [] (hp I J b) 64 64 Q := by
  refine am_iconst 0 rfl dX1_timesOf_0 ?_
  refine am_istore_n (ls' := [some (.ref 9), some (.int a1), some (.int a2), some (.int 0), none]) rfl (by decide) rfl rfl dX1_timesOf_1 ?_
  refine am_iconst 0 rfl dX1_timesOf_2 ?_
  refine am_istore (ls' := [some (.ref 9), some (.int a1), some (.int a2), some (.int 0), some (.int 0)]) (by decide) rfl rfl dX1_timesOf_3 ?_
  exact am_R.forget wp ⟨rfl, ⟨rfl, ⟨rfl, ⟨rfl, ⟨rfl, trivial⟩⟩⟩⟩⟩
theorem bX1_timesOf_5 {E : Nat × (Nat → Int32)} {I : Nat → Nat → Int32} {J : Nat → Nat → Int64} {b : Bool} {a1 : Int32} {a2 : Int32} {a3 : Int32} {a4 : Int32} {Q : Option Value → am_H → Prop}  (wp : (((I 9 3) ≤ a4 → Q (some (.int a3)) (hp I J b)) ∧ (¬ (I 9 3) ≤ a4 → ∃ j2, ((a4 * 7) + a1) = nI j2 ∧ j2 < 112 ∧ ((¬ (I 12 j2) = a2 → am_R E mX1_timesOf 5 [some (.ref 9), some (.int a1), some (.int a2), some (.int a3), some (.int (a4 + 1))] [] (hp I J b) 64 64 Q) ∧ ((I 12 j2) = a2 → am_R E mX1_timesOf 5 [some (.ref 9), some (.int a1), some (.int a2), some (.int (a3 + 1)), some (.int (a4 + 1))] [] (hp I J b) 64 64 Q))))) : am_R E mX1_timesOf 5 [some (.ref 9), some (.int a1), some (.int a2), some (.int a3), some (.int a4)] [] (hp I J b) 64 64 Q := by
  refine am_iload rfl dX1_timesOf_5 ?_
  refine am_aload_n rfl rfl dX1_timesOf_7 ?_
  refine am_getI dX1_timesOf_8 flX1_25 (Or.inl rfl) rfl (by decide) ?_
  refine am_icmp_ge dX1_timesOf_11 (tgt := 39) rfl (fun hc1 => ?_) (fun hc1 => ?_)
  · have wp := wp.1 hc1
    refine am_iload_n rfl rfl dX1_timesOf_39 ?_
    exact am_iret dX1_timesOf_40 rfl rfl wp
  · have wp := wp.2 hc1
    refine am_aload_n rfl rfl dX1_timesOf_14 ?_
    refine am_getA (r := 12) dX1_timesOf_15 flX1_18 (Or.inr ⟨_, rfl⟩) rfl (by decide) rfl ?_
    refine am_iload rfl dX1_timesOf_18 ?_
    refine am_bipush 7 rfl dX1_timesOf_20 ?_
    refine am_imul dX1_timesOf_22 ?_
    refine am_iload_n rfl rfl dX1_timesOf_23 ?_
    refine am_iadd dX1_timesOf_24 ?_
    obtain ⟨j2, e2, w2, wp⟩ := wp
    refine am_ialdN (j := j2) dX1_timesOf_25 rfl (by decide) e2 w2 (by decide) ?_
    refine am_iload_n rfl rfl dX1_timesOf_26 ?_
    refine am_icmp_ne dX1_timesOf_27 (tgt := 33) rfl (fun hc3 => ?_) (fun hc3 => ?_)
    · have wp := wp.1 hc3
      refine am_iinc (ls' := [some (.ref 9), some (.int a1), some (.int a2), some (.int a3), some (.int (a4 + 1))]) (by decide) rfl rfl rfl dX1_timesOf_33 ?_
      refine am_goto dX1_timesOf_36 (tgt := 5) rfl ?_
      exact am_R.forget wp ⟨rfl, ⟨rfl, ⟨rfl, ⟨rfl, ⟨rfl, trivial⟩⟩⟩⟩⟩
    · have wp := wp.2 hc3
      refine am_iinc (ls' := [some (.ref 9), some (.int a1), some (.int a2), some (.int (a3 + 1)), some (.int a4)]) (by decide) rfl rfl rfl dX1_timesOf_30 ?_
      refine am_iinc (ls' := [some (.ref 9), some (.int a1), some (.int a2), some (.int (a3 + 1)), some (.int (a4 + 1))]) (by decide) rfl rfl rfl dX1_timesOf_33 ?_
      refine am_goto dX1_timesOf_36 (tgt := 5) rfl ?_
      exact am_R.forget wp ⟨rfl, ⟨rfl, ⟨rfl, ⟨rfl, ⟨rfl, trivial⟩⟩⟩⟩⟩
theorem tX1_timesOf {a1 a2 : Int32} {m d D : Nat} (em : a1 = nI m) (ed : a2 = nI d) (hm : m < 7) (hD : D ≤ 16) (e3 : I 9 3 = nI D) (hb : ∀ i, i < D → I 12 (7 * i + m) = I 55 (16 + 7 * i + m)) (k : Q (some (.int (nI (ofc (I 55) D m d)))) (hp I J b)) : am_R E mX1_timesOf 0 [some (.ref 9), some (.int a1), some (.int a2), none, none] [] (hp I J b) 64 64 Q := by
  subst em; subst ed
  refine bX1_timesOf_0 (lp_up (n := D) (P := fun i => am_R E mX1_timesOf 5 [some (.ref 9), some (.int (nI m)), some (.int (nI d)), some (.int (nI (ofc (I 55) i m d))), some (.int (nI i))] [] (hp I J b) 64 64 Q) ?_ ?_)
  · exact bX1_timesOf_5 (le_br e3 rfl (by omega) (by omega) (fun _ => k) (fun h => by omega))
  · intro i hi ih
    refine bX1_timesOf_5 (le_br e3 rfl (by omega) (by omega) (fun h => by omega) (fun _ => ⟨7 * i + m, by rw [k7'], by omega, ?_⟩))
    rw [hb i hi]
    refine ⟨fun q => ?_, fun q => ?_⟩
    · have e : ofc (I 55) (i + 1) m d = ofc (I 55) i m d := by unfold ofc; rw [fb_ct_succ, decide_eq_false q]; rfl
      rw [e] at ih
      rw [n1]; exact ih
    · have e : ofc (I 55) (i + 1) m d = ofc (I 55) i m d + 1 := by unfold ofc; rw [fb_ct_succ, decide_eq_true q]; rfl
      rw [e] at ih
      rw [n1, n1]; exact ih
theorem bX10_oftenOf_0 {E : Nat × (Nat → Int32)} {I : Nat → Nat → Int32} {J : Nat → Nat → Int64} {b : Bool} {a1 : Int32} {a2 : Int32} {Q : Option Value → am_H → Prop}  (wp : am_R E mX10_oftenOf 5 [some (.ref 48), some (.int a1), some (.int a2), some (.int 0), some (.int 0)] [] (hp I J b) 64 64 Q) : am_R E mX10_oftenOf 0 [some (.ref 48), some (.int a1), some (.int a2), none, none] [] (hp I J b) 64 64 Q := by
  refine am_iconst 0 rfl dX10_oftenOf_0 ?_
  refine am_istore_n (ls' := [some (.ref 48), some (.int a1), some (.int a2), some (.int 0), none]) rfl (by decide) rfl rfl dX10_oftenOf_1 ?_
  refine am_iconst 0 rfl dX10_oftenOf_2 ?_
  refine am_istore (ls' := [some (.ref 48), some (.int a1), some (.int a2), some (.int 0), some (.int 0)]) (by decide) rfl rfl dX10_oftenOf_3 ?_
  exact am_R.forget wp ⟨rfl, ⟨rfl, ⟨rfl, ⟨rfl, ⟨rfl, trivial⟩⟩⟩⟩⟩
theorem bX10_oftenOf_5 {E : Nat × (Nat → Int32)} {I : Nat → Nat → Int32} {J : Nat → Nat → Int64} {b : Bool} {a1 : Int32} {a2 : Int32} {a3 : Int32} {a4 : Int32} {Q : Option Value → am_H → Prop}  (wp : (((I 55 15) ≤ a4 → Q (some (.int a3)) (hp I J b)) ∧ (¬ (I 55 15) ≤ a4 → ∃ j2, ((16 + (7 * a4)) + a1) = nI j2 ∧ j2 < 128 ∧ ((¬ (I 55 j2) = a2 → am_R E mX10_oftenOf 5 [some (.ref 48), some (.int a1), some (.int a2), some (.int (a3 + 0)), some (.int (a4 + 1))] [] (hp I J b) 64 64 Q) ∧ ((I 55 j2) = a2 → am_R E mX10_oftenOf 5 [some (.ref 48), some (.int a1), some (.int a2), some (.int (a3 + 1)), some (.int (a4 + 1))] [] (hp I J b) 64 64 Q))))) : am_R E mX10_oftenOf 5 [some (.ref 48), some (.int a1), some (.int a2), some (.int a3), some (.int a4)] [] (hp I J b) 64 64 Q := by
  refine am_iload rfl dX10_oftenOf_5 ?_
  refine am_aload_n rfl rfl dX10_oftenOf_7 ?_
  refine am_getA (r := 55) dX10_oftenOf_8 flX10_35 (Or.inr ⟨_, rfl⟩) rfl (by decide) rfl ?_
  refine am_bipush 15 rfl dX10_oftenOf_11 ?_
  refine am_ialdN (j := 15) dX10_oftenOf_13 rfl (by decide) rfl (by decide) (by decide) ?_
  refine am_icmp_ge dX10_oftenOf_14 (tgt := 50) rfl (fun hc1 => ?_) (fun hc1 => ?_)
  · have wp := wp.1 hc1
    refine am_iload_n rfl rfl dX10_oftenOf_50 ?_
    exact am_iret dX10_oftenOf_51 rfl rfl wp
  · have wp := wp.2 hc1
    refine am_iload_n rfl rfl dX10_oftenOf_17 ?_
    refine am_aload_n rfl rfl dX10_oftenOf_18 ?_
    refine am_getA (r := 55) dX10_oftenOf_19 flX10_35 (Or.inr ⟨_, rfl⟩) rfl (by decide) rfl ?_
    refine am_bipush 16 rfl dX10_oftenOf_22 ?_
    refine am_bipush 7 rfl dX10_oftenOf_24 ?_
    refine am_iload rfl dX10_oftenOf_26 ?_
    refine am_imul dX10_oftenOf_28 ?_
    refine am_iadd dX10_oftenOf_29 ?_
    refine am_iload_n rfl rfl dX10_oftenOf_30 ?_
    refine am_iadd dX10_oftenOf_31 ?_
    obtain ⟨j2, e2, w2, wp⟩ := wp
    refine am_ialdN (j := j2) dX10_oftenOf_32 rfl (by decide) e2 w2 (by decide) ?_
    refine am_iload_n rfl rfl dX10_oftenOf_33 ?_
    refine am_icmp_ne dX10_oftenOf_34 (tgt := 41) rfl (fun hc3 => ?_) (fun hc3 => ?_)
    · have wp := wp.1 hc3
      refine am_iconst 0 rfl dX10_oftenOf_41 ?_
      refine am_iadd dX10_oftenOf_42 ?_
      refine am_istore_n (ls' := [some (.ref 48), some (.int a1), some (.int a2), some (.int (a3 + 0)), some (.int a4)]) rfl (by decide) rfl rfl dX10_oftenOf_43 ?_
      refine am_iinc (ls' := [some (.ref 48), some (.int a1), some (.int a2), some (.int (a3 + 0)), some (.int (a4 + 1))]) (by decide) rfl rfl rfl dX10_oftenOf_44 ?_
      refine am_goto dX10_oftenOf_47 (tgt := 5) rfl ?_
      exact am_R.forget wp ⟨rfl, ⟨rfl, ⟨rfl, ⟨rfl, ⟨rfl, trivial⟩⟩⟩⟩⟩
    · have wp := wp.2 hc3
      refine am_iconst 1 rfl dX10_oftenOf_37 ?_
      refine am_goto dX10_oftenOf_38 (tgt := 42) rfl ?_
      refine am_iadd dX10_oftenOf_42 ?_
      refine am_istore_n (ls' := [some (.ref 48), some (.int a1), some (.int a2), some (.int (a3 + 1)), some (.int a4)]) rfl (by decide) rfl rfl dX10_oftenOf_43 ?_
      refine am_iinc (ls' := [some (.ref 48), some (.int a1), some (.int a2), some (.int (a3 + 1)), some (.int (a4 + 1))]) (by decide) rfl rfl rfl dX10_oftenOf_44 ?_
      refine am_goto dX10_oftenOf_47 (tgt := 5) rfl ?_
      exact am_R.forget wp ⟨rfl, ⟨rfl, ⟨rfl, ⟨rfl, ⟨rfl, trivial⟩⟩⟩⟩⟩
theorem tX10_oftenOf {a1 a2 : Int32} {m d D : Nat} (em : a1 = nI m) (ed : a2 = nI d) (hm : m < 7) (hD : D ≤ 16) (e3 : I 55 15 = nI D) (k : Q (some (.int (nI (ofc (I 55) D m d)))) (hp I J b)) : am_R E mX10_oftenOf 0 [some (.ref 48), some (.int a1), some (.int a2), none, none] [] (hp I J b) 64 64 Q := by
  subst em; subst ed
  refine bX10_oftenOf_0 (lp_up (n := D) (P := fun i => am_R E mX10_oftenOf 5 [some (.ref 48), some (.int (nI m)), some (.int (nI d)), some (.int (nI (ofc (I 55) i m d))), some (.int (nI i))] [] (hp I J b) 64 64 Q) ?_ ?_)
  · exact bX10_oftenOf_5 (le_br e3 rfl (by omega) (by omega) (fun _ => k) (fun h => by omega))
  · intro i hi ih
    refine bX10_oftenOf_5 (le_br e3 rfl (by omega) (by omega) (fun h => by omega) (fun _ => ⟨16 + 7 * i + m, by rw [show (16 : Int32) = nI 16 from rfl, show (7 : Int32) = nI 7 from rfl, pk_mul, nI_add, nI_add], by omega, ?_⟩))
    refine ⟨fun q => ?_, fun q => ?_⟩
    · have e : ofc (I 55) (i + 1) m d = ofc (I 55) i m d := by unfold ofc; rw [fb_ct_succ, decide_eq_false q]; rfl
      rw [e] at ih
      rw [n1, show (0 : Int32) = nI 0 from rfl, nI_add]; exact ih
    · have e : ofc (I 55) (i + 1) m d = ofc (I 55) i m d + 1 := by unfold ofc; rw [fb_ct_succ, decide_eq_true q]; rfl
      rw [e] at ih
      rw [n1, n1]; exact ih
theorem bX9_often_0 {E : Nat × (Nat → Int32)} {I : Nat → Nat → Int32} {J : Nat → Nat → Int64} {b : Bool} {a1 : Int32} {a2 : Int32} {Q : Option Value → am_H → Prop}  (wp : (((0 ≤ a1 ∧ a1 < (I 4 0)) → (((0 ≤ a2 ∧ a2 < (I 4 0)) → am_R E mX1_timesOf 0 [some (.ref 9), some (.int a1), some (.int a2), none, none] [] (hp I J b) 64 64 (fun r h' => am_R E mX9_often 28 [none, none, none] (r.toList ++ []) h' 64 64 Q)) ∧ (¬ (0 ≤ a2 ∧ a2 < (I 4 0)) → Q (some (.int (-2))) (hp I J b)))) ∧ (¬ (0 ≤ a1 ∧ a1 < (I 4 0)) → Q (some (.int (-2))) (hp I J b)))) : am_R E mX9_often 0 [some (.ref 0), some (.int a1), some (.int a2)] [] (hp I J b) 64 64 Q := by
  refine am_aload_n rfl rfl dX9_often_0 ?_
  refine am_iload_n rfl rfl dX9_often_1 ?_
  refine am_invV (ci := 7) (As := [.int a1]) (lsZ := [some (.ref 0), some (.int a1)]) (st := []) dX9_often_2 hX9_isThere lkX9_122 ⟨by decide, by decide⟩ (by decide) rfl (by decide) rfl rfl rfl (Nat.le_of_ble_eq_true rfl) rfl (Nat.le_of_ble_eq_true rfl) ⟨Nat.le_refl _, Nat.le_refl _⟩ (tX9_isThere  (fun hc1 => ?_) (fun hc1 => ?_))
  · have wp := wp.1 hc1
    show am_R E mX9_often 5 [some (.ref 0), some (.int a1), some (.int a2)] [.int 1] (hp I J b) 64 64 Q
    refine am_if_eq dX9_often_5 (tgt := 16) rfl (fun hc => absurd hc (by decide)) (fun _ => ?_)
    refine am_aload_n rfl rfl dX9_often_8 ?_
    refine am_iload_n rfl rfl dX9_often_9 ?_
    refine am_invV (ci := 7) (As := [.int a2]) (lsZ := [some (.ref 0), some (.int a2)]) (st := []) dX9_often_10 hX9_isThere lkX9_122 ⟨by decide, by decide⟩ (by decide) rfl (by decide) rfl rfl rfl (Nat.le_of_ble_eq_true rfl) rfl (Nat.le_of_ble_eq_true rfl) ⟨Nat.le_refl _, Nat.le_refl _⟩ (tX9_isThere  (fun hc2 => ?_) (fun hc2 => ?_))
    · have wp := wp.1 hc2
      show am_R E mX9_often 13 [some (.ref 0), some (.int a1), some (.int a2)] [.int 1] (hp I J b) 64 64 Q
      refine am_if_ne dX9_often_13 (tgt := 19) rfl (fun _ => ?_) (fun hc => absurd hc (by decide))
      refine am_aload_n rfl rfl dX9_often_19 ?_
      refine am_getA (r := 9) dX9_often_20 flX9_26 (Or.inl ⟨_, rfl⟩) rfl (by decide) rfl ?_
      refine am_iload_n rfl rfl dX9_often_23 ?_
      refine am_iload_n rfl rfl dX9_often_24 ?_
      refine am_invV (ci := 0) (As := [.int a1, .int a2]) (lsZ := [some (.ref 9), some (.int a1), some (.int a2), none, none]) (st := []) dX9_often_25 hX1_timesOf lkX9_246 ⟨by decide, by decide⟩ (by decide) rfl (by decide) rfl rfl rfl (Nat.le_of_ble_eq_true rfl) rfl (Nat.le_of_ble_eq_true rfl) ⟨Nat.le_refl _, Nat.le_refl _⟩ (am_R.mono wp (fun r h' q => am_R.forget q trivial))
    · have wp := wp.2 hc2
      show am_R E mX9_often 13 [some (.ref 0), some (.int a1), some (.int a2)] [.int 0] (hp I J b) 64 64 Q
      refine am_if_ne dX9_often_13 (tgt := 19) rfl (fun hc => absurd hc (by decide)) (fun _ => ?_)
      refine am_bipush (-2) rfl dX9_often_16 ?_
      exact am_iret dX9_often_18 rfl rfl wp
  · have wp := wp.2 hc1
    show am_R E mX9_often 5 [some (.ref 0), some (.int a1), some (.int a2)] [.int 0] (hp I J b) 64 64 Q
    refine am_if_eq dX9_often_5 (tgt := 16) rfl (fun _ => ?_) (fun hc => absurd hc (by decide))
    refine am_bipush (-2) rfl dX9_often_16 ?_
    exact am_iret dX9_often_18 rfl rfl wp
theorem bX9_often_28 {E : Nat × (Nat → Int32)} {I : Nat → Nat → Int32} {J : Nat → Nat → Int64} {b : Bool} {x0 : Int32} {Q : Option Value → am_H → Prop}  (wp : Q (some (.int x0)) (hp I J b)) : am_R E mX9_often 28 [none, none, none] [.int x0] (hp I J b) 64 64 Q := by
  exact am_iret dX9_often_28 rfl rfl wp
theorem bX10_often_0 {E : Nat × (Nat → Int32)} {I : Nat → Nat → Int32} {J : Nat → Nat → Int64} {b : Bool} {a1 : Int32} {a2 : Int32} {Q : Option Value → am_H → Prop}  (wp : (((0 ≤ a1 ∧ a1 ≤ (I 48 0) - 1) → (((0 ≤ a2 ∧ a2 ≤ (I 48 0) - 1) → am_R E mX10_oftenOf 0 [some (.ref 48), some (.int a1), some (.int a2), none, none] [] (hp I J b) 64 64 (fun r h' => am_R E mX10_often 22 [none, none, none] (r.toList ++ []) h' 64 64 Q)) ∧ (¬ (0 ≤ a2 ∧ a2 ≤ (I 48 0) - 1) → Q (some (.int (-2))) (hp I J b)))) ∧ (¬ (0 ≤ a1 ∧ a1 ≤ (I 48 0) - 1) → Q (some (.int (-2))) (hp I J b)))) : am_R E mX10_often 0 [some (.ref 48), some (.int a1), some (.int a2)] [] (hp I J b) 64 64 Q := by
  refine am_aload_n rfl rfl dX10_often_0 ?_
  refine am_iload_n rfl rfl dX10_often_1 ?_
  refine am_invV (ci := 8) (As := [.int a1]) (lsZ := [some (.ref 48), some (.int a1)]) (st := []) dX10_often_2 hX10_isMonk lkX10_166 ⟨by decide, by decide⟩ (by decide) rfl (by decide) rfl rfl rfl (Nat.le_of_ble_eq_true rfl) rfl (Nat.le_of_ble_eq_true rfl) ⟨Nat.le_refl _, Nat.le_refl _⟩ (tX10_isMonk  (fun hc1 => ?_) (fun hc1 => ?_))
  · have wp := wp.1 hc1
    show am_R E mX10_often 5 [some (.ref 48), some (.int a1), some (.int a2)] [.int 1] (hp I J b) 64 64 Q
    refine am_if_eq dX10_often_5 (tgt := 25) rfl (fun hc => absurd hc (by decide)) (fun _ => ?_)
    refine am_aload_n rfl rfl dX10_often_8 ?_
    refine am_iload_n rfl rfl dX10_often_9 ?_
    refine am_invV (ci := 8) (As := [.int a2]) (lsZ := [some (.ref 48), some (.int a2)]) (st := []) dX10_often_10 hX10_isMonk lkX10_166 ⟨by decide, by decide⟩ (by decide) rfl (by decide) rfl rfl rfl (Nat.le_of_ble_eq_true rfl) rfl (Nat.le_of_ble_eq_true rfl) ⟨Nat.le_refl _, Nat.le_refl _⟩ (tX10_isMonk  (fun hc2 => ?_) (fun hc2 => ?_))
    · have wp := wp.1 hc2
      show am_R E mX10_often 13 [some (.ref 48), some (.int a1), some (.int a2)] [.int 1] (hp I J b) 64 64 Q
      refine am_if_eq dX10_often_13 (tgt := 25) rfl (fun hc => absurd hc (by decide)) (fun _ => ?_)
      refine am_aload_n rfl rfl dX10_often_16 ?_
      refine am_iload_n rfl rfl dX10_often_17 ?_
      refine am_iload_n rfl rfl dX10_often_18 ?_
      refine am_invV (ci := 8) (As := [.int a1, .int a2]) (lsZ := [some (.ref 48), some (.int a1), some (.int a2), none, none]) (st := []) dX10_often_19 hX10_oftenOf lkX10_239 ⟨by decide, by decide⟩ (by decide) rfl (by decide) rfl rfl rfl (Nat.le_of_ble_eq_true rfl) rfl (Nat.le_of_ble_eq_true rfl) ⟨Nat.le_refl _, Nat.le_refl _⟩ (am_R.mono wp (fun r h' q => am_R.forget q trivial))
    · have wp := wp.2 hc2
      show am_R E mX10_often 13 [some (.ref 48), some (.int a1), some (.int a2)] [.int 0] (hp I J b) 64 64 Q
      refine am_if_eq dX10_often_13 (tgt := 25) rfl (fun _ => ?_) (fun hc => absurd hc (by decide))
      refine am_bipush (-2) rfl dX10_often_25 ?_
      exact am_iret dX10_often_27 rfl rfl wp
  · have wp := wp.2 hc1
    show am_R E mX10_often 5 [some (.ref 48), some (.int a1), some (.int a2)] [.int 0] (hp I J b) 64 64 Q
    refine am_if_eq dX10_often_5 (tgt := 25) rfl (fun _ => ?_) (fun hc => absurd hc (by decide))
    refine am_bipush (-2) rfl dX10_often_25 ?_
    exact am_iret dX10_often_27 rfl rfl wp
theorem bX10_often_22 {E : Nat × (Nat → Int32)} {I : Nat → Nat → Int32} {J : Nat → Nat → Int64} {b : Bool} {x0 : Int32} {Q : Option Value → am_H → Prop}  (wp : Q (some (.int x0)) (hp I J b)) : am_R E mX10_often 22 [none, none, none] [.int x0] (hp I J b) 64 64 Q := by
  refine am_goto dX10_often_22 (tgt := 27) rfl ?_
  exact am_iret dX10_often_27 rfl rfl wp
theorem p_often (hI : Inv I n) (a1 a2 : Int32) : Pair E mX9_often mX10_often [some (.ref 0), some (.int a1), some (.int a2)] [some (.ref 48), some (.int a1), some (.int a2)] I J b := by
  have hI0 := hI
  obtain ⟨hM, hC⟩ := hI
  obtain ⟨⟨n0, n2, n7⟩, -, -, -, -, -, hD, -⟩ := hM
  obtain ⟨⟨e0, -, cs, cl, cm⟩, -, -, -, -, c5, -⟩ := hC
  obtain ⟨D, hD1, hD2⟩ := hD.2.2.2
  have e3 : I 9 3 = nI D := c5.2.1.trans hD2
  by_cases hk : 0 ≤ a1 ∧ a1 < nI n
  · have hk' := (in_mod (by omega) n7).mpr hk
    by_cases hj : 0 ≤ a2 ∧ a2 < nI n
    · have hj' := (in_mod (by omega) n7).mpr hj
      obtain ⟨m, hm, rfl⟩ := in_cls n7 hk
      obtain ⟨d, hd, rfl⟩ := in_cls n7 hj
      refine Pair.same hI0 (.int (nI (ofc (I 55) D m d))) (fun Q h => bX9_often_0 (by rw [e0]; exact ⟨fun _ => ⟨fun _ => tX1_timesOf rfl rfl (by omega) hD1 e3 (fun i hi => c5.2.2.2.2 D hD1 hD2 i hi m hm) (bX9_often_28 h), fun q => absurd hj q⟩, fun q => absurd hk q⟩)) (fun J b Q h => bX10_often_0 (by rw [n0]; exact ⟨fun _ => ⟨fun _ => tX10_oftenOf rfl rfl (by omega) hD1 hD2 (bX10_often_22 h), fun q => absurd hj' q⟩, fun q => absurd hk' q⟩))
    · have hj' : ¬ (0 ≤ a2 ∧ a2 ≤ nI n - 1) := fun q => hj ((in_mod (by omega) n7).mp q)
      exact Pair.same hI0 (.int (-2)) (fun Q h => bX9_often_0 (by rw [e0]; exact ⟨fun _ => ⟨fun q => absurd q hj, fun _ => h⟩, fun q => absurd hk q⟩)) (fun J b Q h => bX10_often_0 (by rw [n0]; exact ⟨fun _ => ⟨fun q => absurd q hj', fun _ => h⟩, fun q => absurd hk' q⟩))
  · have hk' : ¬ (0 ≤ a1 ∧ a1 ≤ nI n - 1) := fun q => hk ((in_mod (by omega) n7).mp q)
    exact Pair.same hI0 (.int (-2)) (fun Q h => bX9_often_0 (by rw [e0]; exact ⟨fun q => absurd q hk, fun _ => h⟩)) (fun J b Q h => bX10_often_0 (by rw [n0]; exact ⟨fun q => absurd q hk', fun _ => h⟩))
end P2
