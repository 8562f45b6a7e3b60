/-! ===== pairs of calls: text, counts, what is told ===== -/
def Pair (E : Nat × (Nat → Int32)) (mx mm : am_M) (lx lm : List (Option Value)) (I : Nat → Nat → Int32) (J : Nat → Nat → Int64) (b : Bool) : Prop := ∃ (v : Value) (Mid : (Nat → Nat → Int32) → Prop), (∀ Q : Option Value → am_H → Prop, (∀ I1 J1 b1, Mid I1 → Q (some v) (hp I1 J1 b1)) → am_R E mx 0 lx [] (hp I J b) 64 64 Q) ∧ (∀ I1 J1 b1, Mid I1 → ∀ Q : Option Value → am_H → Prop, (∀ I2 J2 b2 n2, Inv I2 n2 → Q (some v) (hp I2 J2 b2)) → am_R E mm 0 lm [] (hp I1 J1 b1) 64 64 Q)
section P1
variable {E : Nat × (Nat → Int32)} {I : Nat → Nat → Int32} {J : Nat → Nat → Int64} {b : Bool} {n : Nat}
/-- both answer v and change nothing -/
theorem Pair.same {mx mm : am_M} {lx lm : List (Option Value)} (hI : Inv I n) (v : Value) (h1 : ∀ Q : Option Value → am_H → Prop, Q (some v) (hp I J b) → am_R E mx 0 lx [] (hp I J b) 64 64 Q) (h2 : ∀ (J : Nat → Nat → Int64) (b : Bool) (Q : Option Value → am_H → Prop), Q (some v) (hp I J b) → am_R E mm 0 lm [] (hp I J b) 64 64 Q) : Pair E mx mm lx lm I J b :=
  ⟨v, fun I1 => I1 = I, fun Q h => h1 Q (h I J b rfl), fun I1 J1 b1 e Q h => by subst e; exact h2 J1 b1 Q (h _ J1 b1 n hI)⟩
theorem in_cls {a : Int32} (hn : n ≤ 7) (h : 0 ≤ a ∧ a < nI n) : ∃ j, j < n ∧ a = nI j := by
  obtain ⟨j, h1, h2⟩ := nI_of (x := a) (Int32.not_lt.mpr h.1)
  subst h2
  exact ⟨j, (nI_ltI h1 (by omega)).mp h.2, rfl⟩
theorem in_mod {a : Int32} (h1 : 1 ≤ n) (hn : n ≤ 7) : (0 ≤ a ∧ a ≤ nI n - 1) ↔ (0 ≤ a ∧ a < nI n) := by
  have e : nI n - 1 = nI (n - 1) := by rw [show (1 : Int32) = nI 1 from rfl, pk_sub h1]
  rw [e]
  constructor
  · rintro ⟨h0, h⟩
    obtain ⟨j, hj, rfl⟩ := nI_of (x := a) (Int32.not_lt.mpr h0)
    have := (nI_leI hj (by omega)).mp h
    exact ⟨h0, (nI_ltI hj (by omega)).mpr (by omega)⟩
  · rintro ⟨h0, h⟩
    obtain ⟨j, hj, rfl⟩ := nI_of (x := a) (Int32.not_lt.mpr h0)
    have := (nI_ltI hj (by omega)).mp h
    exact ⟨h0, (nI_leI hj (by omega)).mpr (by omega)⟩
theorem bX9_erase_0 {E : Nat × (Nat → Int32)} {I : Nat → Nat → Int32} {J : Nat → Nat → Int64} {b : Bool}  {Q : Option Value → am_H → Prop}  (wp : Q (some (.int (I 1 1))) (hp (u2 I 1 1 0) J b)) : am_R E mX9_erase 0 [some (.ref 0), none] [] (hp I J b) 64 64 Q := by
  refine am_aload_n rfl rfl dX9_erase_0 ?_
  refine am_getA (r := 1) dX9_erase_1 flX9_10 (Or.inl ⟨_, rfl⟩) rfl (by decide) rfl ?_
  refine am_getI dX9_erase_4 flX9_93 (Or.inl rfl) rfl (by decide) ?_
  refine am_istore_n (ls' := [some (.ref 0), some (.int (I 1 1))]) rfl (by decide) rfl rfl dX9_erase_7 ?_
  refine am_aload_n rfl rfl dX9_erase_8 ?_
  refine am_getA (r := 1) dX9_erase_9 flX9_10 (Or.inl ⟨_, rfl⟩) rfl (by decide) rfl ?_
  refine am_iconst 0 rfl dX9_erase_12 ?_
  refine am_putI dX9_erase_13 flX9_93 (Or.inl rfl) rfl rfl (by decide) ?_
  refine am_iload_n rfl rfl dX9_erase_16 ?_
  exact am_iret dX9_erase_17 rfl rfl wp
theorem bX10_erase_0 {E : Nat × (Nat → Int32)} {I : Nat → Nat → Int32} {J : Nat → Nat → Int64} {b : Bool}  {Q : Option Value → am_H → Prop}  (wp : Q (some (.int (I 48 6))) (hp (u2 I 48 6 0) J b)) : am_R E mX10_erase 0 [some (.ref 48), none] [] (hp I J b) 64 64 Q := by
  refine am_aload_n rfl rfl dX10_erase_0 ?_
  refine am_getI dX10_erase_1 flX10_73 (Or.inl rfl) rfl (by decide) ?_
  refine am_istore_n (ls' := [some (.ref 48), some (.int (I 48 6))]) rfl (by decide) rfl rfl dX10_erase_4 ?_
  refine am_aload_n rfl rfl dX10_erase_5 ?_
  refine am_iconst 0 rfl dX10_erase_6 ?_
  refine am_putI dX10_erase_7 flX10_73 (Or.inl rfl) rfl rfl (by decide) ?_
  refine am_iload_n rfl rfl dX10_erase_10 ?_
  exact am_iret dX10_erase_11 rfl rfl wp
theorem p_erase (hI : Inv I n) : Pair E mX9_erase mX10_erase [some (.ref 0), none] [some (.ref 48), none] I J b := by
  obtain ⟨hM, hC⟩ := hI
  obtain ⟨c1, c2, c3, c4, ⟨L, l1, l2, l3, l4⟩, c5⟩ := hC
  refine ⟨.int (I 1 1), fun I1 => I1 = u2 I 1 1 0, fun Q h => bX9_erase_0 (h _ J b rfl), fun I1 J1 b1 e Q h => ?_⟩
  subst e
  refine bX10_erase_0 ?_
  show Q (some (.int (I 48 6))) _
  rw [l2, ← l3]
  exact h _ J1 b1 n (Inv.text (I := I) ⟨hM, c1, c2, c3, c4, ⟨L, l1, l2, l3, l4⟩, c5⟩ ⟨⟨rfl, rfl, rfl, rfl, rfl, rfl, rfl, rfl, rfl⟩, ⟨rfl, rfl, rfl, rfl, rfl, rfl, rfl, rfl, rfl, rfl, rfl, rfl, rfl, rfl, rfl, rfl⟩, ⟨rfl, rfl, rfl, rfl, rfl, rfl, rfl, rfl, rfl⟩⟩ ⟨0, by omega, rfl, rfl, fun j hj => by omega⟩)
theorem bX9_count_0 {E : Nat × (Nat → Int32)} {I : Nat → Nat → Int32} {J : Nat → Nat → Int64} {b : Bool} {a1 : Int32} {Q : Option Value → am_H → Prop}  (wp : ((a1 = 0 → Q (some (.int (I 4 0))) (hp I J b)) ∧ (a1 = 1 → Q (some (.int (I 4 1))) (hp I J b)) ∧ (a1 = 2 → Q (some (.int (I 9 3))) (hp I J b)) ∧ (a1 = 3 → Q (some (.int (I 1 1))) (hp I J b)) ∧ (a1 = 4 → (((I 9 0) = 0 → Q (some (.int 0)) (hp I J b)) ∧ (¬ (I 9 0) = 0 → Q (some (.int 1)) (hp I J b)))) ∧ (¬ a1 = 0 → ¬ a1 = 1 → ¬ a1 = 2 → ¬ a1 = 3 → ¬ a1 = 4 → Q (some (.int (-3))) (hp I J b)))) : am_R E mX9_count 0 [some (.ref 0), some (.int a1)] [] (hp I J b) 64 64 Q := by
  refine am_iload_n rfl rfl dX9_count_0 ?_
  have wq1 := wp
  by_cases hs1_0 : a1 = 0
  · have wp := wq1.1 hs1_0
    refine am_tabC 0 dX9_count_1 hs1_0 (by decide) (by decide) rfl (tgt := 36) rfl ?_
    refine am_aload_n rfl rfl dX9_count_36 ?_
    refine am_getA (r := 4) dX9_count_37 flX9_19 (Or.inl ⟨_, rfl⟩) rfl (by decide) rfl ?_
    refine am_getI dX9_count_40 flX9_102 (Or.inl rfl) rfl (by decide) ?_
    exact am_iret dX9_count_43 rfl rfl wp
  by_cases hs1_1 : a1 = 1
  · have wp := wq1.2.1 hs1_1
    refine am_tabC 1 dX9_count_1 hs1_1 (by decide) (by decide) rfl (tgt := 44) rfl ?_
    refine am_aload_n rfl rfl dX9_count_44 ?_
    refine am_getA (r := 4) dX9_count_45 flX9_19 (Or.inl ⟨_, rfl⟩) rfl (by decide) rfl ?_
    refine am_getI dX9_count_48 flX9_167 (Or.inl rfl) rfl (by decide) ?_
    exact am_iret dX9_count_51 rfl rfl wp
  by_cases hs1_2 : a1 = 2
  · have wp := wq1.2.2.1 hs1_2
    refine am_tabC 2 dX9_count_1 hs1_2 (by decide) (by decide) rfl (tgt := 52) rfl ?_
    refine am_aload_n rfl rfl dX9_count_52 ?_
    refine am_getA (r := 9) dX9_count_53 flX9_26 (Or.inl ⟨_, rfl⟩) rfl (by decide) rfl ?_
    refine am_getI dX9_count_56 flX9_186 (Or.inl rfl) rfl (by decide) ?_
    exact am_iret dX9_count_59 rfl rfl wp
  by_cases hs1_3 : a1 = 3
  · have wp := wq1.2.2.2.1 hs1_3
    refine am_tabC 3 dX9_count_1 hs1_3 (by decide) (by decide) rfl (tgt := 60) rfl ?_
    refine am_aload_n rfl rfl dX9_count_60 ?_
    refine am_getA (r := 1) dX9_count_61 flX9_10 (Or.inl ⟨_, rfl⟩) rfl (by decide) rfl ?_
    refine am_getI dX9_count_64 flX9_93 (Or.inl rfl) rfl (by decide) ?_
    exact am_iret dX9_count_67 rfl rfl wp
  by_cases hs1_4 : a1 = 4
  · have wp := wq1.2.2.2.2.1 hs1_4
    refine am_tabC 4 dX9_count_1 hs1_4 (by decide) (by decide) rfl (tgt := 68) rfl ?_
    refine am_aload_n rfl rfl dX9_count_68 ?_
    refine am_getA (r := 9) dX9_count_69 flX9_26 (Or.inl ⟨_, rfl⟩) rfl (by decide) rfl ?_
    refine am_getI dX9_count_72 flX9_160 (Or.inr rfl) rfl (by decide) ?_
    refine am_if_eq dX9_count_75 (tgt := 82) rfl (fun hc2 => ?_) (fun hc2 => ?_)
    · have wp := wp.1 hc2
      refine am_iconst 0 rfl dX9_count_82 ?_
      exact am_iret dX9_count_83 rfl rfl wp
    · have wp := wp.2 hc2
      refine am_iconst 1 rfl dX9_count_78 ?_
      refine am_goto dX9_count_79 (tgt := 83) rfl ?_
      exact am_iret dX9_count_83 rfl rfl wp
  have wp := wq1.2.2.2.2.2 hs1_0 hs1_1 hs1_2 hs1_3 hs1_4
  have hz1_0 : a1.toInt ≠ 0 := am_ne hs1_0
  have hz1_1 : a1.toInt ≠ 1 := am_ne hs1_1
  have hz1_2 : a1.toInt ≠ 2 := am_ne hs1_2
  have hz1_3 : a1.toInt ≠ 3 := am_ne hs1_3
  have hz1_4 : a1.toInt ≠ 4 := am_ne hs1_4
  show am_R E mX9_count 1 [some (.ref 0), some (.int a1)] [.int a1] (hp I J b) 64 64 Q
  refine am_tabOut dX9_count_1 (by omega) (tgt := 84) rfl ?_
  refine am_bipush (-3) rfl dX9_count_84 ?_
  exact am_iret dX9_count_86 rfl rfl wp
theorem bX10_count_0 {E : Nat × (Nat → Int32)} {I : Nat → Nat → Int32} {J : Nat → Nat → Int64} {b : Bool} {a1 : Int32} {Q : Option Value → am_H → Prop}  (wp : ((a1 = 0 → Q (some (.int (I 48 0))) (hp I J b)) ∧ (a1 = 1 → Q (some (.int (I 48 1))) (hp I J b)) ∧ (a1 = 2 → Q (some (.int (I 55 15))) (hp I J b)) ∧ (a1 = 3 → Q (some (.int (I 48 6))) (hp I J b)) ∧ (a1 = 4 → Q (some (.int (I 55 0))) (hp I J b)) ∧ (¬ a1 = 0 → ¬ a1 = 1 → ¬ a1 = 2 → ¬ a1 = 3 → ¬ a1 = 4 → Q (some (.int (-3))) (hp I J b)))) : am_R E mX10_count 0 [some (.ref 48), some (.int a1)] [] (hp I J b) 64 64 Q := by
  refine am_iload_n rfl rfl dX10_count_0 ?_
  have wq1 := wp
  by_cases hs1_0 : a1 = 0
  · have wp := wq1.1 hs1_0
    refine am_tabC 0 dX10_count_1 hs1_0 (by decide) (by decide) rfl (tgt := 36) rfl ?_
    refine am_aload_n rfl rfl dX10_count_36 ?_
    refine am_getI dX10_count_37 flX10_7 (Or.inl rfl) rfl (by decide) ?_
    exact am_iret dX10_count_40 rfl rfl wp
  by_cases hs1_1 : a1 = 1
  · have wp := wq1.2.1 hs1_1
    refine am_tabC 1 dX10_count_1 hs1_1 (by decide) (by decide) rfl (tgt := 41) rfl ?_
    refine am_aload_n rfl rfl dX10_count_41 ?_
    refine am_getI dX10_count_42 flX10_13 (Or.inl rfl) rfl (by decide) ?_
    exact am_iret dX10_count_45 rfl rfl wp
  by_cases hs1_2 : a1 = 2
  · have wp := wq1.2.2.1 hs1_2
    refine am_tabC 2 dX10_count_1 hs1_2 (by decide) (by decide) rfl (tgt := 46) rfl ?_
    refine am_aload_n rfl rfl dX10_count_46 ?_
    refine am_getA (r := 55) dX10_count_47 flX10_35 (Or.inr ⟨_, rfl⟩) rfl (by decide) rfl ?_
    refine am_bipush 15 rfl dX10_count_50 ?_
    refine am_ialdN (j := 15) dX10_count_52 rfl (by decide) rfl (by decide) (by decide) ?_
    exact am_iret dX10_count_53 rfl rfl wp
  by_cases hs1_3 : a1 = 3
  · have wp := wq1.2.2.2.1 hs1_3
    refine am_tabC 3 dX10_count_1 hs1_3 (by decide) (by decide) rfl (tgt := 54) rfl ?_
    refine am_aload_n rfl rfl dX10_count_54 ?_
    refine am_getI dX10_count_55 flX10_73 (Or.inl rfl) rfl (by decide) ?_
    exact am_iret dX10_count_58 rfl rfl wp
  by_cases hs1_4 : a1 = 4
  · have wp := wq1.2.2.2.2.1 hs1_4
    refine am_tabC 4 dX10_count_1 hs1_4 (by decide) (by decide) rfl (tgt := 59) rfl ?_
    refine am_aload_n rfl rfl dX10_count_59 ?_
    refine am_getA (r := 55) dX10_count_60 flX10_35 (Or.inr ⟨_, rfl⟩) rfl (by decide) rfl ?_
    refine am_iconst 0 rfl dX10_count_63 ?_
    refine am_ialdN (j := 0) dX10_count_64 rfl (by decide) rfl (by decide) (by decide) ?_
    exact am_iret dX10_count_65 rfl rfl wp
  have wp := wq1.2.2.2.2.2 hs1_0 hs1_1 hs1_2 hs1_3 hs1_4
  have hz1_0 : a1.toInt ≠ 0 := am_ne hs1_0
  have hz1_1 : a1.toInt ≠ 1 := am_ne hs1_1
  have hz1_2 : a1.toInt ≠ 2 := am_ne hs1_2
  have hz1_3 : a1.toInt ≠ 3 := am_ne hs1_3
  have hz1_4 : a1.toInt ≠ 4 := am_ne hs1_4
  show am_R E mX10_count 1 [some (.ref 48), some (.int a1)] [.int a1] (hp I J b) 64 64 Q
  refine am_tabOut dX10_count_1 (by omega) (tgt := 66) rfl ?_
  refine am_bipush (-3) rfl dX10_count_66 ?_
  exact am_iret dX10_count_68 rfl rfl wp
theorem p_count (hI : Inv I n) (a1 : Int32) : Pair E mX9_count mX10_count [some (.ref 0), some (.int a1)] [some (.ref 48), some (.int a1)] I J b := by
  have hI0 := hI
  obtain ⟨hM, hC⟩ := hI
  obtain ⟨c1, c2, c3, c4, ⟨L, l1, l2, l3, l4⟩, c5, c6⟩ := hC
  have d0 := hM.2.2.2.2.2.2.1.1
  by_cases h0 : a1 = 0
  · refine Pair.same hI0 (.int (I 48 0)) (fun Q h => bX9_count_0 ⟨fun _ => ?_, fun q => ?_, fun q => ?_, fun q => ?_, fun q => ?_, fun q => ?_⟩) (fun J b Q h => bX10_count_0 ⟨fun _ => h, fun q => ?_, fun q => ?_, fun q => ?_, fun q => ?_, fun q => ?_⟩)
    · rw [c1.1, ← hM.1.1]; exact h
    all_goals first | exact absurd h0 q | (rw [h0] at q; exact absurd q (by decide))
  by_cases h1 : a1 = 1
  · refine Pair.same hI0 (.int (I 48 1)) (fun Q h => bX9_count_0 ⟨fun q => ?_, fun _ => ?_, fun q => ?_, fun q => ?_, fun q => ?_, fun _ q => ?_⟩) (fun J b Q h => bX10_count_0 ⟨fun q => ?_, fun _ => h, fun q => ?_, fun q => ?_, fun q => ?_, fun _ q => ?_⟩)
    all_goals first | exact absurd h1 q | (rw [h1] at q; exact absurd q (by decide)) | (rw [c2]; exact h)
  by_cases h2 : a1 = 2
  · refine Pair.same hI0 (.int (I 55 15)) (fun Q h => bX9_count_0 ⟨fun q => ?_, fun q => ?_, fun _ => ?_, fun q => ?_, fun q => ?_, fun _ _ q => ?_⟩) (fun J b Q h => bX10_count_0 ⟨fun q => ?_, fun q => ?_, fun _ => h, fun q => ?_, fun q => ?_, fun _ _ q => ?_⟩)
    all_goals first | exact absurd h2 q | (rw [h2] at q; exact absurd q (by decide)) | (rw [c5.2.1]; exact h)
  by_cases h3 : a1 = 3
  · refine Pair.same hI0 (.int (I 48 6)) (fun Q h => bX9_count_0 ⟨fun q => ?_, fun q => ?_, fun q => ?_, fun _ => ?_, fun q => ?_, fun _ _ _ q => ?_⟩) (fun J b Q h => bX10_count_0 ⟨fun q => ?_, fun q => ?_, fun q => ?_, fun _ => h, fun q => ?_, fun _ _ _ q => ?_⟩)
    all_goals first | exact absurd h3 q | (rw [h3] at q; exact absurd q (by decide)) | (rw [l3, ← l2]; exact h)
  by_cases h4 : a1 = 4
  · refine Pair.same hI0 (.int (I 55 0)) (fun Q h => bX9_count_0 ⟨fun q => ?_, fun q => ?_, fun q => ?_, fun q => ?_, fun _ => ?_, fun _ _ _ _ q => ?_⟩) (fun J b Q h => bX10_count_0 ⟨fun q => ?_, fun q => ?_, fun q => ?_, fun q => ?_, fun _ => h, fun _ _ _ _ q => ?_⟩)
    all_goals first | exact absurd h4 q | (rw [h4] at q; exact absurd q (by decide)) | skip
    rw [c5.1]
    rcases d0 with d | d
    · rw [d] at h ⊢; exact z00 rfl h
    · rw [d] at h ⊢; exact z01 rfl h
  · exact Pair.same hI0 (.int (-3)) (fun Q h => bX9_count_0 ⟨fun q => absurd q h0, fun q => absurd q h1, fun q => absurd q h2, fun q => absurd q h3, fun q => absurd q h4, fun _ _ _ _ _ => h⟩) (fun J b Q h => bX10_count_0 ⟨fun q => absurd q h0, fun q => absurd q h1, fun q => absurd q h2, fun q => absurd q h3, fun q => absurd q h4, fun _ _ _ _ _ => h⟩)
theorem bX6_add_0 {E : Nat × (Nat → Int32)} {I : Nat → Nat → Int32} {J : Nat → Nat → Int64} {b : Bool} {a1 : Int32} {Q : Option Value → am_H → Prop}  (wp : ((200 ≤ (I 1 1) → Q none (hp I J b)) ∧ (¬ 200 ≤ (I 1 1) → ∃ j2, (I 1 1) = nI j2 ∧ j2 < 200 ∧ Q none (hp (u2 (u2 I 2 j2 a1) 1 1 ((I 1 1) + 1)) J b)))) : am_R E mX6_add 0 [some (.ref 1), some (.int a1)] [] (hp I J b) 64 64 Q := by
  refine am_aload_n rfl rfl dX6_add_0 ?_
  refine am_getI dX6_add_1 flX6_18 (Or.inl rfl) rfl (by decide) ?_
  refine am_sipush 200 rfl dX6_add_4 ?_
  refine am_icmp_ge dX6_add_7 (tgt := 30) rfl (fun hc1 => ?_) (fun hc1 => ?_)
  · have wp := wp.1 hc1
    exact am_vret dX6_add_30 rfl wp
  · have wp := wp.2 hc1
    refine am_aload_n rfl rfl dX6_add_10 ?_
    refine am_getA (r := 2) dX6_add_11 flX6_9 (Or.inr ⟨_, rfl⟩) rfl (by decide) rfl ?_
    refine am_aload_n rfl rfl dX6_add_14 ?_
    refine am_getI dX6_add_15 flX6_18 (Or.inl rfl) rfl (by decide) ?_
    refine am_iload_n rfl rfl dX6_add_18 ?_
    obtain ⟨j2, e2, w2, wp⟩ := wp
    refine am_iastN (j := j2) dX6_add_19 rfl (by decide) e2 w2 (by decide) ?_
    refine am_aload_n rfl rfl dX6_add_20 ?_
    refine am_dup rfl dX6_add_21 ?_
    refine am_getI dX6_add_22 flX6_18 (Or.inl rfl) rfl (by decide) ?_
    show am_R E mX6_add 25 [some (.ref 1), some (.int a1)] [.int (I 1 1), .ref 1] (hp (u2 I 2 j2 a1) J b) 64 64 Q
    refine am_iconst 1 rfl dX6_add_25 ?_
    refine am_iadd dX6_add_26 ?_
    refine am_putI dX6_add_27 flX6_18 (Or.inl rfl) rfl rfl (by decide) ?_
    exact am_vret dX6_add_30 rfl wp
theorem bX9_write_0 {E : Nat × (Nat → Int32)} {I : Nat → Nat → Int32} {J : Nat → Nat → Int64} {b : Bool} {a1 : Int64} {a3 : Int32} {Q : Option Value → am_H → Prop}  (wp : ((a3 < 1 → Q (some (.int (-3))) (hp I J b)) ∧ (¬ a3 < 1 → ((a3 ≤ 8 → ((((I 1 1) + a3) ≤ 200 → am_R E mX9_write 35 [some (.ref 0), some (.long a1), none, some (.int a3), some (.int 0)] [] (hp I J b) 64 64 Q) ∧ (¬ ((I 1 1) + a3) ≤ 200 → Q (some (.int (-5))) (hp I J b)))) ∧ (¬ a3 ≤ 8 → Q (some (.int (-3))) (hp I J b)))))) : am_R E mX9_write 0 [some (.ref 0), some (.long a1), none, some (.int a3), none] [] (hp I J b) 64 64 Q := by
  refine am_iload_n rfl rfl dX9_write_0 ?_
  refine am_iconst 1 rfl dX9_write_1 ?_
  refine am_icmp_lt dX9_write_2 (tgt := 11) rfl (fun hc1 => ?_) (fun hc1 => ?_)
  · have wp := wp.1 hc1
    refine am_bipush (-3) rfl dX9_write_11 ?_
    exact am_iret dX9_write_13 rfl rfl wp
  · have wp := wp.2 hc1
    refine am_iload_n rfl rfl dX9_write_5 ?_
    refine am_bipush 8 rfl dX9_write_6 ?_
    refine am_icmp_le dX9_write_8 (tgt := 14) rfl (fun hc2 => ?_) (fun hc2 => ?_)
    · have wp := wp.1 hc2
      refine am_aload_n rfl rfl dX9_write_14 ?_
      refine am_getA (r := 1) dX9_write_15 flX9_10 (Or.inl ⟨_, rfl⟩) rfl (by decide) rfl ?_
      refine am_getI dX9_write_18 flX9_93 (Or.inl rfl) rfl (by decide) ?_
      refine am_iload_n rfl rfl dX9_write_21 ?_
      refine am_iadd dX9_write_22 ?_
      refine am_sipush 200 rfl dX9_write_23 ?_
      refine am_icmp_le dX9_write_26 (tgt := 32) rfl (fun hc3 => ?_) (fun hc3 => ?_)
      · have wp := wp.1 hc3
        refine am_iconst 0 rfl dX9_write_32 ?_
        refine am_istore (ls' := [some (.ref 0), some (.long a1), none, some (.int a3), some (.int 0)]) (by decide) rfl rfl dX9_write_33 ?_
        exact am_R.forget wp ⟨rfl, ⟨rfl, ⟨rfl, ⟨rfl, trivial⟩⟩⟩⟩
      · have wp := wp.2 hc3
        refine am_bipush (-5) rfl dX9_write_29 ?_
        exact am_iret dX9_write_31 rfl rfl wp
    · have wp := wp.2 hc2
      refine am_bipush (-3) rfl dX9_write_11 ?_
      exact am_iret dX9_write_13 rfl rfl wp
theorem bX9_write_35 {E : Nat × (Nat → Int32)} {I : Nat → Nat → Int32} {J : Nat → Nat → Int64} {b : Bool} {a1 : Int64} {a3 : Int32} {a4 : Int32} {Q : Option Value → am_H → Prop}  (wp : ((a3 ≤ a4 → Q (some (.int (I 1 1))) (hp I J b)) ∧ (¬ a3 ≤ a4 → am_R E mX6_add 0 [some (.ref 1), some (.int (Int64.toInt32 ((a1 >>> (Int32.toInt64 (8 * a4) &&& 63)) &&& 255)))] [] (hp I J b) 64 64 (fun r h' => am_R E mX9_write 60 [some (.ref 0), some (.long a1), none, some (.int a3), some (.int a4)] (r.toList ++ []) h' 64 64 Q)))) : am_R E mX9_write 35 [some (.ref 0), some (.long a1), none, some (.int a3), some (.int a4)] [] (hp I J b) 64 64 Q := by
  refine am_iload rfl dX9_write_35 ?_
  refine am_iload_n rfl rfl dX9_write_37 ?_
  refine am_icmp_ge dX9_write_38 (tgt := 66) rfl (fun hc1 => ?_) (fun hc1 => ?_)
  · have wp := wp.1 hc1
    refine am_aload_n rfl rfl dX9_write_66 ?_
    refine am_getA (r := 1) dX9_write_67 flX9_10 (Or.inl ⟨_, rfl⟩) rfl (by decide) rfl ?_
    refine am_getI dX9_write_70 flX9_93 (Or.inl rfl) rfl (by decide) ?_
    exact am_iret dX9_write_73 rfl rfl wp
  · have wp := wp.2 hc1
    refine am_aload_n rfl rfl dX9_write_41 ?_
    refine am_getA (r := 1) dX9_write_42 flX9_10 (Or.inl ⟨_, rfl⟩) rfl (by decide) rfl ?_
    refine am_lload_n rfl rfl dX9_write_45 ?_
    refine am_bipush 8 rfl dX9_write_46 ?_
    refine am_iload rfl dX9_write_48 ?_
    refine am_imul dX9_write_50 ?_
    refine am_lshr dX9_write_51 ?_
    refine am_ldc2 255 kcX9_97 dX9_write_52 ?_
    refine am_land dX9_write_55 ?_
    refine am_l2i dX9_write_56 ?_
    refine am_invV (ci := 4) (As := [.int (Int64.toInt32 ((a1 >>> (Int32.toInt64 (8 * a4) &&& 63)) &&& 255))]) (lsZ := [some (.ref 1), some (.int (Int64.toInt32 ((a1 >>> (Int32.toInt64 (8 * a4) &&& 63)) &&& 255)))]) (st := []) dX9_write_57 hX6_add lkX9_99 ⟨by decide, by decide⟩ (by decide) rfl (by decide) rfl rfl rfl (Nat.le_of_ble_eq_true rfl) rfl (Nat.le_of_ble_eq_true rfl) ⟨Nat.le_refl _, Nat.le_refl _⟩ (am_R.mono wp (fun r h' q => am_R.forget q ⟨rfl, ⟨rfl, ⟨rfl, ⟨rfl, trivial⟩⟩⟩⟩))
theorem bX9_write_60 {E : Nat × (Nat → Int32)} {I : Nat → Nat → Int32} {J : Nat → Nat → Int64} {b : Bool} {a1 : Int64} {a3 : Int32} {a4 : Int32} {Q : Option Value → am_H → Prop}  (wp : am_R E mX9_write 35 [some (.ref 0), some (.long a1), none, some (.int a3), some (.int (a4 + 1))] [] (hp I J b) 64 64 Q) : am_R E mX9_write 60 [some (.ref 0), some (.long a1), none, some (.int a3), some (.int a4)] [] (hp I J b) 64 64 Q := by
  refine am_iinc (ls' := [some (.ref 0), some (.long a1), none, some (.int a3), some (.int (a4 + 1))]) (by decide) rfl rfl rfl dX9_write_60 ?_
  refine am_goto dX9_write_63 (tgt := 35) rfl ?_
  exact am_R.forget wp ⟨rfl, ⟨rfl, ⟨rfl, ⟨rfl, trivial⟩⟩⟩⟩
theorem bX10_write_0 {E : Nat × (Nat → Int32)} {I : Nat → Nat → Int32} {J : Nat → Nat → Int64} {b : Bool} {a1 : Int64} {a3 : Int32} {Q : Option Value → am_H → Prop}  (wp : (((1 ≤ a3 ∧ a3 ≤ 8) → ((((I 48 6) + a3) ≤ 200 → am_R E mX10_write 31 [some (.ref 48), some (.long a1), none, some (.int a3), some (.int 0)] [] (hp I J b) 64 64 Q) ∧ (¬ ((I 48 6) + a3) ≤ 200 → Q (some (.int (-5))) (hp I J b)))) ∧ (¬ (1 ≤ a3 ∧ a3 ≤ 8) → Q (some (.int (-3))) (hp I J b)))) : am_R E mX10_write 0 [some (.ref 48), some (.long a1), none, some (.int a3), none] [] (hp I J b) 64 64 Q := by
  refine am_iload_n rfl rfl dX10_write_0 ?_
  refine am_iconst 1 rfl dX10_write_1 ?_
  refine am_bipush 8 rfl dX10_write_2 ?_
  refine am_invS (As := [.int a3, .int 1, .int 8]) (lsZ := [some (.int a3), some (.int 1), some (.int 8)]) (st := []) dX10_write_4 hX10_in lkX10_69 ⟨by decide, by decide⟩ rfl rfl (Nat.le_of_ble_eq_true rfl) rfl (Nat.le_of_ble_eq_true rfl) ⟨Nat.le_refl _, Nat.le_refl _⟩ (tX10_in  (fun hc1 => ?_) (fun hc1 => ?_))
  · have wp := wp.1 hc1
    show am_R E mX10_write 7 [some (.ref 48), some (.long a1), none, some (.int a3), none] [.int 1] (hp I J b) 64 64 Q
    refine am_if_ne dX10_write_7 (tgt := 13) rfl (fun _ => ?_) (fun hc => absurd hc (by decide))
    refine am_aload_n rfl rfl dX10_write_13 ?_
    refine am_getI dX10_write_14 flX10_73 (Or.inl rfl) rfl (by decide) ?_
    refine am_iload_n rfl rfl dX10_write_17 ?_
    refine am_iadd dX10_write_18 ?_
    refine am_sipush 200 rfl dX10_write_19 ?_
    refine am_icmp_le dX10_write_22 (tgt := 28) rfl (fun hc2 => ?_) (fun hc2 => ?_)
    · have wp := wp.1 hc2
      refine am_iconst 0 rfl dX10_write_28 ?_
      refine am_istore (ls' := [some (.ref 48), some (.long a1), none, some (.int a3), some (.int 0)]) (by decide) rfl rfl dX10_write_29 ?_
      exact am_R.forget wp ⟨rfl, ⟨rfl, ⟨rfl, ⟨rfl, trivial⟩⟩⟩⟩
    · have wp := wp.2 hc2
      refine am_bipush (-5) rfl dX10_write_25 ?_
      exact am_iret dX10_write_27 rfl rfl wp
  · have wp := wp.2 hc1
    show am_R E mX10_write 7 [some (.ref 48), some (.long a1), none, some (.int a3), none] [.int 0] (hp I J b) 64 64 Q
    refine am_if_ne dX10_write_7 (tgt := 13) rfl (fun hc => absurd hc (by decide)) (fun _ => ?_)
    refine am_bipush (-3) rfl dX10_write_10 ?_
    exact am_iret dX10_write_12 rfl rfl wp
theorem bX10_write_31 {E : Nat × (Nat → Int32)} {I : Nat → Nat → Int32} {J : Nat → Nat → Int64} {b : Bool} {a1 : Int64} {a3 : Int32} {a4 : Int32} {Q : Option Value → am_H → Prop}  (wp : ((a3 ≤ a4 → Q (some (.int ((I 48 6) + a3))) (hp (u2 I 48 6 ((I 48 6) + a3)) J b)) ∧ (¬ a3 ≤ a4 → ∃ j2, ((I 48 6) + a4) = nI j2 ∧ j2 < 200 ∧ am_R E mX10_write 31 [some (.ref 48), some (.long a1), none, some (.int a3), some (.int (a4 + 1))] [] (hp (u2 I 53 j2 (Int64.toInt32 ((a1 >>> (Int32.toInt64 (8 * a4) &&& 63)) &&& 255))) J b) 64 64 Q))) : am_R E mX10_write 31 [some (.ref 48), some (.long a1), none, some (.int a3), some (.int a4)] [] (hp I J b) 64 64 Q := by
  refine am_iload rfl dX10_write_31 ?_
  refine am_iload_n rfl rfl dX10_write_33 ?_
  refine am_icmp_ge dX10_write_34 (tgt := 67) rfl (fun hc1 => ?_) (fun hc1 => ?_)
  · have wp := wp.1 hc1
    refine am_aload_n rfl rfl dX10_write_67 ?_
    refine am_dup rfl dX10_write_68 ?_
    refine am_getI dX10_write_69 flX10_73 (Or.inl rfl) rfl (by decide) ?_
    refine am_iload_n rfl rfl dX10_write_72 ?_
    refine am_iadd dX10_write_73 ?_
    refine am_putI dX10_write_74 flX10_73 (Or.inl rfl) rfl rfl (by decide) ?_
    refine am_aload_n rfl rfl dX10_write_77 ?_
    refine am_getI dX10_write_78 flX10_73 (Or.inl rfl) rfl (by decide) ?_
    show am_R E mX10_write 81 [some (.ref 48), some (.long a1), none, some (.int a3), some (.int a4)] [.int ((I 48 6) + a3)] (hp (u2 I 48 6 ((I 48 6) + a3)) J b) 64 64 Q
    exact am_iret dX10_write_81 rfl rfl wp
  · have wp := wp.2 hc1
    refine am_aload_n rfl rfl dX10_write_37 ?_
    refine am_getA (r := 53) dX10_write_38 flX10_29 (Or.inr ⟨_, rfl⟩) rfl (by decide) rfl ?_
    refine am_aload_n rfl rfl dX10_write_41 ?_
    refine am_getI dX10_write_42 flX10_73 (Or.inl rfl) rfl (by decide) ?_
    refine am_iload rfl dX10_write_45 ?_
    refine am_iadd dX10_write_47 ?_
    refine am_lload_n rfl rfl dX10_write_48 ?_
    refine am_bipush 8 rfl dX10_write_49 ?_
    refine am_iload rfl dX10_write_51 ?_
    refine am_imul dX10_write_53 ?_
    refine am_lshr dX10_write_54 ?_
    refine am_ldc2 255 kcX10_76 dX10_write_55 ?_
    refine am_land dX10_write_58 ?_
    refine am_l2i dX10_write_59 ?_
    obtain ⟨j2, e2, w2, wp⟩ := wp
    refine am_iastN (j := j2) dX10_write_60 rfl (by decide) e2 w2 (by decide) ?_
    refine am_iinc (ls' := [some (.ref 48), some (.long a1), none, some (.int a3), some (.int (a4 + 1))]) (by decide) rfl rfl rfl dX10_write_61 ?_
    refine am_goto dX10_write_64 (tgt := 31) rfl ?_
    exact am_R.forget wp ⟨rfl, ⟨rfl, ⟨rfl, ⟨rfl, trivial⟩⟩⟩⟩
def wby (a1 : Int64) (i : Nat) : Int32 := Int64.toInt32 ((a1 >>> (Int32.toInt64 (8 * nI i) &&& 63)) &&& 255)
theorem p_write (hI : Inv I n) (a1 : Int64) (a3 : Int32) : Pair E mX9_write mX10_write [some (.ref 0), some (.long a1), none, some (.int a3), none] [some (.ref 48), some (.long a1), none, some (.int a3), none] I J b := by
  have hI0 := hI
  obtain ⟨hM, hC⟩ := hI
  obtain ⟨c1, c2, c3, c4, ⟨L, l1, l2, l3, l4⟩, c5⟩ := hC
  by_cases hk : 1 ≤ a3 ∧ a3 ≤ 8
  · obtain ⟨k, hk1, hk2⟩ := nI_of2 (x := a3) (M := 8) (n := 8) (by decide) (fun q => by
      have := Int32.lt_iff_toInt_lt.mp q
      have h1 := Int32.le_iff_toInt_le.mp hk.1
      simp at this h1; omega) hk.2
    subst hk2
    have k1 : 1 ≤ k := (nI_leI (a := 1) (by omega) (by omega)).mp hk.1
    have eL : nI L + nI k = nI (L + k) := nI_add _ _
    by_cases hf : L + k ≤ 200
    · refine ⟨.int (nI (L + k)), fun I1 => I1 = u2 (u1 I 2 (va_cpy (wby a1) (I 2) 0 L k)) 1 1 (nI (L + k)), fun Q h => ?_, fun I1 J1 b1 e Q h => ?_⟩
      · refine bX9_write_0 (lt_br (n := k) (m := 1) rfl rfl (by omega) (by omega) (fun q => by omega) (fun _ => le_br (m := 8) rfl rfl (by omega) (by omega) (fun _ => le_br (n := L + k) (m := 200) (by rw [l3]; exact eL) rfl (by omega) (by omega) (fun _ => ?_) (fun q => by omega)) (fun q => by omega)))
        have := lp_up (n := k) (P := fun i => am_R E mX9_write 35 [some (.ref 0), some (.long a1), none, some (.int (nI k)), some (.int (nI i))] [] (hp (u2 (u1 I 2 (va_cpy (wby a1) (I 2) 0 L i)) 1 1 (nI (L + i))) J b) 64 64 Q) ?_ ?_
        · rw [cpy_0, u1_self, Nat.add_zero, ← l3] at this
          have e : u2 I 1 1 (I 1 1) = I := by
            rw [u2_eq]
            have : upd (I 1) 1 (I 1 1) = I 1 := by funext j; unfold upd; by_cases e : j = 1 <;> simp [e]
            rw [this, u1_self]
          rw [e] at this
          exact this
        · exact bX9_write_35 (le_br rfl rfl (by omega) (by omega) (fun _ => h _ J b rfl) (fun q => by omega))
        · intro i hi ih
          refine bX9_write_35 (le_br rfl rfl (by omega) (by omega) (fun q => by omega) (fun _ => ?_))
          refine bX6_add_0 (le_br (n := 200) (m := L + i) rfl rfl (by omega) (by omega) (fun q => by omega) (fun _ => ⟨L + i, rfl, by omega, ?_⟩))
          refine bX9_write_60 ?_
          rw [n1]
          have e : u2 (u2 (u2 (u1 I 2 (va_cpy (wby a1) (I 2) 0 L i)) 1 1 (nI (L + i))) 2 (L + i) (wby a1 i)) 1 1 (nI (L + i) + 1) = u2 (u1 I 2 (va_cpy (wby a1) (I 2) 0 L (i + 1))) 1 1 (nI (L + (i + 1))) := by
            have s := cpy_s (wby a1) (I 2) 0 L i
            rw [Nat.zero_add] at s
            rw [n1, ← s]
            funext a
            by_cases e1 : a = 1
            · subst e1
              rw [u2_s, u2_s, u2_n _ _ _ (by decide), u2_s, upd_upd, u1_n _ _ (by decide), u1_n _ _ (by decide)]; rfl
            · rw [u2_n _ _ _ e1, u2_n _ _ _ e1]
              by_cases e2 : a = 2
              · subst e2
                rw [u2_s, u1_s, u2_n _ _ _ (by decide), u1_s]
              · rw [u2_n _ _ _ e2, u2_n _ _ _ e1, u1_n _ _ e2, u1_n _ _ e2]
          have ih' := ih
          rw [← e] at ih'
          exact ih'
      · subst e
        refine bX10_write_0 ⟨fun _ => le_br (n := L + k) (m := 200) (by show I 48 6 + _ = _; rw [l2]; exact eL) rfl (by omega) (by omega) (fun _ => ?_) (fun q => by omega), fun q => absurd hk q⟩
        generalize hG : u2 (u1 I 2 (va_cpy (wby a1) (I 2) 0 L k)) 1 1 (nI (L + k)) = G at h ⊢
        have g48 : G 48 = I 48 := by rw [← hG]; rfl
        have := lp_up (n := k) (P := fun i => am_R E mX10_write 31 [some (.ref 48), some (.long a1), none, some (.int (nI k)), some (.int (nI i))] [] (hp (u1 G 53 (va_cpy (wby a1) (G 53) 0 L i)) J1 b1) 64 64 Q) ?_ ?_
        · rw [cpy_0, u1_self] at this
          exact this
        · refine bX10_write_31 (le_br rfl rfl (by omega) (by omega) (fun _ => ?_) (fun q => by omega))
          rw [u1_n _ _ (by decide), g48, l2, eL]
          refine h _ J1 b1 n ?_
          · rw [← hG]
            refine Inv.text hI0 ⟨⟨rfl, rfl, rfl, rfl, rfl, rfl, rfl, rfl, rfl⟩, ⟨rfl, rfl, rfl, rfl, rfl, rfl, rfl, rfl, rfl, rfl, rfl, rfl, rfl, rfl, rfl, rfl⟩, ⟨rfl, rfl, rfl, rfl, rfl, rfl, rfl, rfl, rfl⟩⟩ ⟨L + k, hf, rfl, rfl, fun j hj => ?_⟩
            show va_cpy (wby a1) (I 2) 0 L k j = va_cpy (wby a1) (I 53) 0 L k j
            unfold va_cpy
            by_cases q : L ≤ j ∧ j < L + k
            · rw [if_pos q, if_pos q]
            · rw [if_neg q, if_neg q]; exact l4 j (by omega)
        · intro i hi ih
          refine bX10_write_31 (le_br rfl rfl (by omega) (by omega) (fun q => by omega) (fun _ => ⟨L + i, by rw [u1_n _ _ (by decide), g48, l2]; exact nI_add _ _, by omega, ?_⟩))
          rw [n1, u2_u1]
          have s := cpy_s (wby a1) (G 53) 0 L i
          rw [Nat.zero_add] at s
          rw [← s] at ih
          exact ih
    · refine Pair.same hI0 (.int (-5)) (fun Q h => bX9_write_0 (lt_br (n := k) (m := 1) rfl rfl (by omega) (by omega) (fun q => by omega) (fun _ => le_br (m := 8) rfl rfl (by omega) (by omega) (fun _ => le_br (n := L + k) (m := 200) (by rw [l3]; exact eL) rfl (by omega) (by omega) (fun q => by omega) (fun _ => h)) (fun q => by omega)))) (fun J b Q h => bX10_write_0 ⟨fun _ => le_br (n := L + k) (m := 200) (by rw [l2]; exact eL) rfl (by omega) (by omega) (fun q => by omega) (fun _ => h), fun q => absurd hk q⟩)
  · refine Pair.same hI0 (.int (-3)) (fun Q h => bX9_write_0 ⟨fun _ => h, fun h1 => ⟨fun h2 => absurd ⟨nlt h1, h2⟩ hk, fun _ => h⟩⟩) (fun J b Q h => bX10_write_0 ⟨fun q => absurd q hk, fun _ => h⟩)
end P1
