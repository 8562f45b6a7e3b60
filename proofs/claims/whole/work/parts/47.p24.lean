/-! ===== pair: hall ===== -/
section P24
variable {E : Nat × (Nat → Int32)} {I I0 I' I2 : Nat → Nat → Int32} {J J' : Nat → Nat → Int64} {b : Bool} {n : Nat} {Q : Option Value → am_H → Prop}
variable {T : Nat → Int32} {L p : Nat}
theorem bX2_obey_0 {E : Nat × (Nat → Int32)} {I : Nat → Nat → Int32} {J : Nat → Nat → Int64} {b : Bool} {a2 : Int32} {Q : Option Value → am_H → Prop}  (wp : ∃ j1, a2 = nI j1 ∧ j1 < 56 ∧ ∃ j2, (a2 + 1) = nI j2 ∧ j2 < 56 ∧ (((I 3 j1) = 0 → am_R E mX2_open 0 [some (.ref 4), some (.int (I 3 j2)), none] [] (hp I J b) 64 64 (fun r h' => am_R E mX2_obey 70 [none, none, none, none, none] (r.toList ++ []) h' 64 64 Q)) ∧ ((I 3 j1) = 1 → ∃ j4, (I 3 j2) = nI j4 ∧ j4 < 7 ∧ Q none (hp (u2 I 7 j4 (I 3 j1)) J b)) ∧ ((I 3 j1) = 2 → ∃ j5, (I 3 j2) = nI j5 ∧ j5 < 7 ∧ Q none (hp (u2 I 7 j5 (I 3 j1)) J b)) ∧ ((I 3 j1) = 3 → ∃ j6, (I 3 j2) = nI j6 ∧ j6 < 7 ∧ Q none (hp (u2 I 7 j6 (I 3 j1)) J b)) ∧ ((I 3 j1) = 4 → ∃ j7, (I 3 j2) = nI j7 ∧ j7 < 7 ∧ Q none (hp (u2 I 7 j7 (I 3 j1)) J b)) ∧ ((I 3 j1) = 5 → ∃ j8, (a2 + 2) = nI j8 ∧ j8 < 56 ∧ ∃ j9, (a2 + 3) = nI j9 ∧ j9 < 56 ∧ ∃ j10, (((I 3 j2) * 7) + (I 3 j8)) = nI j10 ∧ j10 < 49 ∧ Q none (hp (u2 I 5 j10 (I 3 j9)) J b)) ∧ ((I 3 j1) = 6 → ∃ j11, (a2 + 2) = nI j11 ∧ j11 < 56 ∧ ∃ j12, (a2 + 3) = nI j12 ∧ j12 < 56 ∧ ∃ j13, (((I 3 j2) * 7) + (I 3 j11)) = nI j13 ∧ j13 < 49 ∧ Q none (hp (u2 I 6 j13 (I 3 j12)) J b)) ∧ ((I 3 j1) = 7 → Q none (hp (u2 I 4 1 (I 3 j2)) J b)) ∧ ((I 3 j1) = 8 → ∃ j14, (a2 + 2) = nI j14 ∧ j14 < 56 ∧ ∃ j15, (I 3 j2) = nI j15 ∧ j15 < 7 ∧ Q none (hp (u2 I 8 j15 (I 3 j14)) J b)) ∧ (¬ (I 3 j1) = 0 → ¬ (I 3 j1) = 1 → ¬ (I 3 j1) = 2 → ¬ (I 3 j1) = 3 → ¬ (I 3 j1) = 4 → ¬ (I 3 j1) = 5 → ¬ (I 3 j1) = 6 → ¬ (I 3 j1) = 7 → ¬ (I 3 j1) = 8 → ∃ j16, (I 3 j2) = nI j16 ∧ j16 < 7 ∧ Q none (hp (u2 I 7 j16 (I 3 j1)) J b)))) : am_R E mX2_obey 0 [some (.ref 4), some (.ref 3), some (.int a2), none, none] [] (hp I J b) 64 64 Q := by
  refine am_aload_n rfl rfl dX2_obey_0 ?_
  refine am_iload_n rfl rfl dX2_obey_1 ?_
  obtain ⟨j1, e1, w1, wp⟩ := wp
  refine am_ialdN (j := j1) dX2_obey_2 rfl (by decide) e1 w1 (by decide) ?_
  refine am_istore_n (ls' := [some (.ref 4), some (.ref 3), some (.int a2), some (.int (I 3 j1)), none]) rfl (by decide) rfl rfl dX2_obey_3 ?_
  refine am_aload_n rfl rfl dX2_obey_4 ?_
  refine am_iload_n rfl rfl dX2_obey_5 ?_
  refine am_iconst 1 rfl dX2_obey_6 ?_
  refine am_iadd dX2_obey_7 ?_
  obtain ⟨j2, e2, w2, wp⟩ := wp
  refine am_ialdN (j := j2) dX2_obey_8 rfl (by decide) e2 w2 (by decide) ?_
  refine am_istore (ls' := [some (.ref 4), some (.ref 3), some (.int a2), some (.int (I 3 j1)), some (.int (I 3 j2))]) (by decide) rfl rfl dX2_obey_9 ?_
  refine am_iload_n rfl rfl dX2_obey_11 ?_
  have wq3 := wp
  by_cases hs3_0 : (I 3 j1) = 0
  · have wp := wq3.1 hs3_0
    refine am_tabC 0 dX2_obey_12 hs3_0 (by decide) (by decide) rfl (tgt := 64) rfl ?_
    refine am_aload_n rfl rfl dX2_obey_64 ?_
    refine am_iload rfl dX2_obey_65 ?_
    refine am_invV (ci := 1) (As := [.int (I 3 j2)]) (lsZ := [some (.ref 4), some (.int (I 3 j2)), none]) (st := []) dX2_obey_67 hX2_open lkX2_31 ⟨by decide, by decide⟩ (by decide) rfl (by decide) rfl rfl rfl (Nat.le_of_ble_eq_true rfl) rfl (Nat.le_of_ble_eq_true rfl) ⟨Nat.le_refl _, Nat.le_refl _⟩ (am_R.mono wp (fun r h' q => am_R.forget q trivial))
  by_cases hs3_1 : (I 3 j1) = 1
  · have wp := wq3.2.1 hs3_1
    refine am_tabC 1 dX2_obey_12 hs3_1 (by decide) (by decide) rfl (tgt := 143) rfl ?_
    refine am_aload_n rfl rfl dX2_obey_143 ?_
    refine am_getA (r := 7) dX2_obey_144 flX2_18 (Or.inr ⟨_, rfl⟩) rfl (by decide) rfl ?_
    refine am_iload rfl dX2_obey_147 ?_
    refine am_iload_n rfl rfl dX2_obey_149 ?_
    obtain ⟨j4, e4, w4, wp⟩ := wp
    refine am_iastN (j := j4) dX2_obey_150 rfl (by decide) e4 w4 (by decide) ?_
    exact am_vret dX2_obey_151 rfl wp
  by_cases hs3_2 : (I 3 j1) = 2
  · have wp := wq3.2.2.1 hs3_2
    refine am_tabC 2 dX2_obey_12 hs3_2 (by decide) (by decide) rfl (tgt := 143) rfl ?_
    refine am_aload_n rfl rfl dX2_obey_143 ?_
    refine am_getA (r := 7) dX2_obey_144 flX2_18 (Or.inr ⟨_, rfl⟩) rfl (by decide) rfl ?_
    refine am_iload rfl dX2_obey_147 ?_
    refine am_iload_n rfl rfl dX2_obey_149 ?_
    obtain ⟨j5, e5, w5, wp⟩ := wp
    refine am_iastN (j := j5) dX2_obey_150 rfl (by decide) e5 w5 (by decide) ?_
    exact am_vret dX2_obey_151 rfl wp
  by_cases hs3_3 : (I 3 j1) = 3
  · have wp := wq3.2.2.2.1 hs3_3
    refine am_tabC 3 dX2_obey_12 hs3_3 (by decide) (by decide) rfl (tgt := 143) rfl ?_
    refine am_aload_n rfl rfl dX2_obey_143 ?_
    refine am_getA (r := 7) dX2_obey_144 flX2_18 (Or.inr ⟨_, rfl⟩) rfl (by decide) rfl ?_
    refine am_iload rfl dX2_obey_147 ?_
    refine am_iload_n rfl rfl dX2_obey_149 ?_
    obtain ⟨j6, e6, w6, wp⟩ := wp
    refine am_iastN (j := j6) dX2_obey_150 rfl (by decide) e6 w6 (by decide) ?_
    exact am_vret dX2_obey_151 rfl wp
  by_cases hs3_4 : (I 3 j1) = 4
  · have wp := wq3.2.2.2.2.1 hs3_4
    refine am_tabC 4 dX2_obey_12 hs3_4 (by decide) (by decide) rfl (tgt := 143) rfl ?_
    refine am_aload_n rfl rfl dX2_obey_143 ?_
    refine am_getA (r := 7) dX2_obey_144 flX2_18 (Or.inr ⟨_, rfl⟩) rfl (by decide) rfl ?_
    refine am_iload rfl dX2_obey_147 ?_
    refine am_iload_n rfl rfl dX2_obey_149 ?_
    obtain ⟨j7, e7, w7, wp⟩ := wp
    refine am_iastN (j := j7) dX2_obey_150 rfl (by decide) e7 w7 (by decide) ?_
    exact am_vret dX2_obey_151 rfl wp
  by_cases hs3_5 : (I 3 j1) = 5
  · have wp := wq3.2.2.2.2.2.1 hs3_5
    refine am_tabC 5 dX2_obey_12 hs3_5 (by decide) (by decide) rfl (tgt := 73) rfl ?_
    refine am_aload_n rfl rfl dX2_obey_73 ?_
    refine am_getA (r := 5) dX2_obey_74 flX2_9 (Or.inr ⟨_, rfl⟩) rfl (by decide) rfl ?_
    refine am_iload rfl dX2_obey_77 ?_
    refine am_aload_n rfl rfl dX2_obey_79 ?_
    refine am_iload_n rfl rfl dX2_obey_80 ?_
    refine am_iconst 2 rfl dX2_obey_81 ?_
    refine am_iadd dX2_obey_82 ?_
    obtain ⟨j8, e8, w8, wp⟩ := wp
    refine am_ialdN (j := j8) dX2_obey_83 rfl (by decide) e8 w8 (by decide) ?_
    refine am_invS (As := [.int (I 3 j2), .int (I 3 j8)]) (lsZ := [some (.int (I 3 j2)), some (.int (I 3 j8))]) (st := [.ref 5]) dX2_obey_84 hX2_cell lkX2_35 ⟨by decide, by decide⟩ rfl rfl (Nat.le_of_ble_eq_true rfl) rfl (Nat.le_of_ble_eq_true rfl) ⟨Nat.le_refl _, Nat.le_refl _⟩ (tX2_cell (by decide)  ?_)
    show am_R E mX2_obey 87 [some (.ref 4), some (.ref 3), some (.int a2), some (.int (I 3 j1)), some (.int (I 3 j2))] [.int (((I 3 j2) * 7) + (I 3 j8)), .ref 5] (hp I J b) 64 64 Q
    refine am_aload_n rfl rfl dX2_obey_87 ?_
    refine am_iload_n rfl rfl dX2_obey_88 ?_
    refine am_iconst 3 rfl dX2_obey_89 ?_
    refine am_iadd dX2_obey_90 ?_
    obtain ⟨j9, e9, w9, wp⟩ := wp
    refine am_ialdN (j := j9) dX2_obey_91 rfl (by decide) e9 w9 (by decide) ?_
    obtain ⟨j10, e10, w10, wp⟩ := wp
    refine am_iastN (j := j10) dX2_obey_92 rfl (by decide) e10 w10 (by decide) ?_
    refine am_goto dX2_obey_93 (tgt := 151) rfl ?_
    exact am_vret dX2_obey_151 rfl wp
  by_cases hs3_6 : (I 3 j1) = 6
  · have wp := wq3.2.2.2.2.2.2.1 hs3_6
    refine am_tabC 6 dX2_obey_12 hs3_6 (by decide) (by decide) rfl (tgt := 96) rfl ?_
    refine am_aload_n rfl rfl dX2_obey_96 ?_
    refine am_getA (r := 6) dX2_obey_97 flX2_15 (Or.inr ⟨_, rfl⟩) rfl (by decide) rfl ?_
    refine am_iload rfl dX2_obey_100 ?_
    refine am_aload_n rfl rfl dX2_obey_102 ?_
    refine am_iload_n rfl rfl dX2_obey_103 ?_
    refine am_iconst 2 rfl dX2_obey_104 ?_
    refine am_iadd dX2_obey_105 ?_
    obtain ⟨j11, e11, w11, wp⟩ := wp
    refine am_ialdN (j := j11) dX2_obey_106 rfl (by decide) e11 w11 (by decide) ?_
    refine am_invS (As := [.int (I 3 j2), .int (I 3 j11)]) (lsZ := [some (.int (I 3 j2)), some (.int (I 3 j11))]) (st := [.ref 6]) dX2_obey_107 hX2_cell lkX2_35 ⟨by decide, by decide⟩ rfl rfl (Nat.le_of_ble_eq_true rfl) rfl (Nat.le_of_ble_eq_true rfl) ⟨Nat.le_refl _, Nat.le_refl _⟩ (tX2_cell (by decide)  ?_)
    show am_R E mX2_obey 110 [some (.ref 4), some (.ref 3), some (.int a2), some (.int (I 3 j1)), some (.int (I 3 j2))] [.int (((I 3 j2) * 7) + (I 3 j11)), .ref 6] (hp I J b) 64 64 Q
    refine am_aload_n rfl rfl dX2_obey_110 ?_
    refine am_iload_n rfl rfl dX2_obey_111 ?_
    refine am_iconst 3 rfl dX2_obey_112 ?_
    refine am_iadd dX2_obey_113 ?_
    obtain ⟨j12, e12, w12, wp⟩ := wp
    refine am_ialdN (j := j12) dX2_obey_114 rfl (by decide) e12 w12 (by decide) ?_
    obtain ⟨j13, e13, w13, wp⟩ := wp
    refine am_iastN (j := j13) dX2_obey_115 rfl (by decide) e13 w13 (by decide) ?_
    refine am_goto dX2_obey_116 (tgt := 151) rfl ?_
    exact am_vret dX2_obey_151 rfl wp
  by_cases hs3_7 : (I 3 j1) = 7
  · have wp := wq3.2.2.2.2.2.2.2.1 hs3_7
    refine am_tabC 7 dX2_obey_12 hs3_7 (by decide) (by decide) rfl (tgt := 119) rfl ?_
    refine am_aload_n rfl rfl dX2_obey_119 ?_
    refine am_iload rfl dX2_obey_120 ?_
    refine am_putI dX2_obey_122 flX2_28 (Or.inl rfl) rfl rfl (by decide) ?_
    refine am_goto dX2_obey_125 (tgt := 151) rfl ?_
    exact am_vret dX2_obey_151 rfl wp
  by_cases hs3_8 : (I 3 j1) = 8
  · have wp := wq3.2.2.2.2.2.2.2.2.1 hs3_8
    refine am_tabC 8 dX2_obey_12 hs3_8 (by decide) (by decide) rfl (tgt := 128) rfl ?_
    refine am_aload_n rfl rfl dX2_obey_128 ?_
    refine am_getA (r := 8) dX2_obey_129 flX2_21 (Or.inr ⟨_, rfl⟩) rfl (by decide) rfl ?_
    refine am_iload rfl dX2_obey_132 ?_
    refine am_aload_n rfl rfl dX2_obey_134 ?_
    refine am_iload_n rfl rfl dX2_obey_135 ?_
    refine am_iconst 2 rfl dX2_obey_136 ?_
    refine am_iadd dX2_obey_137 ?_
    obtain ⟨j14, e14, w14, wp⟩ := wp
    refine am_ialdN (j := j14) dX2_obey_138 rfl (by decide) e14 w14 (by decide) ?_
    obtain ⟨j15, e15, w15, wp⟩ := wp
    refine am_iastN (j := j15) dX2_obey_139 rfl (by decide) e15 w15 (by decide) ?_
    refine am_goto dX2_obey_140 (tgt := 151) rfl ?_
    exact am_vret dX2_obey_151 rfl wp
  have wp := wq3.2.2.2.2.2.2.2.2.2 hs3_0 hs3_1 hs3_2 hs3_3 hs3_4 hs3_5 hs3_6 hs3_7 hs3_8
  have hz3_0 : (I 3 j1).toInt ≠ 0 := am_ne hs3_0
  have hz3_1 : (I 3 j1).toInt ≠ 1 := am_ne hs3_1
  have hz3_2 : (I 3 j1).toInt ≠ 2 := am_ne hs3_2
  have hz3_3 : (I 3 j1).toInt ≠ 3 := am_ne hs3_3
  have hz3_4 : (I 3 j1).toInt ≠ 4 := am_ne hs3_4
  have hz3_5 : (I 3 j1).toInt ≠ 5 := am_ne hs3_5
  have hz3_6 : (I 3 j1).toInt ≠ 6 := am_ne hs3_6
  have hz3_7 : (I 3 j1).toInt ≠ 7 := am_ne hs3_7
  have hz3_8 : (I 3 j1).toInt ≠ 8 := am_ne hs3_8
  show am_R E mX2_obey 12 [some (.ref 4), some (.ref 3), some (.int a2), some (.int (I 3 j1)), some (.int (I 3 j2))] [.int (I 3 j1)] (hp I J b) 64 64 Q
  refine am_tabOut dX2_obey_12 (by omega) (tgt := 143) rfl ?_
  refine am_aload_n rfl rfl dX2_obey_143 ?_
  refine am_getA (r := 7) dX2_obey_144 flX2_18 (Or.inr ⟨_, rfl⟩) rfl (by decide) rfl ?_
  refine am_iload rfl dX2_obey_147 ?_
  refine am_iload_n rfl rfl dX2_obey_149 ?_
  obtain ⟨j16, e16, w16, wp⟩ := wp
  refine am_iastN (j := j16) dX2_obey_150 rfl (by decide) e16 w16 (by decide) ?_
  exact am_vret dX2_obey_151 rfl wp
theorem bX2_obey_70 {E : Nat × (Nat → Int32)} {I : Nat → Nat → Int32} {J : Nat → Nat → Int64} {b : Bool}  {Q : Option Value → am_H → Prop}  (wp : Q none (hp I J b)) : am_R E mX2_obey 70 [none, none, none, none, none] [] (hp I J b) 64 64 Q := by
  refine am_goto dX2_obey_70 (tgt := 151) rfl ?_
  exact am_vret dX2_obey_151 rfl wp
theorem tX2_obey {s : HT} {d : Nat × (Nat → Nat)} {c : Nat} {a2 : Int32} (hR : CR I s) (hg : s.1 ≤ 7) (hd : Fit d s.1) (ea : a2 = nI (4 * c)) (hc : c < 14) (h0 : I 3 (4 * c) = cvc d.1) (ht : ∀ t, 1 ≤ t → t < 1 + cntN d.1 → I 3 (4 * c + t) = nI (d.2 t)) (k : ∀ I1, CR I1 (obs s d) → (∀ a, a < 4 ∨ 8 < a → I1 a = I a) → Q none (hp I1 J b)) : am_R E mX2_obey 0 [some (.ref 4), some (.ref 3), some (.int a2), none, none] [] (hp I J b) 64 64 Q := by
  subst ea
  obtain ⟨mo, rg, sk, lk, kd, di⟩ := s
  obtain ⟨i, xs⟩ := d
  obtain ⟨r1, r2, r3, r4, r5, r6⟩ := hR
  have hg : mo ≤ 7 := hg
  have hd : Fit (i, xs) mo := hd
  have hi : i < 9 := hd.1
  have h0 : I 3 (4 * c) = cvc i := h0
  have ht : ∀ t, 1 ≤ t → t < 1 + cntN i → I 3 (4 * c + t) = nI (xs t) := ht
  have hcn : 1 ≤ cntN i := by unfold cntN; split <;> (try split) <;> omega
  have a1' : nI (4 * c) + 1 = nI (4 * c + 1) := n1 _
  have a2' : nI (4 * c) + 2 = nI (4 * c + 2) := by rw [show (2 : Int32) = nI 2 from rfl, nI_add]
  have a3' : nI (4 * c) + 3 = nI (4 * c + 3) := by rw [show (3 : Int32) = nI 3 from rfl, nI_add]
  have t1 := ht 1 (by decide) (by omega)
  rw [obs_eq] at k
  -- kinds
  have kind : (i = 3 ∨ i = 4 ∨ i = 5 ∨ i = 6) → ∃ j, nI (xs 1) = nI j ∧ j < 7 ∧ Q none (hp (u2 I 7 j (cvc i)) J b) := fun hh => by
    have x1 := hd.num (u := 1) (by omega) (by omega) (by decide) (by omega)
    rw [if_neg (by decide)] at x1
    rw [if_neg (by omega), if_neg (by omega), if_neg (by omega), if_neg (by omega), if_neg (by omega)] at k
    refine ⟨xs 1, rfl, by omega, k _ ⟨r1, r2, r3, r4, fun d hd => ?_, r6⟩ (fun a ha => by rw [u2_n _ _ _ (by omega)])⟩
    rw [u2_at, upd_at]
    split
    · rcases hh with rfl | rfl | rfl | rfl <;> rfl
    · exact r5 d hd
  have c7 : ∀ x y : Nat, nI x * 7 + nI y = nI (7 * x + y) := fun x y => k7' x y
  refine bX2_obey_0 ⟨4 * c, rfl, by omega, 4 * c + 1, a1', by omega, ?_⟩
  rw [h0, t1]
  have no : ∀ {P : Prop} {x : Int32}, ¬ cvc i = x → cvc i = x → P := fun h q => absurd q h
  rcases (show i = 0 ∨ i = 1 ∨ i = 2 ∨ i = 7 ∨ i = 8 ∨ (i = 3 ∨ i = 4 ∨ i = 5 ∨ i = 6) by omega) with e | e | e | e | e | e
  · subst e
    rw [if_pos rfl] at k
    exact ⟨fun _ => tX2_open (by decide) rfl (fun I1 hR hs => bX2_obey_70 (k I1 hR hs)), no (by decide), no (by decide), no (by decide), no (by decide), no (by decide), no (by decide), no (by decide), no (by decide), fun q => absurd rfl q⟩
  · subst e
    rw [if_neg (by decide), if_pos rfl] at k
    have x1 := hd.num (u := 1) (by decide) (by decide) (by decide) (by decide)
    have x2 := hd.num (u := 2) (by decide) (by decide) (by decide) (by decide)
    rw [if_neg (by decide)] at x1 x2
    refine ⟨no (by decide), no (by decide), no (by decide), no (by decide), no (by decide), fun _ => ⟨4 * c + 2, a2', by omega, 4 * c + 3, a3', by omega, 7 * xs 1 + xs 2, by rw [ht 2 (by decide) (by decide)]; exact c7 _ _, by omega, ?_⟩, no (by decide), no (by decide), no (by decide), fun _ _ _ _ _ q => absurd rfl q⟩
    rw [ht 3 (by decide) (by decide)]
    refine k _ ⟨r1, r2, fun j hj => ?_, r4, r5, r6⟩ (fun a ha => by rw [u2_n _ _ _ (by omega)])
    rw [u2_at, upd_at]
    split
    · rfl
    · exact r3 j hj
  · subst e
    rw [if_neg (by decide), if_neg (by decide), if_pos rfl] at k
    have x1 := hd.num (u := 1) (by decide) (by decide) (by decide) (by decide)
    have x2 := hd.num (u := 2) (by decide) (by decide) (by decide) (by decide)
    rw [if_neg (by decide)] at x1 x2
    refine ⟨no (by decide), no (by decide), no (by decide), no (by decide), no (by decide), no (by decide), fun _ => ⟨4 * c + 2, a2', by omega, 4 * c + 3, a3', by omega, 7 * xs 1 + xs 2, by rw [ht 2 (by decide) (by decide)]; exact c7 _ _, by omega, ?_⟩, no (by decide), no (by decide), fun _ _ _ _ _ _ q => absurd rfl q⟩
    rw [ht 3 (by decide) (by decide)]
    refine k _ ⟨r1, r2, r3, fun j hj => ?_, r5, r6⟩ (fun a ha => by rw [u2_n _ _ _ (by omega)])
    rw [u2_at, upd_at]
    split
    · rfl
    · exact r4 j hj
  · subst e
    rw [if_neg (by decide), if_neg (by decide), if_neg (by decide), if_pos rfl] at k
    refine ⟨no (by decide), no (by decide), no (by decide), no (by decide), no (by decide), no (by decide), no (by decide), fun _ => ?_, no (by decide), fun _ _ _ _ _ _ _ q => absurd rfl q⟩
    refine k _ ⟨?_, ?_, r3, r4, r5, r6⟩ (fun a ha => by rw [u2_n _ _ _ (by omega)])
    · rw [u2_at, if_neg (by decide)]; exact r1
    · rw [u2_at, if_pos rfl]
  · subst e
    rw [if_neg (by decide), if_neg (by decide), if_neg (by decide), if_neg (by decide), if_pos rfl] at k
    have x1 := hd.num (u := 1) (by decide) (by decide) (by decide) (by decide)
    rw [if_neg (by decide)] at x1
    refine ⟨no (by decide), no (by decide), no (by decide), no (by decide), no (by decide), no (by decide), no (by decide), no (by decide), fun _ => ⟨4 * c + 2, a2', by omega, xs 1, rfl, by omega, ?_⟩, fun _ _ _ _ _ _ _ _ q => absurd rfl q⟩
    rw [ht 2 (by decide) (by decide)]
    refine k _ ⟨r1, r2, r3, r4, r5, fun m hm => ?_⟩ (fun a ha => by rw [u2_n _ _ _ (by omega)])
    rw [u2_at, upd_at]
    split
    · rfl
    · exact r6 m hm
  · have kk := kind e
    have cv : cvc i = 1 ∨ cvc i = 2 ∨ cvc i = 3 ∨ cvc i = 4 := by rcases e with rfl | rfl | rfl | rfl <;> decide
    have n0 : ¬ cvc i = 0 := by rcases e with rfl | rfl | rfl | rfl <;> decide
    have n5 : ¬ cvc i = 5 := by rcases e with rfl | rfl | rfl | rfl <;> decide
    have n6 : ¬ cvc i = 6 := by rcases e with rfl | rfl | rfl | rfl <;> decide
    have n7 : ¬ cvc i = 7 := by rcases e with rfl | rfl | rfl | rfl <;> decide
    have n8 : ¬ cvc i = 8 := by rcases e with rfl | rfl | rfl | rfl <;> decide
    exact ⟨no n0, fun _ => kk, fun _ => kk, fun _ => kk, fun _ => kk, no n5, no n6, no n7, no n8, fun _ _ _ _ _ _ _ _ _ => kk⟩
theorem bX10_doLine_0 {E : Nat × (Nat → Int32)} {I : Nat → Nat → Int32} {J : Nat → Nat → Int64} {b : Bool} {a1 : Int32} {Q : Option Value → am_H → Prop}  (wp : ∃ j1, (a1 + 1) = nI j1 ∧ j1 < 56 ∧ ∃ j2, a1 = nI j2 ∧ j2 < 56 ∧ (((I 54 j2) = 0 → am_R E mX10_plain 0 [some (.ref 48), none] [] (hp I J b) 64 64 (fun r h' => am_R E mX10_doLine 52 [some (.ref 48), none, some (.int (I 54 j1))] (r.toList ++ []) h' 64 64 Q)) ∧ ((I 54 j2) = 1 → ∃ j4, (a1 + 2) = nI j4 ∧ j4 < 56 ∧ ∃ j5, (a1 + 3) = nI j5 ∧ j5 < 56 ∧ ∃ j6, ((7 * (I 54 j1)) + (I 54 j4)) = nI j6 ∧ j6 < 49 ∧ Q none (hp (u2 I 49 j6 (I 54 j5)) J b)) ∧ ((I 54 j2) = 2 → ∃ j7, (a1 + 2) = nI j7 ∧ j7 < 56 ∧ ∃ j8, (a1 + 3) = nI j8 ∧ j8 < 56 ∧ ∃ j9, ((7 * (I 54 j1)) + (I 54 j7)) = nI j9 ∧ j9 < 49 ∧ Q none (hp (u2 I 50 j9 (I 54 j8)) J b)) ∧ ((I 54 j2) = 3 → ∃ j10, (a1 + 2) = nI j10 ∧ j10 < 56 ∧ ∃ j11, (I 54 j1) = nI j11 ∧ j11 < 7 ∧ Q none (hp (u2 I 52 j11 (I 54 j10)) J b)) ∧ ((I 54 j2) = 4 → Q none (hp (u2 I 48 1 (I 54 j1)) J b)) ∧ (¬ (I 54 j2) = 0 → ¬ (I 54 j2) = 1 → ¬ (I 54 j2) = 2 → ¬ (I 54 j2) = 3 → ¬ (I 54 j2) = 4 → ∃ j12, (I 54 j1) = nI j12 ∧ j12 < 7 ∧ Q none (hp (u2 I 51 j12 ((I 54 j2) - 5)) J b)))) : am_R E mX10_doLine 0 [some (.ref 48), some (.int a1), none] [] (hp I J b) 64 64 Q := by
  refine am_aload_n rfl rfl dX10_doLine_0 ?_
  refine am_getA (r := 54) dX10_doLine_1 flX10_32 (Or.inr ⟨_, rfl⟩) rfl (by decide) rfl ?_
  refine am_iload_n rfl rfl dX10_doLine_4 ?_
  refine am_iconst 1 rfl dX10_doLine_5 ?_
  refine am_iadd dX10_doLine_6 ?_
  obtain ⟨j1, e1, w1, wp⟩ := wp
  refine am_ialdN (j := j1) dX10_doLine_7 rfl (by decide) e1 w1 (by decide) ?_
  refine am_istore_n (ls' := [some (.ref 48), some (.int a1), some (.int (I 54 j1))]) rfl (by decide) rfl rfl dX10_doLine_8 ?_
  refine am_aload_n rfl rfl dX10_doLine_9 ?_
  refine am_getA (r := 54) dX10_doLine_10 flX10_32 (Or.inr ⟨_, rfl⟩) rfl (by decide) rfl ?_
  refine am_iload_n rfl rfl dX10_doLine_13 ?_
  obtain ⟨j2, e2, w2, wp⟩ := wp
  refine am_ialdN (j := j2) dX10_doLine_14 rfl (by decide) e2 w2 (by decide) ?_
  have wq3 := wp
  by_cases hs3_0 : (I 54 j2) = 0
  · have wp := wq3.1 hs3_0
    refine am_tabC 0 dX10_doLine_15 hs3_0 (by decide) (by decide) rfl (tgt := 48) rfl ?_
    refine am_aload_n rfl rfl dX10_doLine_48 ?_
    refine am_invV (ci := 8) (As := []) (lsZ := [some (.ref 48), none]) (st := []) dX10_doLine_49 hX10_plain lkX10_63 ⟨by decide, by decide⟩ (by decide) rfl (by decide) rfl rfl rfl (Nat.le_of_ble_eq_true rfl) rfl (Nat.le_of_ble_eq_true rfl) ⟨Nat.le_refl _, Nat.le_refl _⟩ (am_R.mono wp (fun r h' q => am_R.forget q ⟨rfl, ⟨rfl, trivial⟩⟩))
  by_cases hs3_1 : (I 54 j2) = 1
  · have wp := wq3.2.1 hs3_1
    refine am_tabC 1 dX10_doLine_15 hs3_1 (by decide) (by decide) rfl (tgt := 60) rfl ?_
    refine am_aload_n rfl rfl dX10_doLine_60 ?_
    refine am_getA (r := 49) dX10_doLine_61 flX10_16 (Or.inr ⟨_, rfl⟩) rfl (by decide) rfl ?_
    refine am_bipush 7 rfl dX10_doLine_64 ?_
    refine am_iload_n rfl rfl dX10_doLine_66 ?_
    refine am_imul dX10_doLine_67 ?_
    refine am_aload_n rfl rfl dX10_doLine_68 ?_
    refine am_getA (r := 54) dX10_doLine_69 flX10_32 (Or.inr ⟨_, rfl⟩) rfl (by decide) rfl ?_
    refine am_iload_n rfl rfl dX10_doLine_72 ?_
    refine am_iconst 2 rfl dX10_doLine_73 ?_
    refine am_iadd dX10_doLine_74 ?_
    obtain ⟨j4, e4, w4, wp⟩ := wp
    refine am_ialdN (j := j4) dX10_doLine_75 rfl (by decide) e4 w4 (by decide) ?_
    refine am_iadd dX10_doLine_76 ?_
    refine am_aload_n rfl rfl dX10_doLine_77 ?_
    refine am_getA (r := 54) dX10_doLine_78 flX10_32 (Or.inr ⟨_, rfl⟩) rfl (by decide) rfl ?_
    refine am_iload_n rfl rfl dX10_doLine_81 ?_
    refine am_iconst 3 rfl dX10_doLine_82 ?_
    refine am_iadd dX10_doLine_83 ?_
    obtain ⟨j5, e5, w5, wp⟩ := wp
    refine am_ialdN (j := j5) dX10_doLine_84 rfl (by decide) e5 w5 (by decide) ?_
    obtain ⟨j6, e6, w6, wp⟩ := wp
    refine am_iastN (j := j6) dX10_doLine_85 rfl (by decide) e6 w6 (by decide) ?_
    refine am_goto dX10_doLine_86 (tgt := 157) rfl ?_
    exact am_vret dX10_doLine_157 rfl wp
  by_cases hs3_2 : (I 54 j2) = 2
  · have wp := wq3.2.2.1 hs3_2
    refine am_tabC 2 dX10_doLine_15 hs3_2 (by decide) (by decide) rfl (tgt := 89) rfl ?_
    refine am_aload_n rfl rfl dX10_doLine_89 ?_
    refine am_getA (r := 50) dX10_doLine_90 flX10_20 (Or.inr ⟨_, rfl⟩) rfl (by decide) rfl ?_
    refine am_bipush 7 rfl dX10_doLine_93 ?_
    refine am_iload_n rfl rfl dX10_doLine_95 ?_
    refine am_imul dX10_doLine_96 ?_
    refine am_aload_n rfl rfl dX10_doLine_97 ?_
    refine am_getA (r := 54) dX10_doLine_98 flX10_32 (Or.inr ⟨_, rfl⟩) rfl (by decide) rfl ?_
    refine am_iload_n rfl rfl dX10_doLine_101 ?_
    refine am_iconst 2 rfl dX10_doLine_102 ?_
    refine am_iadd dX10_doLine_103 ?_
    obtain ⟨j7, e7, w7, wp⟩ := wp
    refine am_ialdN (j := j7) dX10_doLine_104 rfl (by decide) e7 w7 (by decide) ?_
    refine am_iadd dX10_doLine_105 ?_
    refine am_aload_n rfl rfl dX10_doLine_106 ?_
    refine am_getA (r := 54) dX10_doLine_107 flX10_32 (Or.inr ⟨_, rfl⟩) rfl (by decide) rfl ?_
    refine am_iload_n rfl rfl dX10_doLine_110 ?_
    refine am_iconst 3 rfl dX10_doLine_111 ?_
    refine am_iadd dX10_doLine_112 ?_
    obtain ⟨j8, e8, w8, wp⟩ := wp
    refine am_ialdN (j := j8) dX10_doLine_113 rfl (by decide) e8 w8 (by decide) ?_
    obtain ⟨j9, e9, w9, wp⟩ := wp
    refine am_iastN (j := j9) dX10_doLine_114 rfl (by decide) e9 w9 (by decide) ?_
    refine am_goto dX10_doLine_115 (tgt := 157) rfl ?_
    exact am_vret dX10_doLine_157 rfl wp
  by_cases hs3_3 : (I 54 j2) = 3
  · have wp := wq3.2.2.2.1 hs3_3
    refine am_tabC 3 dX10_doLine_15 hs3_3 (by decide) (by decide) rfl (tgt := 118) rfl ?_
    refine am_aload_n rfl rfl dX10_doLine_118 ?_
    refine am_getA (r := 52) dX10_doLine_119 flX10_26 (Or.inr ⟨_, rfl⟩) rfl (by decide) rfl ?_
    refine am_iload_n rfl rfl dX10_doLine_122 ?_
    refine am_aload_n rfl rfl dX10_doLine_123 ?_
    refine am_getA (r := 54) dX10_doLine_124 flX10_32 (Or.inr ⟨_, rfl⟩) rfl (by decide) rfl ?_
    refine am_iload_n rfl rfl dX10_doLine_127 ?_
    refine am_iconst 2 rfl dX10_doLine_128 ?_
    refine am_iadd dX10_doLine_129 ?_
    obtain ⟨j10, e10, w10, wp⟩ := wp
    refine am_ialdN (j := j10) dX10_doLine_130 rfl (by decide) e10 w10 (by decide) ?_
    obtain ⟨j11, e11, w11, wp⟩ := wp
    refine am_iastN (j := j11) dX10_doLine_131 rfl (by decide) e11 w11 (by decide) ?_
    refine am_goto dX10_doLine_132 (tgt := 157) rfl ?_
    exact am_vret dX10_doLine_157 rfl wp
  by_cases hs3_4 : (I 54 j2) = 4
  · have wp := wq3.2.2.2.2.1 hs3_4
    refine am_tabC 4 dX10_doLine_15 hs3_4 (by decide) (by decide) rfl (tgt := 135) rfl ?_
    refine am_aload_n rfl rfl dX10_doLine_135 ?_
    refine am_iload_n rfl rfl dX10_doLine_136 ?_
    refine am_putI dX10_doLine_137 flX10_13 (Or.inl rfl) rfl rfl (by decide) ?_
    refine am_goto dX10_doLine_140 (tgt := 157) rfl ?_
    exact am_vret dX10_doLine_157 rfl wp
  have wp := wq3.2.2.2.2.2 hs3_0 hs3_1 hs3_2 hs3_3 hs3_4
  have hz3_0 : (I 54 j2).toInt ≠ 0 := am_ne hs3_0
  have hz3_1 : (I 54 j2).toInt ≠ 1 := am_ne hs3_1
  have hz3_2 : (I 54 j2).toInt ≠ 2 := am_ne hs3_2
  have hz3_3 : (I 54 j2).toInt ≠ 3 := am_ne hs3_3
  have hz3_4 : (I 54 j2).toInt ≠ 4 := am_ne hs3_4
  show am_R E mX10_doLine 15 [some (.ref 48), some (.int a1), some (.int (I 54 j1))] [.int (I 54 j2)] (hp I J b) 64 64 Q
  refine am_tabOut dX10_doLine_15 (by omega) (tgt := 143) rfl ?_
  refine am_aload_n rfl rfl dX10_doLine_143 ?_
  refine am_getA (r := 51) dX10_doLine_144 flX10_23 (Or.inr ⟨_, rfl⟩) rfl (by decide) rfl ?_
  refine am_iload_n rfl rfl dX10_doLine_147 ?_
  refine am_aload_n rfl rfl dX10_doLine_148 ?_
  refine am_getA (r := 54) dX10_doLine_149 flX10_32 (Or.inr ⟨_, rfl⟩) rfl (by decide) rfl ?_
  refine am_iload_n rfl rfl dX10_doLine_152 ?_
  refine am_ialdN (j := j2) dX10_doLine_153 rfl (by decide) e2 w2 (by decide) ?_
  refine am_iconst 5 rfl dX10_doLine_154 ?_
  refine am_isub dX10_doLine_155 ?_
  obtain ⟨j12, e12, w12, wp⟩ := wp
  refine am_iastN (j := j12) dX10_doLine_156 rfl (by decide) e12 w12 (by decide) ?_
  exact am_vret dX10_doLine_157 rfl wp
theorem bX10_doLine_52 {E : Nat × (Nat → Int32)} {I : Nat → Nat → Int32} {J : Nat → Nat → Int64} {b : Bool} {a2 : Int32} {Q : Option Value → am_H → Prop}  (wp : Q none (hp (u2 I 48 0 a2) J b)) : am_R E mX10_doLine 52 [some (.ref 48), none, some (.int a2)] [] (hp I J b) 64 64 Q := by
  refine am_aload_n rfl rfl dX10_doLine_52 ?_
  refine am_iload_n rfl rfl dX10_doLine_53 ?_
  refine am_putI dX10_doLine_54 flX10_7 (Or.inl rfl) rfl rfl (by decide) ?_
  refine am_goto dX10_doLine_57 (tgt := 157) rfl ?_
  exact am_vret dX10_doLine_157 rfl wp
theorem tX10_doLine {s : HT} {d : Nat × (Nat → Nat)} {c : Nat} {a2 : Int32} (hR : MR I s) (hg : s.1 ≤ 7) (hd : Fit d s.1) (ea : a2 = nI (4 * c)) (hc : c < 14) (h0 : I 54 (4 * c) = nI (mvc d.1)) (ht : ∀ t, 1 ≤ t → t < 1 + cntN d.1 → I 54 (4 * c + t) = nI (d.2 t)) (k : ∀ I1, MR I1 (obs s d) → (∀ a, a < 48 ∨ 52 < a → I1 a = I a) → I1 48 14 = I 48 14 → Q none (hp I1 J b)) : am_R E mX10_doLine 0 [some (.ref 48), some (.int a2), none] [] (hp I J b) 64 64 Q := by
  subst ea
  obtain ⟨mo, rg, sk, lk, kd, di⟩ := s
  obtain ⟨i, xs⟩ := d
  obtain ⟨r1, r2, r3, r4, r5, r6⟩ := hR
  have hg : mo ≤ 7 := hg
  have hd : Fit (i, xs) mo := hd
  have hi : i < 9 := hd.1
  have h0 : I 54 (4 * c) = nI (mvc i) := h0
  have ht : ∀ t, 1 ≤ t → t < 1 + cntN i → I 54 (4 * c + t) = nI (xs t) := ht
  have hcn : 1 ≤ cntN i := by unfold cntN; split <;> (try split) <;> omega
  have a1' : nI (4 * c) + 1 = nI (4 * c + 1) := n1 _
  have a2' : nI (4 * c) + 2 = nI (4 * c + 2) := by rw [show (2 : Int32) = nI 2 from rfl, nI_add]
  have a3' : nI (4 * c) + 3 = nI (4 * c + 3) := by rw [show (3 : Int32) = nI 3 from rfl, nI_add]
  have t1 := ht 1 (by decide) (by omega)
  rw [obs_eq] at k
  have c7 : ∀ x y : Nat, 7 * nI x + nI y = nI (7 * x + y) := fun x y => by rw [show (7 : Int32) = nI 7 from rfl, pk_mul, nI_add]
  refine bX10_doLine_0 ⟨4 * c + 1, a1', by omega, 4 * c, rfl, by omega, ?_⟩
  rw [h0, t1]
  have no : ∀ {P : Prop} {x : Int32}, ¬ nI (mvc i) = x → nI (mvc i) = x → P := fun h q => absurd q h
  rcases (show i = 0 ∨ i = 1 ∨ i = 2 ∨ i = 7 ∨ i = 8 ∨ (i = 3 ∨ i = 4 ∨ i = 5 ∨ i = 6) by omega) with e | e | e | e | e | e
  · subst e
    rw [if_pos rfl] at k
    refine ⟨fun _ => tX10_plain (fun I1 p1 p2 p3 p4 p5 => bX10_doLine_52 (k _ ⟨?_, ?_, fun j hj => (p2 j hj).1, fun j hj => (p2 j hj).2, fun j hj => (p3 j hj).1, fun j hj => (p3 j hj).2⟩ (fun a ha => ?_) ?_)), no (by decide), no (by decide), no (by decide), no (by decide), fun q => absurd rfl q⟩
    · rw [u2_at, if_pos rfl]
    · rw [u2_at, if_neg (by decide)]; exact p1
    · rw [u2_n _ _ _ (by omega)]; exact p4 a (by omega) (by omega) (by omega) (by omega) (by omega)
    · rw [u2_at, if_neg (by decide)]; exact p5 14 (by decide)
  · subst e
    rw [if_neg (by decide), if_pos rfl] at k
    have x1 := hd.num (u := 1) (by decide) (by decide) (by decide) (by decide)
    have x2 := hd.num (u := 2) (by decide) (by decide) (by decide) (by decide)
    rw [if_neg (by decide)] at x1 x2
    refine ⟨no (by decide), fun _ => ⟨4 * c + 2, a2', by omega, 4 * c + 3, a3', by omega, 7 * xs 1 + xs 2, by rw [ht 2 (by decide) (by decide)]; exact c7 _ _, by omega, ?_⟩, no (by decide), no (by decide), no (by decide), fun _ q => absurd rfl q⟩
    rw [ht 3 (by decide) (by decide)]
    refine k _ ⟨r1, r2, fun j hj => ?_, r4, r5, r6⟩ (fun a ha => by rw [u2_n _ _ _ (by omega)]) rfl
    rw [u2_at, upd_at]
    split
    · rfl
    · exact r3 j hj
  · subst e
    rw [if_neg (by decide), if_neg (by decide), if_pos rfl] at k
    have x1 := hd.num (u := 1) (by decide) (by decide) (by decide) (by decide)
    have x2 := hd.num (u := 2) (by decide) (by decide) (by decide) (by decide)
    rw [if_neg (by decide)] at x1 x2
    refine ⟨no (by decide), no (by decide), fun _ => ⟨4 * c + 2, a2', by omega, 4 * c + 3, a3', by omega, 7 * xs 1 + xs 2, by rw [ht 2 (by decide) (by decide)]; exact c7 _ _, by omega, ?_⟩, no (by decide), no (by decide), fun _ _ q => absurd rfl q⟩
    rw [ht 3 (by decide) (by decide)]
    refine k _ ⟨r1, r2, r3, fun j hj => ?_, r5, r6⟩ (fun a ha => by rw [u2_n _ _ _ (by omega)]) rfl
    rw [u2_at, upd_at]
    split
    · rfl
    · exact r4 j hj
  · subst e
    rw [if_neg (by decide), if_neg (by decide), if_neg (by decide), if_pos rfl] at k
    refine ⟨no (by decide), no (by decide), no (by decide), no (by decide), fun _ => ?_, fun _ _ _ _ q => absurd rfl q⟩
    refine k _ ⟨?_, ?_, r3, r4, r5, r6⟩ (fun a ha => by rw [u2_n _ _ _ (by omega)]) ?_
    · rw [u2_at, if_neg (by decide)]; exact r1
    · rw [u2_at, if_pos rfl]
    · rw [u2_at, if_neg (by decide)]
  · subst e
    rw [if_neg (by decide), if_neg (by decide), if_neg (by decide), if_neg (by decide), if_pos rfl] at k
    have x1 := hd.num (u := 1) (by decide) (by decide) (by decide) (by decide)
    rw [if_neg (by decide)] at x1
    refine ⟨no (by decide), no (by decide), no (by decide), fun _ => ⟨4 * c + 2, a2', by omega, xs 1, rfl, by omega, ?_⟩, no (by decide), fun _ _ _ q => absurd rfl q⟩
    rw [ht 2 (by decide) (by decide)]
    refine k _ ⟨r1, r2, r3, r4, r5, fun m hm => ?_⟩ (fun a ha => by rw [u2_n _ _ _ (by omega)]) rfl
    rw [u2_at, upd_at]
    split
    · rfl
    · exact r6 m hm
  · have x1 := hd.num (u := 1) (by omega) (by omega) (by decide) (by omega)
    rw [if_neg (by decide)] at x1
    rw [if_neg (by omega), if_neg (by omega), if_neg (by omega), if_neg (by omega), if_neg (by omega)] at k
    have n0 : ¬ nI (mvc i) = 0 := by rcases e with rfl | rfl | rfl | rfl <;> decide
    have n1 : ¬ nI (mvc i) = 1 := by rcases e with rfl | rfl | rfl | rfl <;> decide
    have n2 : ¬ nI (mvc i) = 2 := by rcases e with rfl | rfl | rfl | rfl <;> decide
    have n3 : ¬ nI (mvc i) = 3 := by rcases e with rfl | rfl | rfl | rfl <;> decide
    have n4 : ¬ nI (mvc i) = 4 := by rcases e with rfl | rfl | rfl | rfl <;> decide
    refine ⟨no n0, no n1, no n2, no n3, no n4, fun _ _ _ _ _ => ⟨xs 1, rfl, by omega, k _ ⟨r1, r2, r3, r4, fun d hd => ?_, r6⟩ (fun a ha => by rw [u2_n _ _ _ (by omega)]) rfl⟩⟩
    rw [u2_at, upd_at]
    split
    · rcases e with rfl | rfl | rfl | rfl <;> decide
    · exact r5 d hd
/-- the house behind k lines -/
def hst (s : HT) (D : Nat → Nat × (Nat → Nat)) : Nat → HT
  | 0 => s
  | k + 1 => obs (hst s D k) (D k)
theorem pR_ok : ∀ (f p mo c : Nat) (D : Nat → Nat × (Nat → Nat)), p ≤ L → (∀ x, pR T L f p mo c D = .inl x → x ≤ L) ∧ ∀ c' D', pR T L f p mo c D = .inr (c', D') → (∀ k, k < c → D' k = D k) ∧ c < c' ∧ c' ≤ c + f ∧ ∃ ms : Nat → Nat, ms c = mo ∧ ∀ k, c ≤ k → k < c' → Fit (D' k) (ms k) ∧ ms (k + 1) = if (D' k).1 = 0 then (D' k).2 1 else ms k := by
  intro f
  induction f with
  | zero => intro p mo c D hp; exact ⟨fun x h => by cases h; omega, fun c' D' h => by cases h⟩
  | succ f ih =>
    intro p mo c D hp
    have hl := pL_ok (T := T) (mo := mo) hp
    cases hv : pL T L p mo with
    | inl x =>
      have e : pR T L (f + 1) p mo c D = .inl x := by rw [pR, hv]
      rw [e]
      exact ⟨fun y h => by cases h; exact hl.2 x hv, fun c' D' h => by cases h⟩
    | inr z =>
      obtain ⟨i, q, xs⟩ := z
      obtain ⟨hi, hq, hfit⟩ := hl.1 i q xs hv
      have hts := ts_ok (T := T) hq
      have hte := te_ok (T := T) hq
      have fit : Fit (i, xs) mo := ⟨hi, fun u h1 h2 => (hfit u h1 h2).1⟩
      have e : pR T L (f + 1) p mo c D = if ts T L q < L then (if T (ts T L q) = 59 then (if f = 0 then .inl (ts T L q) else pR T L f (te T L q) (if i = 0 then xs 1 else mo) (c + 1) (va_up D c (i, xs))) else .inl (ts T L q)) else .inr (c + 1, va_up D c (i, xs)) := by rw [pR, hv]
      rw [e]
      split
      · split
        · split
          · exact ⟨fun y h => by cases h; exact hts.2, fun c' D' h => by cases h⟩
          · obtain ⟨g1, g2⟩ := ih (te T L q) (if i = 0 then xs 1 else mo) (c + 1) (va_up D c (i, xs)) hte.2.1
            refine ⟨g1, fun c' D' h => ?_⟩
            obtain ⟨k1, k2, k3, ms, k4, k5⟩ := g2 c' D' h
            have eD : D' c = (i, xs) := by rw [k1 c (by omega), up_s]
            refine ⟨fun k hk => by rw [k1 k (by omega), up_n (by omega)], by omega, by omega, fun k => if k = c then mo else ms k, if_pos rfl, fun k hk1 hk2 => ?_⟩
            by_cases z : k = c
            · subst z
              simp only [if_pos rfl, if_neg (show ¬ k + 1 = k by omega)]
              rw [eD, k4]
              exact ⟨fit, rfl⟩
            · simp only [if_neg z, if_neg (show ¬ k + 1 = c by omega)]
              exact k5 k (by omega) hk2
        · exact ⟨fun y h => by cases h; exact hts.2, fun c' D' h => by cases h⟩
      · refine ⟨fun y h => (by cases h), fun c' D' h => ?_⟩
        cases h
        refine ⟨fun k hk => up_n (by omega), by omega, by omega, fun k => if k = c then mo else if i = 0 then xs 1 else mo, if_pos rfl, fun k hk1 hk2 => ?_⟩
        have z : k = c := by omega
        subst z
        simp only [if_pos rfl, if_neg (show ¬ k + 1 = k by omega)]
        rw [up_s]
        exact ⟨fit, rfl⟩
theorem hst_ok {s : HT} {c : Nat} {D : Nat → Nat × (Nat → Nat)} (hp : p ≤ L) (hg : Gd s) (h : pR T L 14 p s.1 0 (fun _ => (0, fun _ => 0)) = .inr (c, D)) : 1 ≤ c ∧ c ≤ 14 ∧ (∀ k, k ≤ c → Gd (hst s D k)) ∧ ∀ k, k < c → Fit (D k) (hst s D k).1 := by
  obtain ⟨-, h1, h2, ms, h3, h4⟩ := (pR_ok (T := T) 14 p s.1 0 _ hp).2 c D h
  have key : ∀ k, k ≤ c → Gd (hst s D k) ∧ (hst s D k).1 = ms k := by
    intro k
    induction k with
    | zero => intro _; exact ⟨hg, h3.symm⟩
    | succ k ih =>
      intro hk
      obtain ⟨i1, i2⟩ := ih (by omega)
      obtain ⟨f1, f2⟩ := h4 k (by omega) (by omega)
      refine ⟨?_, ?_⟩
      · rw [hst]; exact i1.ob (by rw [i2]; exact f1)
      · rw [hst, obs_fst, f2, i2]
  exact ⟨by omega, by omega, fun k hk => (key k hk).1, fun k hk => by rw [(key k (by omega)).2]; exact (h4 k (by omega) hk).1⟩
theorem Gd.fst {s : HT} (h : Gd s) : 2 ≤ s.1 ∧ s.1 ≤ 7 := by
  obtain ⟨mo, rg, sk, lk, kd, di⟩ := s
  exact h.1
/-- a house as it is told anew: the class's half, the reference's half -/
def Hc (I : Nat → Nat → Int32) (s : HT) : Prop := CR I s ∧ I 1 1 = 0 ∧ I 9 0 = 0 ∧ I 9 3 = 0 ∧ (∀ m, m < 7 → I 11 m = I 8 m) ∧ (I 22 0 = 0 ∧ I 22 1 = 0) ∧ (I 27 1 = 0 ∧ I 27 3 = 0 ∧ I 30 1 = 2 ∧ I 30 3 = 0 ∧ I 33 1 = 3 ∧ I 33 3 = 0) ∧ ∀ m, m < s.1 → ∀ d, d < s.1 → (((I 24 m >>> (nI d &&& 31)) &&& 1) = 1 ↔ 0 < I 5 (7 * m + d) ∧ mf I d (I 11 m))
def Hm (I : Nat → Nat → Int32) (s : HT) : Prop := MR I s ∧ I 48 6 = 0 ∧ I 55 0 = 0 ∧ I 55 15 = 0 ∧ (∀ m, m < 7 → I 55 (8 + m) = I 52 m) ∧ I 57 0 = 0 ∧ I 57 1 = 0
theorem Inv.new {s : HT} (hg : Gd s) (hc : Hc I s) (hm : Hm I s) : Inv I s.1 := by
  obtain ⟨mo, rg, sk, lk, kd, di⟩ := s
  obtain ⟨⟨g1, g1'⟩, g2, g3, g4, g5, g6⟩ := hg
  obtain ⟨⟨r1, r2, r3, r4, r5, r6⟩, c1, c2, c3, c4, ⟨c5, c5'⟩, ⟨t1, t2, t3, t4, t5, t6⟩, c7⟩ := hc
  obtain ⟨⟨q1, q2, q3, q4, q5, q6⟩, m1, m2, m3, m4, m5, m6⟩ := hm
  show Inv I mo
  have hy : ∀ m, m < mo → I 55 (8 + m) = -1 ∨ ∃ e, e < mo ∧ I 55 (8 + m) = nI e := fun m hm => by rw [m4 m (by omega), q6 m (by omega)]; exact g6 m (by omega)
  have y11 : ∀ m, m < 7 → I 11 m = I 55 (8 + m) := fun m hm => by rw [c4 m hm, r6 m hm, m4 m hm, q6 m hm]
  have e51 : ∀ d, d < 7 → ∃ v, v ≤ 3 ∧ I 51 d = nI v := fun d hd => by rw [q5 d hd]; exact g5 d hd
  have e7 : ∀ d, d < 7 → I 7 d = I 51 d + 1 := fun d hd => by rw [r5 d hd, q5 d hd]
  have e5 : ∀ j, j < 49 → I 5 j = I 49 j := fun j hj => by rw [r3 j hj, q3 j hj]
  refine ⟨⟨⟨q1, g1, g1'⟩, by rw [q2]; exact g2, fun j hj => by rw [q3 j hj]; exact g3 j hj, fun j hj => by rw [q4 j hj]; exact g4 j hj, e51, fun m hm => by rw [q6 m hm]; exact g6 m hm, ⟨Or.inl m2, fun z => by rw [m2] at z; exact absurd z (by decide), hy, 0, by decide, m3⟩, Or.inl m5, Or.inl m6⟩, ⟨r1, ⟨g1, g1'⟩, e5, fun j hj => by rw [r4 j hj, q4 j hj], fun m hm d hd => ?_⟩, by rw [r2, q2], e7, fun m hm => by rw [r6 m hm, q6 m hm], ⟨0, by decide, m1, c1, fun j hj => by omega⟩, ⟨by rw [c2, m2], by rw [c3, m3], fun z => by rw [m2] at z; exact absurd z (by decide), fun m hm => y11 m (by omega), fun D hD hD2 i hi => ?_⟩, ⟨by rw [c5, m5], by rw [c5', m6]⟩, fun z => by rw [m5] at z; exact absurd z (by decide), fun z => by rw [m6] at z; exact absurd z (by decide), ⟨t1, Or.inl t2⟩, ⟨t3, Or.inl t4⟩, ⟨t5, Or.inl t6⟩⟩
  · rw [c7 m hm d hd, y11 m (by omega)]
    refine mf_mb e51 e7 e5 (by omega) (by omega) ?_
    rcases hy m hm with z | ⟨e, z1, z2⟩
    · exact Or.inl z
    · exact Or.inr ⟨e, by omega, z2⟩
  · rw [m3] at hD2
    have := (nI_eq (a := 0) (by omega) (by omega)).mp hD2
    omega
/-! the pair -/
theorem bX1_begin_0 {E : Nat × (Nat → Int32)} {I : Nat → Nat → Int32} {J : Nat → Nat → Int64} {b : Bool} {n : Nat} (hn : 48 ≤ n)  {Q : Option Value → am_H → Prop}  (wp : Q none (hp (u1 (u2 (u2 I 9 0 0) 9 3 0) 11 (va_cpy (I 8) (I 11) 0 0 7)) J b)) : am_R E mX1_begin 0 [some (.ref 9), some (.ref 8)] [] (hp I J b) n n Q := by
  refine am_aload_n rfl rfl dX1_begin_0 ?_
  refine am_iconst 0 rfl dX1_begin_1 ?_
  refine am_putZ dX1_begin_2 flX1_21 (Or.inl rfl) rfl rfl (by omega) (by decide) ?_
  refine am_aload_n rfl rfl dX1_begin_5 ?_
  refine am_iconst 0 rfl dX1_begin_6 ?_
  refine am_putI dX1_begin_7 flX1_25 (Or.inl rfl) rfl rfl (by omega) ?_
  refine am_aload_n rfl rfl dX1_begin_10 ?_
  refine am_iconst 0 rfl dX1_begin_11 ?_
  refine am_aload_n rfl rfl dX1_begin_12 ?_
  refine am_getA (r := 11) dX1_begin_13 flX1_15 (Or.inr ⟨_, rfl⟩) rfl (by omega) rfl ?_
  refine am_iconst 0 rfl dX1_begin_16 ?_
  refine am_bipush 7 rfl dX1_begin_17 ?_
  refine am_copyN (s0 := 0) (d0 := 0) (x0 := 7) dX1_begin_19 lkX1_29 kn_copy rfl rfl (by omega) (by omega) rfl rfl rfl (by decide) (by decide) (by decide) (Nat.le_of_ble_eq_true rfl) (by decide) ?_
  show am_R E mX1_begin 22 [some (.ref 9), some (.ref 8)] [] (hp (u1 (u2 (u2 I 9 0 0) 9 3 0) 11 (va_cpy (I 8) (I 11) 0 0 7)) J b) n n Q
  exact am_vret dX1_begin_22 rfl wp
theorem bX9_hall_0 {E : Nat × (Nat → Int32)} {I : Nat → Nat → Int32} {J : Nat → Nat → Int64} {b : Bool}  {Q : Option Value → am_H → Prop}  (wp : am_R E mX6_read 0 [some (.ref 1), some (.int (I 4 0)), none, none] [] (hp I J b) 64 64 (fun r h' => am_R E mX9_hall 14 [some (.ref 0), none] (r.toList ++ []) h' 64 64 Q)) : am_R E mX9_hall 0 [some (.ref 0), none] [] (hp I J b) 64 64 Q := by
  refine am_aload_n rfl rfl dX9_hall_0 ?_
  refine am_getA (r := 1) dX9_hall_1 flX9_10 (Or.inl ⟨_, rfl⟩) rfl (by decide) rfl ?_
  refine am_aload_n rfl rfl dX9_hall_4 ?_
  refine am_getA (r := 4) dX9_hall_5 flX9_19 (Or.inl ⟨_, rfl⟩) rfl (by decide) rfl ?_
  refine am_getI dX9_hall_8 flX9_102 (Or.inl rfl) rfl (by decide) ?_
  refine am_invV (ci := 4) (As := [.int (I 4 0)]) (lsZ := [some (.ref 1), some (.int (I 4 0)), none, none]) (st := []) dX9_hall_11 hX6_read lkX9_105 ⟨by decide, by decide⟩ (by decide) rfl (by decide) rfl rfl rfl (Nat.le_of_ble_eq_true rfl) rfl (Nat.le_of_ble_eq_true rfl) ⟨Nat.le_refl _, Nat.le_refl _⟩ (am_R.mono wp (fun r h' q => am_R.forget q ⟨rfl, trivial⟩))
theorem bX9_hall_14 {E : Nat × (Nat → Int32)} {I : Nat → Nat → Int32} {J : Nat → Nat → Int64} {b : Bool} {x0 : Int32} {Q : Option Value → am_H → Prop}  (wp : ((x0 = (-1) → am_R E mX9_hall 23 [some (.ref 0), some (.int 0)] [] (hp I J b) 64 64 Q) ∧ (¬ x0 = (-1) → Q (some (.int (-4))) (hp I J b)))) : am_R E mX9_hall 14 [some (.ref 0), none] [.int x0] (hp I J b) 64 64 Q := by
  refine am_iconst (-1) rfl dX9_hall_14 ?_
  refine am_icmp_eq dX9_hall_15 (tgt := 21) rfl (fun hc1 => ?_) (fun hc1 => ?_)
  · have wp := wp.1 hc1
    refine am_iconst 0 rfl dX9_hall_21 ?_
    refine am_istore_n (ls' := [some (.ref 0), some (.int 0)]) rfl (by decide) rfl rfl dX9_hall_22 ?_
    exact am_R.forget wp ⟨rfl, ⟨rfl, trivial⟩⟩
  · have wp := wp.2 hc1
    refine am_bipush (-4) rfl dX9_hall_18 ?_
    exact am_iret dX9_hall_20 rfl rfl wp
theorem bX9_hall_23 {E : Nat × (Nat → Int32)} {I : Nat → Nat → Int32} {J : Nat → Nat → Int64} {b : Bool} {a1 : Int32} {Q : Option Value → am_H → Prop}  (wp : (((I 1 3) ≤ a1 → am_R E mX1_begin 0 [some (.ref 9), some (.ref 8)] [] (hp (u2 I 1 1 0) J b) 64 64 (fun r h' => am_R E mX9_hall 79 [some (.ref 0), none] (r.toList ++ []) h' 64 64 Q)) ∧ (¬ (I 1 3) ≤ a1 → am_R E mX2_obey 0 [some (.ref 4), some (.ref 3), some (.int (a1 * 4)), none, none] [] (hp I J b) 64 64 (fun r h' => am_R E mX9_hall 51 [some (.ref 0), some (.int a1)] (r.toList ++ []) h' 64 64 Q)))) : am_R E mX9_hall 23 [some (.ref 0), some (.int a1)] [] (hp I J b) 64 64 Q := by
  refine am_iload_n rfl rfl dX9_hall_23 ?_
  refine am_aload_n rfl rfl dX9_hall_24 ?_
  refine am_getA (r := 1) dX9_hall_25 flX9_10 (Or.inl ⟨_, rfl⟩) rfl (by decide) rfl ?_
  refine am_getI dX9_hall_28 flX9_109 (Or.inl rfl) rfl (by decide) ?_
  refine am_icmp_ge dX9_hall_31 (tgt := 57) rfl (fun hc1 => ?_) (fun hc1 => ?_)
  · have wp := wp.1 hc1
    refine am_aload_n rfl rfl dX9_hall_57 ?_
    refine am_getA (r := 1) dX9_hall_58 flX9_10 (Or.inl ⟨_, rfl⟩) rfl (by decide) rfl ?_
    refine am_iconst 0 rfl dX9_hall_61 ?_
    refine am_putI dX9_hall_62 flX9_93 (Or.inl rfl) rfl rfl (by decide) ?_
    refine am_aload_n rfl rfl dX9_hall_65 ?_
    refine am_getA (r := 9) dX9_hall_66 flX9_26 (Or.inl ⟨_, rfl⟩) rfl (by decide) rfl ?_
    refine am_aload_n rfl rfl dX9_hall_69 ?_
    refine am_getA (r := 4) dX9_hall_70 flX9_19 (Or.inl ⟨_, rfl⟩) rfl (by decide) rfl ?_
    refine am_getA (r := 8) dX9_hall_73 flX9_80 (Or.inr ⟨_, rfl⟩) rfl (by decide) rfl ?_
    refine am_invV (ci := 0) (As := [.ref 8]) (lsZ := [some (.ref 9), some (.ref 8)]) (st := []) dX9_hall_76 hX1_begin lkX9_83 ⟨by decide, by decide⟩ (by decide) rfl (by decide) rfl rfl rfl (Nat.le_of_ble_eq_true rfl) rfl (Nat.le_of_ble_eq_true rfl) ⟨Nat.le_refl _, Nat.le_refl _⟩ (am_R.mono wp (fun r h' q => am_R.forget q ⟨rfl, trivial⟩))
  · have wp := wp.2 hc1
    refine am_aload_n rfl rfl dX9_hall_34 ?_
    refine am_getA (r := 4) dX9_hall_35 flX9_19 (Or.inl ⟨_, rfl⟩) rfl (by decide) rfl ?_
    refine am_aload_n rfl rfl dX9_hall_38 ?_
    refine am_getA (r := 1) dX9_hall_39 flX9_10 (Or.inl ⟨_, rfl⟩) rfl (by decide) rfl ?_
    refine am_getA (r := 3) dX9_hall_42 flX9_112 (Or.inr ⟨_, rfl⟩) rfl (by decide) rfl ?_
    refine am_iload_n rfl rfl dX9_hall_45 ?_
    refine am_iconst 4 rfl dX9_hall_46 ?_
    refine am_imul dX9_hall_47 ?_
    refine am_invV (ci := 1) (As := [.ref 3, .int (a1 * 4)]) (lsZ := [some (.ref 4), some (.ref 3), some (.int (a1 * 4)), none, none]) (st := []) dX9_hall_48 hX2_obey lkX9_115 ⟨by decide, by decide⟩ (by decide) rfl (by decide) rfl rfl rfl (Nat.le_of_ble_eq_true rfl) rfl (Nat.le_of_ble_eq_true rfl) ⟨Nat.le_refl _, Nat.le_refl _⟩ (am_R.mono wp (fun r h' q => am_R.forget q ⟨rfl, ⟨rfl, trivial⟩⟩))
theorem bX9_hall_51 {E : Nat × (Nat → Int32)} {I : Nat → Nat → Int32} {J : Nat → Nat → Int64} {b : Bool} {a1 : Int32} {Q : Option Value → am_H → Prop}  (wp : am_R E mX9_hall 23 [some (.ref 0), some (.int (a1 + 1))] [] (hp I J b) 64 64 Q) : am_R E mX9_hall 51 [some (.ref 0), some (.int a1)] [] (hp I J b) 64 64 Q := by
  refine am_iinc (ls' := [some (.ref 0), some (.int (a1 + 1))]) (by decide) rfl rfl rfl dX9_hall_51 ?_
  refine am_goto dX9_hall_54 (tgt := 23) rfl ?_
  exact am_R.forget wp ⟨rfl, ⟨rfl, trivial⟩⟩
theorem bX9_hall_79 {E : Nat × (Nat → Int32)} {I : Nat → Nat → Int32} {J : Nat → Nat → Int64} {b : Bool}  {Q : Option Value → am_H → Prop}  (wp : am_R E mX9_hall 81 [some (.ref 0), some (.int 0)] [] (hp I J b) 64 64 Q) : am_R E mX9_hall 79 [some (.ref 0), none] [] (hp I J b) 64 64 Q := by
  refine am_iconst 0 rfl dX9_hall_79 ?_
  refine am_istore_n (ls' := [some (.ref 0), some (.int 0)]) rfl (by decide) rfl rfl dX9_hall_80 ?_
  exact am_R.forget wp ⟨rfl, ⟨rfl, trivial⟩⟩
theorem bX9_hall_81 {E : Nat × (Nat → Int32)} {I : Nat → Nat → Int32} {J : Nat → Nat → Int64} {b : Bool} {a1 : Int32} {Q : Option Value → am_H → Prop}  (wp : ((2 ≤ a1 → am_R E mX9_yesterdayChanged 0 [some (.ref 0), none] [] (hp I J b) 64 64 (fun r h' => am_R E mX9_hall 103 [some (.ref 0), none] (r.toList ++ []) h' 64 64 Q)) ∧ (¬ 2 ≤ a1 → ∃ j2, a1 = nI j2 ∧ j2 < 2 ∧ am_R E mX9_hall 81 [some (.ref 0), some (.int (a1 + 1))] [] (hp (u2 I 22 j2 0) J b) 64 64 Q))) : am_R E mX9_hall 81 [some (.ref 0), some (.int a1)] [] (hp I J b) 64 64 Q := by
  refine am_iload_n rfl rfl dX9_hall_81 ?_
  refine am_iconst 2 rfl dX9_hall_82 ?_
  refine am_icmp_ge dX9_hall_83 (tgt := 99) rfl (fun hc1 => ?_) (fun hc1 => ?_)
  · have wp := wp.1 hc1
    refine am_aload_n rfl rfl dX9_hall_99 ?_
    refine am_invV (ci := 7) (As := []) (lsZ := [some (.ref 0), none]) (st := []) dX9_hall_100 hX9_yesterdayChanged lkX9_119 ⟨by decide, by decide⟩ (by decide) rfl (by decide) rfl rfl rfl (Nat.le_of_ble_eq_true rfl) rfl (Nat.le_of_ble_eq_true rfl) ⟨Nat.le_refl _, Nat.le_refl _⟩ (am_R.mono wp (fun r h' q => am_R.forget q ⟨rfl, trivial⟩))
  · have wp := wp.2 hc1
    refine am_aload_n rfl rfl dX9_hall_86 ?_
    refine am_getA (r := 22) dX9_hall_87 flX9_34 (Or.inr ⟨_, rfl⟩) rfl (by decide) rfl ?_
    refine am_iload_n rfl rfl dX9_hall_90 ?_
    refine am_iconst 0 rfl dX9_hall_91 ?_
    obtain ⟨j2, e2, w2, wp⟩ := wp
    refine am_zastN (j := j2) dX9_hall_92 rfl (by decide) e2 w2 (by decide) (by decide) ?_
    refine am_iinc (ls' := [some (.ref 0), some (.int (a1 + 1))]) (by decide) rfl rfl rfl dX9_hall_93 ?_
    refine am_goto dX9_hall_96 (tgt := 81) rfl ?_
    exact am_R.forget wp ⟨rfl, ⟨rfl, trivial⟩⟩
theorem bX9_hall_103 {E : Nat × (Nat → Int32)} {I : Nat → Nat → Int32} {J : Nat → Nat → Int64} {b : Bool}  {Q : Option Value → am_H → Prop}  (wp : Q (some (.int (I 1 3))) (hp I J b)) : am_R E mX9_hall 103 [some (.ref 0), none] [] (hp I J b) 64 64 Q := by
  refine am_aload_n rfl rfl dX9_hall_103 ?_
  refine am_getA (r := 1) dX9_hall_104 flX9_10 (Or.inl ⟨_, rfl⟩) rfl (by decide) rfl ?_
  refine am_getI dX9_hall_107 flX9_109 (Or.inl rfl) rfl (by decide) ?_
  exact am_iret dX9_hall_110 rfl rfl wp
theorem bX10_hall_0 {E : Nat × (Nat → Int32)} {I : Nat → Nat → Int32} {J : Nat → Nat → Int64} {b : Bool}  {Q : Option Value → am_H → Prop}  (wp : am_R E mX10_isRead 0 [some (.ref 48), none] [] (hp I J b) 64 64 (fun r h' => am_R E mX10_hall 4 [some (.ref 48), none] (r.toList ++ []) h' 64 64 Q)) : am_R E mX10_hall 0 [some (.ref 48), none] [] (hp I J b) 64 64 Q := by
  refine am_aload_n rfl rfl dX10_hall_0 ?_
  refine am_invV (ci := 8) (As := []) (lsZ := [some (.ref 48), none]) (st := []) dX10_hall_1 hX10_isRead lkX10_156 ⟨by decide, by decide⟩ (by decide) rfl (by decide) rfl rfl rfl (Nat.le_of_ble_eq_true rfl) rfl (Nat.le_of_ble_eq_true rfl) ⟨Nat.le_refl _, Nat.le_refl _⟩ (am_R.mono wp (fun r h' q => am_R.forget q ⟨rfl, trivial⟩))
theorem bX10_hall_4 {E : Nat × (Nat → Int32)} {I : Nat → Nat → Int32} {J : Nat → Nat → Int64} {b : Bool} {x0 : Int32} {Q : Option Value → am_H → Prop}  (wp : ((¬ x0 = 0 → am_R E mX10_hall 12 [some (.ref 48), some (.int 0)] [] (hp I J b) 64 64 Q) ∧ (x0 = 0 → Q (some (.int (-4))) (hp I J b)))) : am_R E mX10_hall 4 [some (.ref 48), none] [.int x0] (hp I J b) 64 64 Q := by
  refine am_if_ne dX10_hall_4 (tgt := 10) rfl (fun hc1 => ?_) (fun hc1 => ?_)
  · have wp := wp.1 hc1
    refine am_iconst 0 rfl dX10_hall_10 ?_
    refine am_istore_n (ls' := [some (.ref 48), some (.int 0)]) rfl (by decide) rfl rfl dX10_hall_11 ?_
    exact am_R.forget wp ⟨rfl, ⟨rfl, trivial⟩⟩
  · have wp := wp.2 hc1
    refine am_bipush (-4) rfl dX10_hall_7 ?_
    exact am_iret dX10_hall_9 rfl rfl wp
theorem bX10_hall_12 {E : Nat × (Nat → Int32)} {I : Nat → Nat → Int32} {J : Nat → Nat → Int64} {b : Bool} {a1 : Int32} {Q : Option Value → am_H → Prop}  (wp : (((I 48 14) ≤ a1 → am_R E mX10_begin 0 [some (.ref 48), none] [] (hp (u2 I 48 6 0) J b) 64 64 (fun r h' => am_R E mX10_hall 42 [some (.ref 48), none] (r.toList ++ []) h' 64 64 Q)) ∧ (¬ (I 48 14) ≤ a1 → am_R E mX10_doLine 0 [some (.ref 48), some (.int (4 * a1)), none] [] (hp I J b) 64 64 (fun r h' => am_R E mX10_hall 27 [some (.ref 48), some (.int a1)] (r.toList ++ []) h' 64 64 Q)))) : am_R E mX10_hall 12 [some (.ref 48), some (.int a1)] [] (hp I J b) 64 64 Q := by
  refine am_iload_n rfl rfl dX10_hall_12 ?_
  refine am_aload_n rfl rfl dX10_hall_13 ?_
  refine am_getI dX10_hall_14 flX10_150 (Or.inl rfl) rfl (by decide) ?_
  refine am_icmp_ge dX10_hall_17 (tgt := 33) rfl (fun hc1 => ?_) (fun hc1 => ?_)
  · have wp := wp.1 hc1
    refine am_aload_n rfl rfl dX10_hall_33 ?_
    refine am_iconst 0 rfl dX10_hall_34 ?_
    refine am_putI dX10_hall_35 flX10_73 (Or.inl rfl) rfl rfl (by decide) ?_
    refine am_aload_n rfl rfl dX10_hall_38 ?_
    refine am_invV (ci := 8) (As := []) (lsZ := [some (.ref 48), none]) (st := []) dX10_hall_39 hX10_begin lkX10_66 ⟨by decide, by decide⟩ (by decide) rfl (by decide) rfl rfl rfl (Nat.le_of_ble_eq_true rfl) rfl (Nat.le_of_ble_eq_true rfl) ⟨Nat.le_refl _, Nat.le_refl _⟩ (am_R.mono wp (fun r h' q => am_R.forget q ⟨rfl, trivial⟩))
  · have wp := wp.2 hc1
    refine am_aload_n rfl rfl dX10_hall_20 ?_
    refine am_iconst 4 rfl dX10_hall_21 ?_
    refine am_iload_n rfl rfl dX10_hall_22 ?_
    refine am_imul dX10_hall_23 ?_
    refine am_invV (ci := 8) (As := [.int (4 * a1)]) (lsZ := [some (.ref 48), some (.int (4 * a1)), none]) (st := []) dX10_hall_24 hX10_doLine lkX10_159 ⟨by decide, by decide⟩ (by decide) rfl (by decide) rfl rfl rfl (Nat.le_of_ble_eq_true rfl) rfl (Nat.le_of_ble_eq_true rfl) ⟨Nat.le_refl _, Nat.le_refl _⟩ (am_R.mono wp (fun r h' q => am_R.forget q ⟨rfl, ⟨rfl, trivial⟩⟩))
theorem bX10_hall_27 {E : Nat × (Nat → Int32)} {I : Nat → Nat → Int32} {J : Nat → Nat → Int64} {b : Bool} {a1 : Int32} {Q : Option Value → am_H → Prop}  (wp : am_R E mX10_hall 12 [some (.ref 48), some (.int (a1 + 1))] [] (hp I J b) 64 64 Q) : am_R E mX10_hall 27 [some (.ref 48), some (.int a1)] [] (hp I J b) 64 64 Q := by
  refine am_iinc (ls' := [some (.ref 48), some (.int (a1 + 1))]) (by decide) rfl rfl rfl dX10_hall_27 ?_
  refine am_goto dX10_hall_30 (tgt := 12) rfl ?_
  exact am_R.forget wp ⟨rfl, ⟨rfl, trivial⟩⟩
theorem bX10_hall_42 {E : Nat × (Nat → Int32)} {I : Nat → Nat → Int32} {J : Nat → Nat → Int64} {b : Bool}  {Q : Option Value → am_H → Prop}  (wp : Q (some (.int (I 48 14))) (hp (u2 (u2 I 57 0 0) 57 1 0) J b)) : am_R E mX10_hall 42 [some (.ref 48), none] [] (hp I J b) 64 64 Q := by
  refine am_aload_n rfl rfl dX10_hall_42 ?_
  refine am_getA (r := 57) dX10_hall_43 flX10_41 (Or.inr ⟨_, rfl⟩) rfl (by decide) rfl ?_
  refine am_iconst 0 rfl dX10_hall_46 ?_
  refine am_iconst 0 rfl dX10_hall_47 ?_
  refine am_zastN (j := 0) dX10_hall_48 rfl (by decide) rfl (by decide) (by decide) (by decide) ?_
  refine am_aload_n rfl rfl dX10_hall_49 ?_
  refine am_getA (r := 57) dX10_hall_50 flX10_41 (Or.inr ⟨_, rfl⟩) rfl (by decide) rfl ?_
  refine am_iconst 1 rfl dX10_hall_53 ?_
  refine am_iconst 0 rfl dX10_hall_54 ?_
  refine am_zastN (j := 1) dX10_hall_55 rfl (by decide) rfl (by decide) (by decide) (by decide) ?_
  refine am_aload_n rfl rfl dX10_hall_56 ?_
  refine am_getI dX10_hall_57 flX10_150 (Or.inl rfl) rfl (by decide) ?_
  show am_R E mX10_hall 60 [some (.ref 48), none] [.int (I 48 14)] (hp (u2 (u2 I 57 0 0) 57 1 0) J b) 64 64 Q
  exact am_iret dX10_hall_60 rfl rfl wp
def htl (I : Nat → Nat → Int32) (n : Nat) : HT := (n, I 48 1, I 49, I 50, I 51, I 52)
theorem htl_ok (hI : Inv I n) : Gd (htl I n) ∧ CR I (htl I n) ∧ MR I (htl I n) := by
  obtain ⟨⟨⟨n0, n2, n7⟩, m2, m3, m4, m5, m6, -⟩, ⟨c1, -, c3, c4, -⟩, d2, d3, d4, -⟩ := hI
  exact ⟨⟨⟨n2, n7⟩, m2, m3, m4, m5, m6⟩, ⟨c1, d2, c3, c4, d3, d4⟩, ⟨n0, rfl, fun _ _ => rfl, fun _ _ => rfl, fun _ _ => rfl, fun _ _ => rfl⟩⟩
theorem CR.cg {s : HT} (h : CR I s) (e : ∀ a, 4 ≤ a → a ≤ 8 → I' a = I a) : CR I' s := by
  obtain ⟨mo, rg, sk, lk, kd, di⟩ := s
  unfold CR at h ⊢
  rw [e 4 (by decide) (by decide), e 5 (by decide) (by decide), e 6 (by decide) (by decide), e 7 (by decide) (by decide), e 8 (by decide) (by decide)]
  exact h
theorem MR.cg {s : HT} (h : MR I s) (e0 : I' 48 0 = I 48 0) (e1 : I' 48 1 = I 48 1) (e : ∀ a, 49 ≤ a → a ≤ 52 → I' a = I a) : MR I' s := by
  obtain ⟨mo, rg, sk, lk, kd, di⟩ := s
  unfold MR at h ⊢
  rw [e0, e1, e 49 (by decide) (by decide), e 50 (by decide) (by decide), e 51 (by decide) (by decide), e 52 (by decide) (by decide)]
  exact h
theorem CR.mo {s : HT} (h : CR I s) : I 4 0 = nI s.1 := by
  obtain ⟨mo, rg, sk, lk, kd, di⟩ := s
  exact h.1
theorem CR.di {s : HT} (hg : Gd s) (h : CR I s) : ∀ m, m < 7 → I 8 m = -1 ∨ ∃ e, e < s.1 ∧ I 8 m = nI e := by
  obtain ⟨mo, rg, sk, lk, kd, di⟩ := s
  intro m hm
  rw [h.2.2.2.2.2 m hm]
  exact hg.2.2.2.2.2 m hm
theorem p_hall (hI : Inv I n) : Pair E mX9_hall mX10_hall [some (.ref 0), none] [some (.ref 48), none] I J b := by
  have hI0 := hI
  obtain ⟨hg, hCR, hMR⟩ := htl_ok hI
  obtain ⟨hM, hC⟩ := hI
  obtain ⟨c1, c2, c3, c4, ⟨L, l1, l2, l3, l4⟩, c5, c6, c7, c8, ⟨u0, -⟩, ⟨u2', -⟩, ⟨u3, -⟩⟩ := hC
  have hN := hM.1
  have h7 : n ≤ 7 := hN.2.2
  have h1 : 1 ≤ n := by have := hN.2.1; omega
  cases hres : pR (I 53) L 14 0 n 0 (fun _ => (0, fun _ => 0)) with
  | inl x =>
    have hx := (pR_ok (T := I 53) (L := L) 14 0 n 0 (fun _ => (0, fun _ => 0)) (by omega)).1 x hres
    refine ⟨.int (-4), fun I1 => Cs I I1, fun Q h => bX9_hall_0 (tX6_read (T := I 53) (L := L) (mo := n) l3 l1 l4 c1.1 h7 (fun I1 y hy hCs => bX9_hall_14 ⟨fun z => ?_, fun _ => h I1 J b hCs⟩) (fun I1 c D hy => by rw [hres] at hy; cases hy)), fun I1 J1 b1 hCs Q h => bX10_hall_0 (tX10_isRead (T := I 53) (L := L) (mo := n) ?_ l1 (fun j hj => by rw [hCs.1 53 (by decide) (by decide)]) ?_ h1 h7 (fun I2 J2 y hy hRs h13 => bX10_hall_4 (z00 rfl (h I2 J2 b1 n (hI0.sa (rd_sa hCs hRs)))).symm) (fun I2 J2 c D hy => by rw [hres] at hy; cases hy))⟩
    · rw [hres] at hy
      cases hy
      have h0 : (0 : Int32) ≤ nI x := (nI_leI (a := 0) (by omega) (by omega)).mpr (by omega)
      rw [z] at h0
      exact absurd h0 (by decide)
    · rw [hCs.1 48 (by decide) (by decide)]; exact l2
    · rw [hCs.1 48 (by decide) (by decide)]; exact hN.1
  | inr z =>
    obtain ⟨c, D⟩ := z
    obtain ⟨hc1, hc14, hGd, hFit⟩ := hst_ok (T := I 53) (L := L) (p := 0) (s := htl I n) (by omega) hg hres
    refine ⟨.int (nI c), fun I1 => Hc I1 (hst (htl I n) D c) ∧ ∀ a, 48 ≤ a → I1 a = I a, fun Q h => bX9_hall_0 (tX6_read (T := I 53) (L := L) (mo := n) l3 l1 l4 c1.1 h7 (fun I1 y hy hCs => by rw [hres] at hy; cases hy) (fun I1 c' D' hy hCs h13 hD => bX9_hall_14 ⟨fun _ => ?_, fun z => absurd rfl z⟩)), fun I1 J1 b1 hMid Q h => bX10_hall_0 (tX10_isRead (T := I 53) (L := L) (mo := n) ?_ l1 (fun j hj => by rw [hMid.2 53 (by decide)]) ?_ h1 h7 (fun I2 J2 y hy => by rw [hres] at hy; cases hy) (fun I2 J2 c' D' hy hRs h14 hD => bX10_hall_4 ⟨fun _ => ?_, fun q => absurd q (by decide)⟩))⟩
    · rw [hres] at hy
      cases hy
      have hCR1 : CR I1 (htl I n) := hCR.cg (fun a h1 h2 => hCs.1 a (by omega) (by omega))
      have loop : ∀ r k (I2 : Nat → Nat → Int32), k + r = c → CR I2 (hst (htl I n) D k) → (∀ a, a < 4 ∨ 8 < a → I2 a = I1 a) → am_R E mX9_hall 23 [some (.ref 0), some (.int (nI k))] [] (hp I2 J b) 64 64 Q := by
        intro r
        induction r with
        | zero =>
          intro k I2 hk hR2 hs
          have ek : k = c := by omega
          subst ek
          have hG := hGd k (Nat.le_refl _)
          refine bX9_hall_23 (le_br (n := k) (m := k) (by rw [hs 1 (Or.inl (by decide))]; exact h13) rfl (by omega) (by omega) (fun _ => ?_) (fun z => by omega))
          refine bX1_begin_0 (by decide) (bX9_hall_79 ?_)
          have s1 : (0 : Int32) + 1 = 1 := by decide
          have s2 : (1 : Int32) + 1 = 2 := by decide
          refine bX9_hall_81 ⟨fun q => absurd q (by decide), fun _ => ⟨0, rfl, by decide, ?_⟩⟩
          rw [s1]
          refine bX9_hall_81 ⟨fun q => absurd q (by decide), fun _ => ⟨1, rfl, by decide, ?_⟩⟩
          rw [s2]
          refine bX9_hall_81 ⟨fun _ => ?_, fun q => absurd (by decide) q⟩
          refine tX9_yesterdayChanged (v := (hst (htl I n) D k).1) hR2.mo hG.fst.2 (fun m hm => ?_) (fun f hf => bX9_hall_103 ?_)
          · show va_cpy (I2 8) (I2 11) 0 0 7 m = -1 ∨ ∃ e, e < _ ∧ va_cpy (I2 8) (I2 11) 0 0 7 m = nI e
            have := hG.fst
            rw [cpy_o (by omega)]
            exact CR.di hG hR2 m (by omega)
          · have ans : (yc (u2 (u2 (u1 (u2 (u2 (u2 I2 1 1 0) 9 0 0) 9 3 0) 11 (va_cpy (I2 8) (I2 11) 0 0 7)) 22 0 0) 22 1 0) f) 1 3 = nI k := by
              show I2 1 3 = nI k
              rw [hs 1 (Or.inl (by decide))]; exact h13
            have fin := h (yc (u2 (u2 (u1 (u2 (u2 (u2 I2 1 1 0) 9 0 0) 9 3 0) 11 (va_cpy (I2 8) (I2 11) 0 0 7)) 22 0 0) 22 1 0) f) J b ⟨⟨hR2.cg (fun a h1 h2 => ?_), rfl, rfl, rfl, fun m hm => ?_, ⟨rfl, rfl⟩, ⟨?_, rfl, ?_, rfl, ?_, rfl⟩, fun m hm d hd => hf m hm d hd⟩, fun a ha => ?_⟩
            · rw [← ans] at fin; exact fin
            · rcases (show a = 4 ∨ a = 5 ∨ a = 6 ∨ a = 7 ∨ a = 8 by omega) with rfl | rfl | rfl | rfl | rfl <;> rfl
            · show va_cpy (I2 8) (I2 11) 0 0 7 m = I2 8 m
              exact cpy_o hm
            · show I2 27 1 = 0
              rw [hs 27 (Or.inr (by decide)), hCs.1 27 (by decide) (by decide)]; exact u0
            · show I2 30 1 = 2
              rw [hs 30 (Or.inr (by decide)), hCs.1 30 (by decide) (by decide)]; exact u2'
            · show I2 33 1 = 3
              rw [hs 33 (Or.inr (by decide)), hCs.1 33 (by decide) (by decide)]; exact u3
            · unfold yc
              rw [u2_n _ _ _ (by omega), u2_n _ _ _ (by omega), u2_n _ _ _ (by omega), u1_n _ _ (by omega), u2_n _ _ _ (by omega), u2_n _ _ _ (by omega), u1_n _ _ (by omega), u2_n _ _ _ (by omega), u2_n _ _ _ (by omega), u2_n _ _ _ (by omega), hs a (by omega)]
              exact hCs.1 a (by omega) (by omega)
        | succ r ih =>
          intro k I2 hk hR2 hs
          refine bX9_hall_23 (le_br (n := c) (m := k) (by rw [hs 1 (Or.inl (by decide))]; exact h13) rfl (by omega) (by omega) (fun z => by omega) (fun _ => ?_))
          obtain ⟨d1, d2⟩ := hD k (by omega)
          refine tX2_obey (s := hst (htl I n) D k) (d := D k) (c := k) hR2 (hGd k (by omega)).fst.2 (hFit k (by omega)) (by rw [show (4 : Int32) = nI 4 from rfl, pk_mul, Nat.mul_comm]) (by omega) (by rw [hs 3 (Or.inl (by decide))]; exact d1) (fun t t1 t2 => by rw [hs 3 (Or.inl (by decide))]; exact d2 t t1 t2) (fun I3 hR3 hs3 => bX9_hall_51 ?_)
          rw [n1]
          exact ih (k + 1) I3 (by omega) hR3 (fun a ha => (hs3 a ha).trans (hs a ha))
      exact loop c 0 I1 (by omega) hCR1 (fun a _ => rfl)
    · rw [hMid.2 48 (by decide)]; exact l2
    · rw [hMid.2 48 (by decide)]; exact hN.1
    · rw [hres] at hy
      cases hy
      have hMR1 : MR I1 (htl I n) := hMR.cg (by rw [hMid.2 48 (by decide)]) (by rw [hMid.2 48 (by decide)]) (fun a h1 h2 => hMid.2 a (by omega))
      have hMR2 : MR I2 (htl I n) := hMR1.cg hRs.2.1 hRs.2.2.1 (fun a h1 h2 => hRs.1 a (by omega) (by omega))
      have loop : ∀ r k (I3 : Nat → Nat → Int32), k + r = c → MR I3 (hst (htl I n) D k) → (∀ a, a < 48 ∨ 52 < a → I3 a = I2 a) → I3 48 14 = nI c → am_R E mX10_hall 12 [some (.ref 48), some (.int (nI k))] [] (hp I3 J2 b1) 64 64 Q := by
        intro r
        induction r with
        | zero =>
          intro k I3 hk hR3 hs h14
          have ek : k = c := by omega
          subst ek
          have hG := hGd k (Nat.le_refl _)
          refine bX10_hall_12 (le_br (n := k) (m := k) h14 rfl (by omega) (by omega) (fun _ => ?_) (fun z => by omega))
          refine tX10_begin (fun I4 b1 b2 b3 b4 => bX10_hall_42 ?_)
          rw [b1 48 (by decide), u2_at, if_neg (by decide), h14]
          have fr : ∀ a, a < 48 → u2 (u2 I4 57 0 0) 57 1 0 a = I1 a := fun a ha => by
            rw [u2_n _ _ _ (by omega), u2_n _ _ _ (by omega), b1 a (by omega), u2_n _ _ _ (by omega), hs a (Or.inl ha), hRs.1 a (by omega) (by omega)]
          refine h _ J2 _ (hst (htl I n) D k).1 (Inv.new hG ?_ ⟨hR3.cg ?_ ?_ (fun a h1 h2 => ?_), ?_, ?_, ?_, fun m hm => ?_, rfl, rfl⟩)
          · obtain ⟨e1, e2, e3, e4, e5, e6, e7, e8⟩ := hMid.1
            refine ⟨e1.cg (fun a h1 h2 => fr a (by omega)), ?_, ?_, ?_, ?_, ?_, ?_, ?_⟩
            · rw [fr 1 (by decide)]; exact e2
            · rw [fr 9 (by decide)]; exact e3
            · rw [fr 9 (by decide)]; exact e4
            · rw [fr 11 (by decide), fr 8 (by decide)]; exact e5
            · rw [fr 22 (by decide)]; exact e6
            · rw [fr 27 (by decide), fr 30 (by decide), fr 33 (by decide)]; exact e7
            · unfold mf at e8 ⊢
              rw [fr 24 (by decide), fr 5 (by decide), fr 11 (by decide), fr 7 (by decide)]; exact e8
          · show I4 48 0 = I3 48 0
            rw [b1 48 (by decide), u2_at, if_neg (by decide)]
          · show I4 48 1 = I3 48 1
            rw [b1 48 (by decide), u2_at, if_neg (by decide)]
          · rw [u2_n _ _ _ (by omega), u2_n _ _ _ (by omega), b1 a (by omega), u2_n _ _ _ (by omega)]
          · show I4 48 6 = 0
            rw [b1 48 (by decide), u2_at, if_pos rfl]
          · exact b2
          · exact b3
          · show I4 55 (8 + m) = I4 52 m
            rw [b4 m hm, b1 52 (by decide)]
        | succ r ih =>
          intro k I3 hk hR3 hs h14
          refine bX10_hall_12 (le_br (n := c) (m := k) h14 rfl (by omega) (by omega) (fun z => by omega) (fun _ => ?_))
          obtain ⟨d1, d2⟩ := hD k (by omega)
          refine tX10_doLine (s := hst (htl I n) D k) (d := D k) (c := k) hR3 (hGd k (by omega)).fst.2 (hFit k (by omega)) (by rw [show (4 : Int32) = nI 4 from rfl, pk_mul]) (by omega) (by rw [hs 54 (Or.inr (by decide))]; exact d1) (fun t t1 t2 => by rw [hs 54 (Or.inr (by decide))]; exact d2 t t1 t2) (fun I4 hR4 hs4 h144 => bX10_hall_27 ?_)
          rw [n1]
          exact ih (k + 1) I4 (by omega) hR4 (fun a ha => (hs4 a ha).trans (hs a ha)) (h144.trans h14)
      exact loop c 0 I2 (by omega) hMR2 (fun a _ => rfl) h14
end P24
