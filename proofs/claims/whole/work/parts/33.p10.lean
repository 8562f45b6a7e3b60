/-! ===== the class's tallies ===== -/
section P10
variable {E : Nat × (Nat → Int32)} {I I' : Nat → Nat → Int32} {J : Nat → Nat → Int64} {b : Bool} {n : Nat} {Q : Option Value → am_H → Prop}
theorem rc28 : rowc 28 := Or.inr (Or.inl rfl)
theorem rc31 : rowc 31 := Or.inr (Or.inr (Or.inl rfl))
theorem rc34 : rowc 34 := Or.inr (Or.inr (Or.inr (Or.inl rfl)))
/-- the cells that a tally's work may change -/
def tS (t r h : Nat) : List Nat := [23, 25, r, t, h]
theorem Ag.CH {t r h : Nat} (ha : Ag (tS t r h) I I') (ht : (t = 27 ∧ r = 28 ∧ h = 29) ∨ (t = 30 ∧ r = 31 ∧ h = 32) ∨ (t = 33 ∧ r = 34 ∧ h = 35)) : CH I' = CH I ∧ my I' = my I ∧ stR I' = stR I ∧ I' 49 = I 49 ∧ I' 50 = I 50 ∧ I' 4 = I 4 := by
  rcases ht with ⟨rfl, rfl, rfl⟩ | ⟨rfl, rfl, rfl⟩ | ⟨rfl, rfl, rfl⟩
  all_goals
    have h49 := ha 49 (by decide)
    have h50 := ha 50 (by decide)
    have h51 := ha 51 (by decide)
    have h55 : ∀ m, I' 55 (8 + m) = I 55 (8 + m) := fun m => by rw [ha 55 (by decide)]
    exact ⟨CH_eq (ha 4 (by decide)) (ha 5 (by decide)) (ha 6 (by decide)) (ha 24 (by decide)) h49 h50 h51 h55, my_eq h49 h51 h55, stR_eq h49 h50 h51 h55, h49, h50, ha 4 (by decide)⟩
theorem bX8_addRowA_0 {E : Nat × (Nat → Int32)} {I : Nat → Nat → Int32} {J : Nat → Nat → Int64} {b : Bool} {a1 : Int32} {Q : Option Value → am_H → Prop}  (wp : am_R E mX2_workOf 0 [some (.ref 4), some (.ref 28), none, none] [] (hp (u2 I 27 4 ((I 27 4) + 1)) J b) 64 64 (fun r h' => am_R E mX8_addRow 29 [some (.ref 27), some (.int a1), none] (r.toList ++ [.int (I 27 5), .ref 27]) h' 64 64 Q)) : am_R E mX8_addRow 0 [some (.ref 27), some (.int a1), none] [] (hp I J b) 64 64 Q := by
  refine am_aload_n rfl rfl dX8_addRow_0 ?_
  refine am_dup rfl dX8_addRow_1 ?_
  refine am_getI dX8_addRow_2 flX8_26 (Or.inl rfl) rfl (by decide) ?_
  refine am_iconst 1 rfl dX8_addRow_5 ?_
  refine am_iadd dX8_addRow_6 ?_
  refine am_putI dX8_addRow_7 flX8_26 (Or.inl rfl) rfl rfl (by decide) ?_
  refine am_aload_n rfl rfl dX8_addRow_10 ?_
  refine am_dup rfl dX8_addRow_11 ?_
  refine am_getI dX8_addRow_12 flX8_29 (Or.inl rfl) rfl (by decide) ?_
  show am_R E mX8_addRow 15 [some (.ref 27), some (.int a1), none] [.int (I 27 5), .ref 27] (hp (u2 I 27 4 ((I 27 4) + 1)) J b) 64 64 Q
  refine am_aload_n rfl rfl dX8_addRow_15 ?_
  refine am_getA (r := 23) dX8_addRow_16 flX8_18 (Or.inl ⟨_, rfl⟩) rfl (by decide) rfl ?_
  refine am_getA (r := 4) dX8_addRow_19 flX8_35 (Or.inl ⟨_, rfl⟩) rfl (by decide) rfl ?_
  refine am_aload_n rfl rfl dX8_addRow_22 ?_
  refine am_getA (r := 28) dX8_addRow_23 flX8_9 (Or.inr ⟨_, rfl⟩) rfl (by decide) rfl ?_
  refine am_invV (ci := 1) (As := [.ref 28]) (lsZ := [some (.ref 4), some (.ref 28), none, none]) (st := [.int (I 27 5), .ref 27]) dX8_addRow_26 hX2_workOf lkX8_71 ⟨by decide, by decide⟩ (by decide) rfl (by decide) rfl rfl rfl (Nat.le_of_ble_eq_true rfl) rfl (Nat.le_of_ble_eq_true rfl) ⟨Nat.le_refl _, Nat.le_refl _⟩ (am_R.mono wp (fun r h' q => am_R.forget q ⟨rfl, ⟨rfl, trivial⟩⟩))
theorem bX8_addRowA_29 {E : Nat × (Nat → Int32)} {I : Nat → Nat → Int32} {J : Nat → Nat → Int64} {b : Bool} {a1 : Int32} {x0 : Int32} {x1 : Int32} {Q : Option Value → am_H → Prop}  (wp : am_R E mX2_gladnessOf 0 [some (.ref 4), some (.ref 28), none, none] [] (hp (u2 I 27 5 (x1 + x0)) J b) 64 64 (fun r h' => am_R E mX8_addRow 52 [some (.ref 27), some (.int a1), none] (r.toList ++ [.int (I 27 6), .ref 27]) h' 64 64 Q)) : am_R E mX8_addRow 29 [some (.ref 27), some (.int a1), none] [.int x0, .int x1, .ref 27] (hp I J b) 64 64 Q := by
  refine am_iadd dX8_addRow_29 ?_
  refine am_putI dX8_addRow_30 flX8_29 (Or.inl rfl) rfl rfl (by decide) ?_
  refine am_aload_n rfl rfl dX8_addRow_33 ?_
  refine am_dup rfl dX8_addRow_34 ?_
  refine am_getI dX8_addRow_35 flX8_32 (Or.inl rfl) rfl (by decide) ?_
  show am_R E mX8_addRow 38 [some (.ref 27), some (.int a1), none] [.int (I 27 6), .ref 27] (hp (u2 I 27 5 (x1 + x0)) J b) 64 64 Q
  refine am_aload_n rfl rfl dX8_addRow_38 ?_
  refine am_getA (r := 23) dX8_addRow_39 flX8_18 (Or.inl ⟨_, rfl⟩) rfl (by decide) rfl ?_
  refine am_getA (r := 4) dX8_addRow_42 flX8_35 (Or.inl ⟨_, rfl⟩) rfl (by decide) rfl ?_
  refine am_aload_n rfl rfl dX8_addRow_45 ?_
  refine am_getA (r := 28) dX8_addRow_46 flX8_9 (Or.inr ⟨_, rfl⟩) rfl (by decide) rfl ?_
  refine am_invV (ci := 1) (As := [.ref 28]) (lsZ := [some (.ref 4), some (.ref 28), none, none]) (st := [.int (I 27 6), .ref 27]) dX8_addRow_49 hX2_gladnessOf lkX8_75 ⟨by decide, by decide⟩ (by decide) rfl (by decide) rfl rfl rfl (Nat.le_of_ble_eq_true rfl) rfl (Nat.le_of_ble_eq_true rfl) ⟨Nat.le_refl _, Nat.le_refl _⟩ (am_R.mono wp (fun r h' q => am_R.forget q ⟨rfl, ⟨rfl, trivial⟩⟩))
theorem bX8_addRowA_52 {E : Nat × (Nat → Int32)} {I : Nat → Nat → Int32} {J : Nat → Nat → Int64} {b : Bool} {a1 : Int32} {x0 : Int32} {x1 : Int32} {Q : Option Value → am_H → Prop}  (wp : am_R E mX8_addRow 58 [some (.ref 27), some (.int a1), some (.int 0)] [] (hp (u2 I 27 6 (x1 + x0)) J b) 64 64 Q) : am_R E mX8_addRow 52 [some (.ref 27), some (.int a1), none] [.int x0, .int x1, .ref 27] (hp I J b) 64 64 Q := by
  refine am_iadd dX8_addRow_52 ?_
  refine am_putI dX8_addRow_53 flX8_32 (Or.inl rfl) rfl rfl (by decide) ?_
  refine am_iconst 0 rfl dX8_addRow_56 ?_
  refine am_istore_n (ls' := [some (.ref 27), some (.int a1), some (.int 0)]) rfl (by decide) rfl rfl dX8_addRow_57 ?_
  exact am_R.forget wp ⟨rfl, ⟨rfl, ⟨rfl, trivial⟩⟩⟩
theorem bX8_addRowA_58 {E : Nat × (Nat → Int32)} {I : Nat → Nat → Int32} {J : Nat → Nat → Int64} {b : Bool} {a1 : Int32} {a2 : Int32} {Q : Option Value → am_H → Prop}  (wp : ((a1 ≤ a2 → Q none (hp I J b)) ∧ (¬ a1 ≤ a2 → ∃ j2, a2 = nI j2 ∧ j2 < 7 ∧ ∃ j3, ((a2 * 7) + (I 28 j2)) = nI j3 ∧ j3 < 49 ∧ am_R E mX8_addRow 58 [some (.ref 27), some (.int a1), some (.int (a2 + 1))] [] (hp (u2 I 29 j3 ((I 29 j3) + 1)) J b) 64 64 Q))) : am_R E mX8_addRow 58 [some (.ref 27), some (.int a1), some (.int a2)] [] (hp I J b) 64 64 Q := by
  refine am_iload_n rfl rfl dX8_addRow_58 ?_
  refine am_iload_n rfl rfl dX8_addRow_59 ?_
  refine am_icmp_ge dX8_addRow_60 (tgt := 88) rfl (fun hc1 => ?_) (fun hc1 => ?_)
  · have wp := wp.1 hc1
    exact am_vret dX8_addRow_88 rfl wp
  · have wp := wp.2 hc1
    refine am_aload_n rfl rfl dX8_addRow_63 ?_
    refine am_getA (r := 29) dX8_addRow_64 flX8_15 (Or.inr ⟨_, rfl⟩) rfl (by decide) rfl ?_
    refine am_iload_n rfl rfl dX8_addRow_67 ?_
    refine am_aload_n rfl rfl dX8_addRow_68 ?_
    refine am_getA (r := 28) dX8_addRow_69 flX8_9 (Or.inr ⟨_, rfl⟩) rfl (by decide) rfl ?_
    refine am_iload_n rfl rfl dX8_addRow_72 ?_
    obtain ⟨j2, e2, w2, wp⟩ := wp
    refine am_ialdN (j := j2) dX8_addRow_73 rfl (by decide) e2 w2 (by decide) ?_
    refine am_invS (As := [.int a2, .int (I 28 j2)]) (lsZ := [some (.int a2), some (.int (I 28 j2))]) (st := [.ref 29]) dX8_addRow_74 hX2_cell lkX8_78 ⟨by decide, by decide⟩ rfl rfl (Nat.le_of_ble_eq_true rfl) rfl (Nat.le_of_ble_eq_true rfl) ⟨Nat.le_refl _, Nat.le_refl _⟩ (tX2_cell (by decide)  ?_)
    show am_R E mX8_addRow 77 [some (.ref 27), some (.int a1), some (.int a2)] [.int ((a2 * 7) + (I 28 j2)), .ref 29] (hp I J b) 64 64 Q
    refine am_dup2 rfl rfl dX8_addRow_77 ?_
    obtain ⟨j3, e3, w3, wp⟩ := wp
    refine am_ialdN (j := j3) dX8_addRow_78 rfl (by decide) e3 w3 (by decide) ?_
    refine am_iconst 1 rfl dX8_addRow_79 ?_
    refine am_iadd dX8_addRow_80 ?_
    refine am_iastN (j := j3) dX8_addRow_81 rfl (by decide) e3 w3 (by decide) ?_
    refine am_iinc (ls' := [some (.ref 27), some (.int a1), some (.int (a2 + 1))]) (by decide) rfl rfl rfl dX8_addRow_82 ?_
    refine am_goto dX8_addRow_85 (tgt := 58) rfl ?_
    exact am_R.forget wp ⟨rfl, ⟨rfl, ⟨rfl, trivial⟩⟩⟩
theorem tX8_addRowA {a1 : Int32} {p : Nat → Nat} (en : a1 = nI n) (hC : CH I n) (hR : Rw (I 28) p n) (k : ∀ I', Ag [27, 29] I I' → (∀ j, j < 4 → I' 27 j = I 27 j) → I' 27 4 = I 27 4 + 1 → I' 27 5 = I 27 5 + sm (fun m => I 49 (7 * m + p m)) n → I' 27 6 = I 27 6 + sm (fun m => I 50 (7 * m + p m)) n → (∀ m, m < n → ∀ d, d < n → I' 29 (7 * m + d) = I 29 (7 * m + d) + (if p m = d then 1 else 0)) → Q none (hp I' J b)) : am_R E mX8_addRow 0 [some (.ref 27), some (.int a1), none] [] (hp I J b) 64 64 Q := by
  subst en
  have h7 := hC.2.1.2
  refine bX8_addRowA_0 (tX2_workOf (I := u2 I 27 4 (I 27 4 + 1)) (p := p) rc28 hC hR ?_)
  refine bX8_addRowA_29 (tX2_gladnessOf (I := u2 (u2 I 27 4 (I 27 4 + 1)) 27 5 (I 27 5 + sm (fun m => I 49 (7 * m + p m)) n)) (p := p) rc28 hC hR ?_)
  refine bX8_addRowA_52 ?_
  show am_R E mX8_addRow 58 [some (.ref 27), some (.int (nI n)), some (.int 0)] [] (hp (u2 (u2 (u2 I 27 4 (I 27 4 + 1)) 27 5 (I 27 5 + sm (fun m => I 49 (7 * m + p m)) n)) 27 6 (I 27 6 + sm (fun m => I 50 (7 * m + p m)) n)) J b) 64 64 Q
  generalize hG : u2 (u2 (u2 I 27 4 (I 27 4 + 1)) 27 5 (I 27 5 + sm (fun m => I 49 (7 * m + p m)) n)) 27 6 (I 27 6 + sm (fun m => I 50 (7 * m + p m)) n) = G
  have gA : Ag [27, 29] I G := by rw [← hG]; exact (((Ag.rf _ I).u2 (by decide)).u2 (by decide)).u2 (by decide)
  have g3 : ∀ j, j < 4 → G 27 j = I 27 j := fun j hj => by
    rw [← hG, u2_s, u2_s, u2_s]; unfold upd; rw [if_neg (by omega), if_neg (by omega), if_neg (by omega)]
  have g4 : G 27 4 = I 27 4 + 1 := by rw [← hG]; rfl
  have g5 : G 27 5 = I 27 5 + sm (fun m => I 49 (7 * m + p m)) n := by rw [← hG]; rfl
  have g6 : G 27 6 = I 27 6 + sm (fun m => I 50 (7 * m + p m)) n := by rw [← hG]; rfl
  have gr : G 28 = I 28 := gA 28 (by decide)
  have gh : G 29 = I 29 := by rw [← hG]; rfl
  have key : ∀ j m, m + j = n → ∀ g : Nat → Int32, (∀ i, i < n → ∀ d, d < n → g (7 * i + d) = I 29 (7 * i + d) + (if i < m ∧ p i = d then 1 else 0)) → am_R E mX8_addRow 58 [some (.ref 27), some (.int (nI n)), some (.int (nI m))] [] (hp (u1 G 29 g) J b) 64 64 Q := by
    intro j
    induction j with
    | zero =>
      intro m hm g hg
      have e : m = n := by omega
      subst e
      refine bX8_addRowA_58 (le_br rfl rfl (by omega) (by omega) (fun _ => ?_) (fun q => by omega))
      refine k _ (gA.u1 (by decide)) (fun j hj => by rw [u1_n _ _ (by decide)]; exact g3 j hj) (by rw [u1_n _ _ (by decide)]; exact g4) (by rw [u1_n _ _ (by decide)]; exact g5) (by rw [u1_n _ _ (by decide)]; exact g6) (fun i hi d hd => ?_)
      rw [u1_s, hg i hi d hd]
      congr 1
      by_cases e : p i = d
      · rw [if_pos ⟨hi, e⟩, if_pos e]
      · rw [if_neg (fun z => e z.2), if_neg e]
    | succ j ih =>
      intro m hm g hg
      have hmn : m < n := by omega
      have hpm := hR m hmn
      have e0 : u1 G 29 g 28 m = nI (p m) := by rw [u1_n _ _ (by decide), gr]; exact hpm.1
      refine bX8_addRowA_58 (le_br rfl rfl (by omega) (by omega) (fun q => by omega) (fun _ => ⟨m, rfl, by omega, 7 * m + p m, by rw [e0, k7'], by omega, ?_⟩))
      rw [n1, u2_u1, u1_s]
      refine ih (m + 1) (by omega) _ (fun i hi d hd => ?_)
      unfold upd
      by_cases q : 7 * i + d = 7 * m + p m
      · have q1 : i = m := by omega
        have q2 : d = p m := by omega
        rw [if_pos q, hg m hmn (p m) hpm.2, if_neg (fun z => by omega), q1, q2, if_pos ⟨by omega, rfl⟩, Int32.add_zero]
      · rw [if_neg q, hg i hi d hd]
        congr 1
        by_cases z : i < m ∧ p i = d
        · rw [if_pos z, if_pos ⟨by omega, z.2⟩]
        · rw [if_neg z, if_neg (fun w => ?_)]
          rcases Nat.lt_or_ge i m with x | x
          · exact z ⟨x, w.2⟩
          · have : i = m := by omega
            subst this
            exact q (by rw [w.2])
  have := key n 0 (by omega) (I 29) (fun i hi d hd => by rw [if_neg (fun z => by omega), Int32.add_zero])
  rw [← gh, u1_self] at this
  exact this
theorem bX8_makeA_0 {E : Nat × (Nat → Int32)} {I : Nat → Nat → Int32} {J : Nat → Nat → Int64} {b : Bool}  {Q : Option Value → am_H → Prop}  (wp : am_R E mX8_make 17 [some (.ref 27), some (.int 0), none] [] (hp (u2 (u2 (u2 I 27 4 0) 27 5 0) 27 6 0) J b) 64 64 Q) : am_R E mX8_make 0 [some (.ref 27), none, none] [] (hp I J b) 64 64 Q := by
  refine am_aload_n rfl rfl dX8_make_0 ?_
  refine am_iconst 0 rfl dX8_make_1 ?_
  refine am_putI dX8_make_2 flX8_26 (Or.inl rfl) rfl rfl (by decide) ?_
  refine am_aload_n rfl rfl dX8_make_5 ?_
  refine am_iconst 0 rfl dX8_make_6 ?_
  refine am_putI dX8_make_7 flX8_29 (Or.inl rfl) rfl rfl (by decide) ?_
  refine am_aload_n rfl rfl dX8_make_10 ?_
  refine am_iconst 0 rfl dX8_make_11 ?_
  refine am_putI dX8_make_12 flX8_32 (Or.inl rfl) rfl rfl (by decide) ?_
  refine am_iconst 0 rfl dX8_make_15 ?_
  refine am_istore_n (ls' := [some (.ref 27), some (.int 0), none]) rfl (by decide) rfl rfl dX8_make_16 ?_
  exact am_R.forget wp ⟨rfl, ⟨rfl, trivial⟩⟩
theorem bX8_makeA_17 {E : Nat × (Nat → Int32)} {I : Nat → Nat → Int32} {J : Nat → Nat → Int64} {b : Bool} {a1 : Int32} {Q : Option Value → am_H → Prop}  (wp : ((49 ≤ a1 → am_R E mX8_make 52 [some (.ref 27), some (.int (I 4 0)), some (.int 0)] [] (hp I J b) 64 64 Q) ∧ (¬ 49 ≤ a1 → ∃ j2, a1 = nI j2 ∧ j2 < 49 ∧ am_R E mX8_make 17 [some (.ref 27), some (.int (a1 + 1)), none] [] (hp (u2 I 29 j2 0) J b) 64 64 Q))) : am_R E mX8_make 17 [some (.ref 27), some (.int a1), none] [] (hp I J b) 64 64 Q := by
  refine am_iload_n rfl rfl dX8_make_17 ?_
  refine am_aload_n rfl rfl dX8_make_18 ?_
  refine am_getA (r := 29) dX8_make_19 flX8_15 (Or.inr ⟨_, rfl⟩) rfl (by decide) rfl ?_
  refine am_alen dX8_make_22 rfl (Or.inl rfl) (by decide) ?_
  show am_R E mX8_make 23 [some (.ref 27), some (.int a1), none] [.int 49, .int a1] (hp I J b) 64 64 Q
  refine am_icmp_ge dX8_make_23 (tgt := 39) rfl (fun hc1 => ?_) (fun hc1 => ?_)
  · have wp := wp.1 hc1
    refine am_aload_n rfl rfl dX8_make_39 ?_
    refine am_getA (r := 23) dX8_make_40 flX8_18 (Or.inl ⟨_, rfl⟩) rfl (by decide) rfl ?_
    refine am_getA (r := 4) dX8_make_43 flX8_35 (Or.inl ⟨_, rfl⟩) rfl (by decide) rfl ?_
    refine am_getI dX8_make_46 flX8_41 (Or.inl rfl) rfl (by decide) ?_
    refine am_istore_n (ls' := [some (.ref 27), some (.int (I 4 0)), none]) rfl (by decide) rfl rfl dX8_make_49 ?_
    refine am_iconst 0 rfl dX8_make_50 ?_
    refine am_istore_n (ls' := [some (.ref 27), some (.int (I 4 0)), some (.int 0)]) rfl (by decide) rfl rfl dX8_make_51 ?_
    exact am_R.forget wp ⟨rfl, ⟨rfl, ⟨rfl, trivial⟩⟩⟩
  · have wp := wp.2 hc1
    refine am_aload_n rfl rfl dX8_make_26 ?_
    refine am_getA (r := 29) dX8_make_27 flX8_15 (Or.inr ⟨_, rfl⟩) rfl (by decide) rfl ?_
    refine am_iload_n rfl rfl dX8_make_30 ?_
    refine am_iconst 0 rfl dX8_make_31 ?_
    obtain ⟨j2, e2, w2, wp⟩ := wp
    refine am_iastN (j := j2) dX8_make_32 rfl (by decide) e2 w2 (by decide) ?_
    refine am_iinc (ls' := [some (.ref 27), some (.int (a1 + 1)), none]) (by decide) rfl rfl rfl dX8_make_33 ?_
    refine am_goto dX8_make_36 (tgt := 17) rfl ?_
    exact am_R.forget wp ⟨rfl, ⟨rfl, trivial⟩⟩
theorem bX8_makeA_52 {E : Nat × (Nat → Int32)} {I : Nat → Nat → Int32} {J : Nat → Nat → Int64} {b : Bool} {a1 : Int32} {a2 : Int32} {Q : Option Value → am_H → Prop}  (wp : ∃ j1, a1 = nI j1 ∧ j1 < 8 ∧ (((am_fa j1) ≤ a2 → Q none (hp (u2 I 27 3 1) J b)) ∧ (¬ (am_fa j1) ≤ a2 → am_R E mX3_fill 0 [some (.ref 28), some (.int a1), some (.int a2), none, none, none, none, none, none] [] (hp I J b) 64 64 (fun r h' => am_R E mX8_make 70 [some (.ref 27), some (.int a1), some (.int a2)] (r.toList ++ []) h' 64 64 Q)))) : am_R E mX8_make 52 [some (.ref 27), some (.int a1), some (.int a2)] [] (hp I J b) 64 64 Q := by
  refine am_iload_n rfl rfl dX8_make_52 ?_
  refine am_gsFN dX8_make_53 (by decide +kernel) ?_
  refine am_iload_n rfl rfl dX8_make_56 ?_
  obtain ⟨j1, e1, w1, wp⟩ := wp
  refine am_ildFN (j := j1) dX8_make_57 e1 w1 ?_
  refine am_icmp_ge dX8_make_58 (tgt := 111) rfl (fun hc2 => ?_) (fun hc2 => ?_)
  · have wp := wp.1 hc2
    refine am_aload_n rfl rfl dX8_make_111 ?_
    refine am_iconst 1 rfl dX8_make_112 ?_
    refine am_putZ dX8_make_113 flX8_67 (Or.inl rfl) rfl rfl (by decide) (by decide) ?_
    exact am_vret dX8_make_116 rfl wp
  · have wp := wp.2 hc2
    refine am_aload_n rfl rfl dX8_make_61 ?_
    refine am_getA (r := 28) dX8_make_62 flX8_9 (Or.inr ⟨_, rfl⟩) rfl (by decide) rfl ?_
    refine am_iload_n rfl rfl dX8_make_65 ?_
    refine am_iload_n rfl rfl dX8_make_66 ?_
    refine am_invS (As := [.ref 28, .int a1, .int a2]) (lsZ := [some (.ref 28), some (.int a1), some (.int a2), none, none, none, none, none, none]) (st := []) dX8_make_67 hX3_fill lkX8_49 ⟨by decide, by decide⟩ rfl rfl (Nat.le_of_ble_eq_true rfl) rfl (Nat.le_of_ble_eq_true rfl) ⟨Nat.le_refl _, Nat.le_refl _⟩ (am_R.mono wp (fun r h' q => am_R.forget q ⟨rfl, ⟨rfl, ⟨rfl, trivial⟩⟩⟩))
theorem bX8_makeA_70 {E : Nat × (Nat → Int32)} {I : Nat → Nat → Int32} {J : Nat → Nat → Int64} {b : Bool} {a1 : Int32} {a2 : Int32} {Q : Option Value → am_H → Prop}  (wp : am_R E mX5_allMayDo 0 [some (.ref 23), some (.ref 28), none] [] (hp I J b) 64 64 (fun r h' => am_R E mX8_make 81 [some (.ref 27), some (.int a1), some (.int a2)] (r.toList ++ []) h' 64 64 Q)) : am_R E mX8_make 70 [some (.ref 27), some (.int a1), some (.int a2)] [] (hp I J b) 64 64 Q := by
  refine am_aload_n rfl rfl dX8_make_70 ?_
  refine am_getA (r := 23) dX8_make_71 flX8_18 (Or.inl ⟨_, rfl⟩) rfl (by decide) rfl ?_
  refine am_aload_n rfl rfl dX8_make_74 ?_
  refine am_getA (r := 28) dX8_make_75 flX8_9 (Or.inr ⟨_, rfl⟩) rfl (by decide) rfl ?_
  refine am_invV (ci := 3) (As := [.ref 28]) (lsZ := [some (.ref 23), some (.ref 28), none]) (st := []) dX8_make_78 hX5_allMayDo lkX8_55 ⟨by decide, by decide⟩ (by decide) rfl (by decide) rfl rfl rfl (Nat.le_of_ble_eq_true rfl) rfl (Nat.le_of_ble_eq_true rfl) ⟨Nat.le_refl _, Nat.le_refl _⟩ (am_R.mono wp (fun r h' q => am_R.forget q ⟨rfl, ⟨rfl, ⟨rfl, trivial⟩⟩⟩))
theorem bX8_makeA_81 {E : Nat × (Nat → Int32)} {I : Nat → Nat → Int32} {J : Nat → Nat → Int64} {b : Bool} {a1 : Int32} {a2 : Int32} {x0 : Int32} {Q : Option Value → am_H → Prop}  (wp : ((x0 = 0 → am_R E mX8_make 52 [some (.ref 27), some (.int a1), some (.int (a2 + 1))] [] (hp I J b) 64 64 Q) ∧ (¬ x0 = 0 → am_R E mX5_passAll 0 [some (.ref 23), some (.ref 28), some (.int (I 27 1)), none] [] (hp I J b) 64 64 (fun r h' => am_R E mX8_make 99 [some (.ref 27), some (.int a1), some (.int a2)] (r.toList ++ []) h' 64 64 Q)))) : am_R E mX8_make 81 [some (.ref 27), some (.int a1), some (.int a2)] [.int x0] (hp I J b) 64 64 Q := by
  refine am_if_eq dX8_make_81 (tgt := 105) rfl (fun hc1 => ?_) (fun hc1 => ?_)
  · have wp := wp.1 hc1
    refine am_iinc (ls' := [some (.ref 27), some (.int a1), some (.int (a2 + 1))]) (by decide) rfl rfl rfl dX8_make_105 ?_
    refine am_goto dX8_make_108 (tgt := 52) rfl ?_
    exact am_R.forget wp ⟨rfl, ⟨rfl, ⟨rfl, trivial⟩⟩⟩
  · have wp := wp.2 hc1
    refine am_aload_n rfl rfl dX8_make_84 ?_
    refine am_getA (r := 23) dX8_make_85 flX8_18 (Or.inl ⟨_, rfl⟩) rfl (by decide) rfl ?_
    refine am_aload_n rfl rfl dX8_make_88 ?_
    refine am_getA (r := 28) dX8_make_89 flX8_9 (Or.inr ⟨_, rfl⟩) rfl (by decide) rfl ?_
    refine am_aload_n rfl rfl dX8_make_92 ?_
    refine am_getI dX8_make_93 flX8_22 (Or.inl rfl) rfl (by decide) ?_
    refine am_invV (ci := 3) (As := [.ref 28, .int (I 27 1)]) (lsZ := [some (.ref 23), some (.ref 28), some (.int (I 27 1)), none]) (st := []) dX8_make_96 hX5_passAll lkX8_59 ⟨by decide, by decide⟩ (by decide) rfl (by decide) rfl rfl rfl (Nat.le_of_ble_eq_true rfl) rfl (Nat.le_of_ble_eq_true rfl) ⟨Nat.le_refl _, Nat.le_refl _⟩ (am_R.mono wp (fun r h' q => am_R.forget q ⟨rfl, ⟨rfl, ⟨rfl, trivial⟩⟩⟩))
theorem bX8_makeA_99 {E : Nat × (Nat → Int32)} {I : Nat → Nat → Int32} {J : Nat → Nat → Int64} {b : Bool} {a1 : Int32} {a2 : Int32} {x0 : Int32} {Q : Option Value → am_H → Prop}  (wp : am_R E mX8_addRow 0 [some (.ref 27), some (.int a1), none] [] (hp I J b) 64 64 (fun r h' => am_R E mX8_make 105 [some (.ref 27), some (.int a1), some (.int a2)] (r.toList ++ []) h' 64 64 Q)) : am_R E mX8_make 99 [some (.ref 27), some (.int a1), some (.int a2)] [.int x0] (hp I J b) 64 64 Q := by
  refine am_pop rfl dX8_make_99 ?_
  refine am_aload_n rfl rfl dX8_make_100 ?_
  refine am_iload_n rfl rfl dX8_make_101 ?_
  refine am_invV (ci := 6) (As := [.int a1]) (lsZ := [some (.ref 27), some (.int a1), none]) (st := []) dX8_make_102 hX8_addRow lkX8_63 ⟨by decide, by decide⟩ (by decide) rfl (by decide) rfl rfl rfl (Nat.le_of_ble_eq_true rfl) rfl (Nat.le_of_ble_eq_true rfl) ⟨Nat.le_refl _, Nat.le_refl _⟩ (am_R.mono wp (fun r h' q => am_R.forget q ⟨rfl, ⟨rfl, ⟨rfl, trivial⟩⟩⟩))
theorem bX8_makeA_105 {E : Nat × (Nat → Int32)} {I : Nat → Nat → Int32} {J : Nat → Nat → Int64} {b : Bool} {a1 : Int32} {a2 : Int32} {Q : Option Value → am_H → Prop}  (wp : am_R E mX8_make 52 [some (.ref 27), some (.int a1), some (.int (a2 + 1))] [] (hp I J b) 64 64 Q) : am_R E mX8_make 105 [some (.ref 27), some (.int a1), some (.int a2)] [] (hp I J b) 64 64 Q := by
  refine am_iinc (ls' := [some (.ref 27), some (.int a1), some (.int (a2 + 1))]) (by decide) rfl rfl rfl dX8_make_105 ?_
  refine am_goto dX8_make_108 (tgt := 52) rfl ?_
  exact am_R.forget wp ⟨rfl, ⟨rfl, ⟨rfl, trivial⟩⟩⟩
theorem tX8_makeA {by' : Nat} (hC : CH I n) (hb : by' = 0 ∨ by' = 2 ∨ by' = 3) (e1 : I 27 1 = nI by') (k : ∀ I', Ag (tS 27 28 29) I I' → I' 27 1 = nI by' → I' 27 3 = 1 → Tl I n by' (I' 27) (I' 29) → Q none (hp I' J b)) : am_R E mX8_make 0 [some (.ref 27), none, none] [] (hp I J b) 64 64 Q := by
  have h7 := hC.2.1.2
  have h2 := hC.2.1.1
  have hfl := fct_le n (by omega)
  refine bX8_makeA_0 ?_
  -- the loop over the draws
  have loop : ∀ j c, c + j = fct n → ∀ I1, Ag (tS 27 28 29) I I1 → I1 27 1 = nI by' → I1 27 4 = nI (fb_ct (lc I n) c) → I1 27 5 = sI (lc I n) (fun c => sm (fun m => I 49 (7 * m + sr I n by' c m)) n) c → I1 27 6 = sI (lc I n) (fun c => sm (fun m => I 50 (7 * m + sr I n by' c m)) n) c → (∀ m, m < n → ∀ d, d < n → I1 29 (7 * m + d) = sI (lc I n) (fun c => if sr I n by' c m = d then 1 else 0) c) → am_R E mX8_make 52 [some (.ref 27), some (.int (nI n)), some (.int (nI c))] [] (hp I1 J b) 64 64 Q := by
    intro j
    induction j with
    | zero =>
      intro c hc I1 hA i1 i4 i5 i6 ih
      have e : c = fct n := by omega
      subst e
      refine bX8_makeA_52 ⟨n, rfl, by omega, ?_⟩
      rw [fa_fct n (by omega)]
      refine le_br rfl rfl (by omega) (by omega) (fun _ => ?_) (fun q => by omega)
      have q : ∀ j, j ≠ 3 → u2 I1 27 3 1 27 j = I1 27 j := fun j hj => by rw [u2_s]; unfold upd; rw [if_neg hj]
      refine k _ (hA.u2 (by decide)) (by rw [q 1 (by decide)]; exact i1) (by rw [u2_s]; rfl) ⟨by rw [q 4 (by decide)]; exact i4, by rw [q 5 (by decide)]; exact i5, by rw [q 6 (by decide)]; exact i6, fun m hm d hd => ?_⟩
      rw [u2_n _ _ _ (by decide)]; exact ih m hm d hd
    | succ j ihj =>
      intro c hc I1 hA i1 i4 i5 i6 ih
      have hcl : c < fct n := by omega
      refine bX8_makeA_52 ⟨n, rfl, by omega, ?_⟩
      rw [fa_fct n (by omega)]
      refine le_br rfl rfl (by omega) (by omega) (fun q => by omega) (fun _ => ?_)
      refine tX3_fill (n := n) rc28 h2 h7 rfl rfl hcl (fun f hf => bX8_makeA_70 ?_)
      have hA2 : Ag (tS 27 28 29) I (u1 I1 28 f) := hA.u1 (by decide)
      obtain ⟨x1, x2, x3, x4, x5, x6⟩ := hA2.CH (Or.inl ⟨rfl, rfl, rfl⟩)
      have w4 : u1 I1 28 f 27 = I1 27 := u1_n _ _ (by decide)
      have wh : u1 I1 28 f 29 = I1 29 := u1_n _ _ (by decide)
      refine tX5_allMayDo (n := n) (p := ur n c) rc28 (by rw [x1]; exact hC) (by rw [u1_s]; exact hf) (fun q => bX8_makeA_81 (z01 rfl ?_)) (fun q => bX8_makeA_81 (z00 rfl ?_))
      · rw [x2] at q
        have hl : lc I n c = true := decide_eq_true q
        refine tX5_passAll (n := n) (by' := by') (p := ur n c) rc28 (by rw [x1]; exact hC) (by rw [u1_s]; exact hf) hb (by rw [w4]; exact i1) (fun f2 F cc hf2 => bX8_makeA_99 ?_)
        rw [x3] at hf2
        rw [u1_u1]
        have hA3 : Ag (tS 27 28 29) I (fh (u1 I1 28 f2) F cc) := (hA.u1 (by decide)).fh (by decide) (by decide)
        obtain ⟨y1, y2, y3, y4, y5, y6⟩ := hA3.CH (Or.inl ⟨rfl, rfl, rfl⟩)
        have v4 : fh (u1 I1 28 f2) F cc 27 = I1 27 := by rw [fh_n _ (by decide) (by decide)]; exact u1_n _ _ (by decide)
        have vh : fh (u1 I1 28 f2) F cc 29 = I1 29 := by rw [fh_n _ (by decide) (by decide)]; exact u1_n _ _ (by decide)
        refine tX8_addRowA (n := n) (p := sr I n by' c) rfl (by rw [y1]; exact hC) (by rw [fh_n _ (by decide) (by decide), u1_s]; exact hf2) (fun I2 hB b3 b4 b5 b6 bh => bX8_makeA_105 ?_)
        rw [v4] at b3 b4 b5 b6
        rw [vh] at bh
        rw [y4] at b5
        rw [y5] at b6
        rw [n1]
        refine ihj (c + 1) (by omega) I2 (hA3.tr (hB.mono (by decide))) (by rw [b3 1 (by decide)]; exact i1) ?_ ?_ ?_ (fun m hm d hd => ?_)
        · rw [b4, i4, n1, fb_ct_succ, hl]; rfl
        · rw [b5, i5, sI, hl]; rfl
        · rw [b6, i6, sI, hl]; rfl
        · rw [bh m hm d hd, ih m hm d hd, sI, hl]; rfl
      · rw [x2] at q
        have hl : lc I n c = false := decide_eq_false q
        rw [n1]
        refine ihj (c + 1) (by omega) _ hA2 (by rw [w4]; exact i1) ?_ ?_ ?_ (fun m hm d hd => ?_)
        · rw [w4, i4, fb_ct_succ, hl]; rfl
        · rw [w4, i5, sI, hl]; rfl
        · rw [w4, i6, sI, hl]; rfl
        · rw [wh, ih m hm d hd, sI, hl]; rfl
  generalize hG : u2 (u2 (u2 I 27 4 0) 27 5 0) 27 6 0 = G
  have gA : Ag (tS 27 28 29) I G := by rw [← hG]; exact (((Ag.rf _ I).u2 (by decide)).u2 (by decide)).u2 (by decide)
  have key : ∀ j m, m + j = 49 → ∀ g : Nat → Int32, (∀ i, i < m → g i = 0) → am_R E mX8_make 17 [some (.ref 27), some (.int (nI m)), none] [] (hp (u1 G 29 g) J b) 64 64 Q := by
    intro j
    induction j with
    | zero =>
      intro m hm g hg
      have e : m = 49 := by omega
      subst e
      refine bX8_makeA_17 (le_br (n := 49) rfl rfl (by omega) (by omega) (fun _ => ?_) (fun q => by omega))
      have gA2 : Ag (tS 27 28 29) I (u1 G 29 g) := gA.u1 (by decide)
      rw [gA2 4 (by decide), hC.1]
      have gt : u1 G 29 g 27 = G 27 := u1_n _ _ (by decide)
      refine loop (fct n) 0 (by omega) _ gA2 (by rw [gt, ← hG]; exact e1) (by rw [gt, ← hG]; rfl) (by rw [gt, ← hG]; rfl) (by rw [gt, ← hG]; rfl) (fun m hm d hd => ?_)
      rw [u1_s]; exact hg _ (by omega)
    | succ j ih =>
      intro m hm g hg
      refine bX8_makeA_17 (le_br (n := 49) rfl rfl (by omega) (by omega) (fun q => by omega) (fun _ => ⟨m, rfl, by omega, ?_⟩))
      rw [n1, u2_u1]
      refine ih (m + 1) (by omega) _ (fun i hi => ?_)
      unfold upd
      by_cases q : i = m
      · rw [if_pos q]
      · rw [if_neg q]; exact hg i (by omega)
  have := key 49 0 (by omega) (G 29) (fun i hi => by omega)
  rw [u1_self] at this
  exact this
theorem bX8_addRowB_0 {E : Nat × (Nat → Int32)} {I : Nat → Nat → Int32} {J : Nat → Nat → Int64} {b : Bool} {a1 : Int32} {Q : Option Value → am_H → Prop}  (wp : am_R E mX2_workOf 0 [some (.ref 4), some (.ref 31), none, none] [] (hp (u2 I 30 4 ((I 30 4) + 1)) J b) 64 64 (fun r h' => am_R E mX8_addRow 29 [some (.ref 30), some (.int a1), none] (r.toList ++ [.int (I 30 5), .ref 30]) h' 64 64 Q)) : am_R E mX8_addRow 0 [some (.ref 30), some (.int a1), none] [] (hp I J b) 64 64 Q := by
  refine am_aload_n rfl rfl dX8_addRow_0 ?_
  refine am_dup rfl dX8_addRow_1 ?_
  refine am_getI dX8_addRow_2 flX8_26 (Or.inl rfl) rfl (by decide) ?_
  refine am_iconst 1 rfl dX8_addRow_5 ?_
  refine am_iadd dX8_addRow_6 ?_
  refine am_putI dX8_addRow_7 flX8_26 (Or.inl rfl) rfl rfl (by decide) ?_
  refine am_aload_n rfl rfl dX8_addRow_10 ?_
  refine am_dup rfl dX8_addRow_11 ?_
  refine am_getI dX8_addRow_12 flX8_29 (Or.inl rfl) rfl (by decide) ?_
  show am_R E mX8_addRow 15 [some (.ref 30), some (.int a1), none] [.int (I 30 5), .ref 30] (hp (u2 I 30 4 ((I 30 4) + 1)) J b) 64 64 Q
  refine am_aload_n rfl rfl dX8_addRow_15 ?_
  refine am_getA (r := 23) dX8_addRow_16 flX8_18 (Or.inl ⟨_, rfl⟩) rfl (by decide) rfl ?_
  refine am_getA (r := 4) dX8_addRow_19 flX8_35 (Or.inl ⟨_, rfl⟩) rfl (by decide) rfl ?_
  refine am_aload_n rfl rfl dX8_addRow_22 ?_
  refine am_getA (r := 31) dX8_addRow_23 flX8_9 (Or.inr ⟨_, rfl⟩) rfl (by decide) rfl ?_
  refine am_invV (ci := 1) (As := [.ref 31]) (lsZ := [some (.ref 4), some (.ref 31), none, none]) (st := [.int (I 30 5), .ref 30]) dX8_addRow_26 hX2_workOf lkX8_71 ⟨by decide, by decide⟩ (by decide) rfl (by decide) rfl rfl rfl (Nat.le_of_ble_eq_true rfl) rfl (Nat.le_of_ble_eq_true rfl) ⟨Nat.le_refl _, Nat.le_refl _⟩ (am_R.mono wp (fun r h' q => am_R.forget q ⟨rfl, ⟨rfl, trivial⟩⟩))
theorem bX8_addRowB_29 {E : Nat × (Nat → Int32)} {I : Nat → Nat → Int32} {J : Nat → Nat → Int64} {b : Bool} {a1 : Int32} {x0 : Int32} {x1 : Int32} {Q : Option Value → am_H → Prop}  (wp : am_R E mX2_gladnessOf 0 [some (.ref 4), some (.ref 31), none, none] [] (hp (u2 I 30 5 (x1 + x0)) J b) 64 64 (fun r h' => am_R E mX8_addRow 52 [some (.ref 30), some (.int a1), none] (r.toList ++ [.int (I 30 6), .ref 30]) h' 64 64 Q)) : am_R E mX8_addRow 29 [some (.ref 30), some (.int a1), none] [.int x0, .int x1, .ref 30] (hp I J b) 64 64 Q := by
  refine am_iadd dX8_addRow_29 ?_
  refine am_putI dX8_addRow_30 flX8_29 (Or.inl rfl) rfl rfl (by decide) ?_
  refine am_aload_n rfl rfl dX8_addRow_33 ?_
  refine am_dup rfl dX8_addRow_34 ?_
  refine am_getI dX8_addRow_35 flX8_32 (Or.inl rfl) rfl (by decide) ?_
  show am_R E mX8_addRow 38 [some (.ref 30), some (.int a1), none] [.int (I 30 6), .ref 30] (hp (u2 I 30 5 (x1 + x0)) J b) 64 64 Q
  refine am_aload_n rfl rfl dX8_addRow_38 ?_
  refine am_getA (r := 23) dX8_addRow_39 flX8_18 (Or.inl ⟨_, rfl⟩) rfl (by decide) rfl ?_
  refine am_getA (r := 4) dX8_addRow_42 flX8_35 (Or.inl ⟨_, rfl⟩) rfl (by decide) rfl ?_
  refine am_aload_n rfl rfl dX8_addRow_45 ?_
  refine am_getA (r := 31) dX8_addRow_46 flX8_9 (Or.inr ⟨_, rfl⟩) rfl (by decide) rfl ?_
  refine am_invV (ci := 1) (As := [.ref 31]) (lsZ := [some (.ref 4), some (.ref 31), none, none]) (st := [.int (I 30 6), .ref 30]) dX8_addRow_49 hX2_gladnessOf lkX8_75 ⟨by decide, by decide⟩ (by decide) rfl (by decide) rfl rfl rfl (Nat.le_of_ble_eq_true rfl) rfl (Nat.le_of_ble_eq_true rfl) ⟨Nat.le_refl _, Nat.le_refl _⟩ (am_R.mono wp (fun r h' q => am_R.forget q ⟨rfl, ⟨rfl, trivial⟩⟩))
theorem bX8_addRowB_52 {E : Nat × (Nat → Int32)} {I : Nat → Nat → Int32} {J : Nat → Nat → Int64} {b : Bool} {a1 : Int32} {x0 : Int32} {x1 : Int32} {Q : Option Value → am_H → Prop}  (wp : am_R E mX8_addRow 58 [some (.ref 30), some (.int a1), some (.int 0)] [] (hp (u2 I 30 6 (x1 + x0)) J b) 64 64 Q) : am_R E mX8_addRow 52 [some (.ref 30), some (.int a1), none] [.int x0, .int x1, .ref 30] (hp I J b) 64 64 Q := by
  refine am_iadd dX8_addRow_52 ?_
  refine am_putI dX8_addRow_53 flX8_32 (Or.inl rfl) rfl rfl (by decide) ?_
  refine am_iconst 0 rfl dX8_addRow_56 ?_
  refine am_istore_n (ls' := [some (.ref 30), some (.int a1), some (.int 0)]) rfl (by decide) rfl rfl dX8_addRow_57 ?_
  exact am_R.forget wp ⟨rfl, ⟨rfl, ⟨rfl, trivial⟩⟩⟩
theorem bX8_addRowB_58 {E : Nat × (Nat → Int32)} {I : Nat → Nat → Int32} {J : Nat → Nat → Int64} {b : Bool} {a1 : Int32} {a2 : Int32} {Q : Option Value → am_H → Prop}  (wp : ((a1 ≤ a2 → Q none (hp I J b)) ∧ (¬ a1 ≤ a2 → ∃ j2, a2 = nI j2 ∧ j2 < 7 ∧ ∃ j3, ((a2 * 7) + (I 31 j2)) = nI j3 ∧ j3 < 49 ∧ am_R E mX8_addRow 58 [some (.ref 30), some (.int a1), some (.int (a2 + 1))] [] (hp (u2 I 32 j3 ((I 32 j3) + 1)) J b) 64 64 Q))) : am_R E mX8_addRow 58 [some (.ref 30), some (.int a1), some (.int a2)] [] (hp I J b) 64 64 Q := by
  refine am_iload_n rfl rfl dX8_addRow_58 ?_
  refine am_iload_n rfl rfl dX8_addRow_59 ?_
  refine am_icmp_ge dX8_addRow_60 (tgt := 88) rfl (fun hc1 => ?_) (fun hc1 => ?_)
  · have wp := wp.1 hc1
    exact am_vret dX8_addRow_88 rfl wp
  · have wp := wp.2 hc1
    refine am_aload_n rfl rfl dX8_addRow_63 ?_
    refine am_getA (r := 32) dX8_addRow_64 flX8_15 (Or.inr ⟨_, rfl⟩) rfl (by decide) rfl ?_
    refine am_iload_n rfl rfl dX8_addRow_67 ?_
    refine am_aload_n rfl rfl dX8_addRow_68 ?_
    refine am_getA (r := 31) dX8_addRow_69 flX8_9 (Or.inr ⟨_, rfl⟩) rfl (by decide) rfl ?_
    refine am_iload_n rfl rfl dX8_addRow_72 ?_
    obtain ⟨j2, e2, w2, wp⟩ := wp
    refine am_ialdN (j := j2) dX8_addRow_73 rfl (by decide) e2 w2 (by decide) ?_
    refine am_invS (As := [.int a2, .int (I 31 j2)]) (lsZ := [some (.int a2), some (.int (I 31 j2))]) (st := [.ref 32]) dX8_addRow_74 hX2_cell lkX8_78 ⟨by decide, by decide⟩ rfl rfl (Nat.le_of_ble_eq_true rfl) rfl (Nat.le_of_ble_eq_true rfl) ⟨Nat.le_refl _, Nat.le_refl _⟩ (tX2_cell (by decide)  ?_)
    show am_R E mX8_addRow 77 [some (.ref 30), some (.int a1), some (.int a2)] [.int ((a2 * 7) + (I 31 j2)), .ref 32] (hp I J b) 64 64 Q
    refine am_dup2 rfl rfl dX8_addRow_77 ?_
    obtain ⟨j3, e3, w3, wp⟩ := wp
    refine am_ialdN (j := j3) dX8_addRow_78 rfl (by decide) e3 w3 (by decide) ?_
    refine am_iconst 1 rfl dX8_addRow_79 ?_
    refine am_iadd dX8_addRow_80 ?_
    refine am_iastN (j := j3) dX8_addRow_81 rfl (by decide) e3 w3 (by decide) ?_
    refine am_iinc (ls' := [some (.ref 30), some (.int a1), some (.int (a2 + 1))]) (by decide) rfl rfl rfl dX8_addRow_82 ?_
    refine am_goto dX8_addRow_85 (tgt := 58) rfl ?_
    exact am_R.forget wp ⟨rfl, ⟨rfl, ⟨rfl, trivial⟩⟩⟩
theorem tX8_addRowB {a1 : Int32} {p : Nat → Nat} (en : a1 = nI n) (hC : CH I n) (hR : Rw (I 31) p n) (k : ∀ I', Ag [30, 32] I I' → (∀ j, j < 4 → I' 30 j = I 30 j) → I' 30 4 = I 30 4 + 1 → I' 30 5 = I 30 5 + sm (fun m => I 49 (7 * m + p m)) n → I' 30 6 = I 30 6 + sm (fun m => I 50 (7 * m + p m)) n → (∀ m, m < n → ∀ d, d < n → I' 32 (7 * m + d) = I 32 (7 * m + d) + (if p m = d then 1 else 0)) → Q none (hp I' J b)) : am_R E mX8_addRow 0 [some (.ref 30), some (.int a1), none] [] (hp I J b) 64 64 Q := by
  subst en
  have h7 := hC.2.1.2
  refine bX8_addRowB_0 (tX2_workOf (I := u2 I 30 4 (I 30 4 + 1)) (p := p) rc31 hC hR ?_)
  refine bX8_addRowB_29 (tX2_gladnessOf (I := u2 (u2 I 30 4 (I 30 4 + 1)) 30 5 (I 30 5 + sm (fun m => I 49 (7 * m + p m)) n)) (p := p) rc31 hC hR ?_)
  refine bX8_addRowB_52 ?_
  show am_R E mX8_addRow 58 [some (.ref 30), some (.int (nI n)), some (.int 0)] [] (hp (u2 (u2 (u2 I 30 4 (I 30 4 + 1)) 30 5 (I 30 5 + sm (fun m => I 49 (7 * m + p m)) n)) 30 6 (I 30 6 + sm (fun m => I 50 (7 * m + p m)) n)) J b) 64 64 Q
  generalize hG : u2 (u2 (u2 I 30 4 (I 30 4 + 1)) 30 5 (I 30 5 + sm (fun m => I 49 (7 * m + p m)) n)) 30 6 (I 30 6 + sm (fun m => I 50 (7 * m + p m)) n) = G
  have gA : Ag [30, 32] I G := by rw [← hG]; exact (((Ag.rf _ I).u2 (by decide)).u2 (by decide)).u2 (by decide)
  have g3 : ∀ j, j < 4 → G 30 j = I 30 j := fun j hj => by
    rw [← hG, u2_s, u2_s, u2_s]; unfold upd; rw [if_neg (by omega), if_neg (by omega), if_neg (by omega)]
  have g4 : G 30 4 = I 30 4 + 1 := by rw [← hG]; rfl
  have g5 : G 30 5 = I 30 5 + sm (fun m => I 49 (7 * m + p m)) n := by rw [← hG]; rfl
  have g6 : G 30 6 = I 30 6 + sm (fun m => I 50 (7 * m + p m)) n := by rw [← hG]; rfl
  have gr : G 31 = I 31 := gA 31 (by decide)
  have gh : G 32 = I 32 := by rw [← hG]; rfl
  have key : ∀ j m, m + j = n → ∀ g : Nat → Int32, (∀ i, i < n → ∀ d, d < n → g (7 * i + d) = I 32 (7 * i + d) + (if i < m ∧ p i = d then 1 else 0)) → am_R E mX8_addRow 58 [some (.ref 30), some (.int (nI n)), some (.int (nI m))] [] (hp (u1 G 32 g) J b) 64 64 Q := by
    intro j
    induction j with
    | zero =>
      intro m hm g hg
      have e : m = n := by omega
      subst e
      refine bX8_addRowB_58 (le_br rfl rfl (by omega) (by omega) (fun _ => ?_) (fun q => by omega))
      refine k _ (gA.u1 (by decide)) (fun j hj => by rw [u1_n _ _ (by decide)]; exact g3 j hj) (by rw [u1_n _ _ (by decide)]; exact g4) (by rw [u1_n _ _ (by decide)]; exact g5) (by rw [u1_n _ _ (by decide)]; exact g6) (fun i hi d hd => ?_)
      rw [u1_s, hg i hi d hd]
      congr 1
      by_cases e : p i = d
      · rw [if_pos ⟨hi, e⟩, if_pos e]
      · rw [if_neg (fun z => e z.2), if_neg e]
    | succ j ih =>
      intro m hm g hg
      have hmn : m < n := by omega
      have hpm := hR m hmn
      have e0 : u1 G 32 g 31 m = nI (p m) := by rw [u1_n _ _ (by decide), gr]; exact hpm.1
      refine bX8_addRowB_58 (le_br rfl rfl (by omega) (by omega) (fun q => by omega) (fun _ => ⟨m, rfl, by omega, 7 * m + p m, by rw [e0, k7'], by omega, ?_⟩))
      rw [n1, u2_u1, u1_s]
      refine ih (m + 1) (by omega) _ (fun i hi d hd => ?_)
      unfold upd
      by_cases q : 7 * i + d = 7 * m + p m
      · have q1 : i = m := by omega
        have q2 : d = p m := by omega
        rw [if_pos q, hg m hmn (p m) hpm.2, if_neg (fun z => by omega), q1, q2, if_pos ⟨by omega, rfl⟩, Int32.add_zero]
      · rw [if_neg q, hg i hi d hd]
        congr 1
        by_cases z : i < m ∧ p i = d
        · rw [if_pos z, if_pos ⟨by omega, z.2⟩]
        · rw [if_neg z, if_neg (fun w => ?_)]
          rcases Nat.lt_or_ge i m with x | x
          · exact z ⟨x, w.2⟩
          · have : i = m := by omega
            subst this
            exact q (by rw [w.2])
  have := key n 0 (by omega) (I 32) (fun i hi d hd => by rw [if_neg (fun z => by omega), Int32.add_zero])
  rw [← gh, u1_self] at this
  exact this
theorem bX8_makeB_0 {E : Nat × (Nat → Int32)} {I : Nat → Nat → Int32} {J : Nat → Nat → Int64} {b : Bool}  {Q : Option Value → am_H → Prop}  (wp : am_R E mX8_make 17 [some (.ref 30), some (.int 0), none] [] (hp (u2 (u2 (u2 I 30 4 0) 30 5 0) 30 6 0) J b) 64 64 Q) : am_R E mX8_make 0 [some (.ref 30), none, none] [] (hp I J b) 64 64 Q := by
  refine am_aload_n rfl rfl dX8_make_0 ?_
  refine am_iconst 0 rfl dX8_make_1 ?_
  refine am_putI dX8_make_2 flX8_26 (Or.inl rfl) rfl rfl (by decide) ?_
  refine am_aload_n rfl rfl dX8_make_5 ?_
  refine am_iconst 0 rfl dX8_make_6 ?_
  refine am_putI dX8_make_7 flX8_29 (Or.inl rfl) rfl rfl (by decide) ?_
  refine am_aload_n rfl rfl dX8_make_10 ?_
  refine am_iconst 0 rfl dX8_make_11 ?_
  refine am_putI dX8_make_12 flX8_32 (Or.inl rfl) rfl rfl (by decide) ?_
  refine am_iconst 0 rfl dX8_make_15 ?_
  refine am_istore_n (ls' := [some (.ref 30), some (.int 0), none]) rfl (by decide) rfl rfl dX8_make_16 ?_
  exact am_R.forget wp ⟨rfl, ⟨rfl, trivial⟩⟩
theorem bX8_makeB_17 {E : Nat × (Nat → Int32)} {I : Nat → Nat → Int32} {J : Nat → Nat → Int64} {b : Bool} {a1 : Int32} {Q : Option Value → am_H → Prop}  (wp : ((49 ≤ a1 → am_R E mX8_make 52 [some (.ref 30), some (.int (I 4 0)), some (.int 0)] [] (hp I J b) 64 64 Q) ∧ (¬ 49 ≤ a1 → ∃ j2, a1 = nI j2 ∧ j2 < 49 ∧ am_R E mX8_make 17 [some (.ref 30), some (.int (a1 + 1)), none] [] (hp (u2 I 32 j2 0) J b) 64 64 Q))) : am_R E mX8_make 17 [some (.ref 30), some (.int a1), none] [] (hp I J b) 64 64 Q := by
  refine am_iload_n rfl rfl dX8_make_17 ?_
  refine am_aload_n rfl rfl dX8_make_18 ?_
  refine am_getA (r := 32) dX8_make_19 flX8_15 (Or.inr ⟨_, rfl⟩) rfl (by decide) rfl ?_
  refine am_alen dX8_make_22 rfl (Or.inl rfl) (by decide) ?_
  show am_R E mX8_make 23 [some (.ref 30), some (.int a1), none] [.int 49, .int a1] (hp I J b) 64 64 Q
  refine am_icmp_ge dX8_make_23 (tgt := 39) rfl (fun hc1 => ?_) (fun hc1 => ?_)
  · have wp := wp.1 hc1
    refine am_aload_n rfl rfl dX8_make_39 ?_
    refine am_getA (r := 23) dX8_make_40 flX8_18 (Or.inl ⟨_, rfl⟩) rfl (by decide) rfl ?_
    refine am_getA (r := 4) dX8_make_43 flX8_35 (Or.inl ⟨_, rfl⟩) rfl (by decide) rfl ?_
    refine am_getI dX8_make_46 flX8_41 (Or.inl rfl) rfl (by decide) ?_
    refine am_istore_n (ls' := [some (.ref 30), some (.int (I 4 0)), none]) rfl (by decide) rfl rfl dX8_make_49 ?_
    refine am_iconst 0 rfl dX8_make_50 ?_
    refine am_istore_n (ls' := [some (.ref 30), some (.int (I 4 0)), some (.int 0)]) rfl (by decide) rfl rfl dX8_make_51 ?_
    exact am_R.forget wp ⟨rfl, ⟨rfl, ⟨rfl, trivial⟩⟩⟩
  · have wp := wp.2 hc1
    refine am_aload_n rfl rfl dX8_make_26 ?_
    refine am_getA (r := 32) dX8_make_27 flX8_15 (Or.inr ⟨_, rfl⟩) rfl (by decide) rfl ?_
    refine am_iload_n rfl rfl dX8_make_30 ?_
    refine am_iconst 0 rfl dX8_make_31 ?_
    obtain ⟨j2, e2, w2, wp⟩ := wp
    refine am_iastN (j := j2) dX8_make_32 rfl (by decide) e2 w2 (by decide) ?_
    refine am_iinc (ls' := [some (.ref 30), some (.int (a1 + 1)), none]) (by decide) rfl rfl rfl dX8_make_33 ?_
    refine am_goto dX8_make_36 (tgt := 17) rfl ?_
    exact am_R.forget wp ⟨rfl, ⟨rfl, trivial⟩⟩
theorem bX8_makeB_52 {E : Nat × (Nat → Int32)} {I : Nat → Nat → Int32} {J : Nat → Nat → Int64} {b : Bool} {a1 : Int32} {a2 : Int32} {Q : Option Value → am_H → Prop}  (wp : ∃ j1, a1 = nI j1 ∧ j1 < 8 ∧ (((am_fa j1) ≤ a2 → Q none (hp (u2 I 30 3 1) J b)) ∧ (¬ (am_fa j1) ≤ a2 → am_R E mX3_fill 0 [some (.ref 31), some (.int a1), some (.int a2), none, none, none, none, none, none] [] (hp I J b) 64 64 (fun r h' => am_R E mX8_make 70 [some (.ref 30), some (.int a1), some (.int a2)] (r.toList ++ []) h' 64 64 Q)))) : am_R E mX8_make 52 [some (.ref 30), some (.int a1), some (.int a2)] [] (hp I J b) 64 64 Q := by
  refine am_iload_n rfl rfl dX8_make_52 ?_
  refine am_gsFN dX8_make_53 (by decide +kernel) ?_
  refine am_iload_n rfl rfl dX8_make_56 ?_
  obtain ⟨j1, e1, w1, wp⟩ := wp
  refine am_ildFN (j := j1) dX8_make_57 e1 w1 ?_
  refine am_icmp_ge dX8_make_58 (tgt := 111) rfl (fun hc2 => ?_) (fun hc2 => ?_)
  · have wp := wp.1 hc2
    refine am_aload_n rfl rfl dX8_make_111 ?_
    refine am_iconst 1 rfl dX8_make_112 ?_
    refine am_putZ dX8_make_113 flX8_67 (Or.inl rfl) rfl rfl (by decide) (by decide) ?_
    exact am_vret dX8_make_116 rfl wp
  · have wp := wp.2 hc2
    refine am_aload_n rfl rfl dX8_make_61 ?_
    refine am_getA (r := 31) dX8_make_62 flX8_9 (Or.inr ⟨_, rfl⟩) rfl (by decide) rfl ?_
    refine am_iload_n rfl rfl dX8_make_65 ?_
    refine am_iload_n rfl rfl dX8_make_66 ?_
    refine am_invS (As := [.ref 31, .int a1, .int a2]) (lsZ := [some (.ref 31), some (.int a1), some (.int a2), none, none, none, none, none, none]) (st := []) dX8_make_67 hX3_fill lkX8_49 ⟨by decide, by decide⟩ rfl rfl (Nat.le_of_ble_eq_true rfl) rfl (Nat.le_of_ble_eq_true rfl) ⟨Nat.le_refl _, Nat.le_refl _⟩ (am_R.mono wp (fun r h' q => am_R.forget q ⟨rfl, ⟨rfl, ⟨rfl, trivial⟩⟩⟩))
theorem bX8_makeB_70 {E : Nat × (Nat → Int32)} {I : Nat → Nat → Int32} {J : Nat → Nat → Int64} {b : Bool} {a1 : Int32} {a2 : Int32} {Q : Option Value → am_H → Prop}  (wp : am_R E mX5_allMayDo 0 [some (.ref 23), some (.ref 31), none] [] (hp I J b) 64 64 (fun r h' => am_R E mX8_make 81 [some (.ref 30), some (.int a1), some (.int a2)] (r.toList ++ []) h' 64 64 Q)) : am_R E mX8_make 70 [some (.ref 30), some (.int a1), some (.int a2)] [] (hp I J b) 64 64 Q := by
  refine am_aload_n rfl rfl dX8_make_70 ?_
  refine am_getA (r := 23) dX8_make_71 flX8_18 (Or.inl ⟨_, rfl⟩) rfl (by decide) rfl ?_
  refine am_aload_n rfl rfl dX8_make_74 ?_
  refine am_getA (r := 31) dX8_make_75 flX8_9 (Or.inr ⟨_, rfl⟩) rfl (by decide) rfl ?_
  refine am_invV (ci := 3) (As := [.ref 31]) (lsZ := [some (.ref 23), some (.ref 31), none]) (st := []) dX8_make_78 hX5_allMayDo lkX8_55 ⟨by decide, by decide⟩ (by decide) rfl (by decide) rfl rfl rfl (Nat.le_of_ble_eq_true rfl) rfl (Nat.le_of_ble_eq_true rfl) ⟨Nat.le_refl _, Nat.le_refl _⟩ (am_R.mono wp (fun r h' q => am_R.forget q ⟨rfl, ⟨rfl, ⟨rfl, trivial⟩⟩⟩))
theorem bX8_makeB_81 {E : Nat × (Nat → Int32)} {I : Nat → Nat → Int32} {J : Nat → Nat → Int64} {b : Bool} {a1 : Int32} {a2 : Int32} {x0 : Int32} {Q : Option Value → am_H → Prop}  (wp : ((x0 = 0 → am_R E mX8_make 52 [some (.ref 30), some (.int a1), some (.int (a2 + 1))] [] (hp I J b) 64 64 Q) ∧ (¬ x0 = 0 → am_R E mX5_passAll 0 [some (.ref 23), some (.ref 31), some (.int (I 30 1)), none] [] (hp I J b) 64 64 (fun r h' => am_R E mX8_make 99 [some (.ref 30), some (.int a1), some (.int a2)] (r.toList ++ []) h' 64 64 Q)))) : am_R E mX8_make 81 [some (.ref 30), some (.int a1), some (.int a2)] [.int x0] (hp I J b) 64 64 Q := by
  refine am_if_eq dX8_make_81 (tgt := 105) rfl (fun hc1 => ?_) (fun hc1 => ?_)
  · have wp := wp.1 hc1
    refine am_iinc (ls' := [some (.ref 30), some (.int a1), some (.int (a2 + 1))]) (by decide) rfl rfl rfl dX8_make_105 ?_
    refine am_goto dX8_make_108 (tgt := 52) rfl ?_
    exact am_R.forget wp ⟨rfl, ⟨rfl, ⟨rfl, trivial⟩⟩⟩
  · have wp := wp.2 hc1
    refine am_aload_n rfl rfl dX8_make_84 ?_
    refine am_getA (r := 23) dX8_make_85 flX8_18 (Or.inl ⟨_, rfl⟩) rfl (by decide) rfl ?_
    refine am_aload_n rfl rfl dX8_make_88 ?_
    refine am_getA (r := 31) dX8_make_89 flX8_9 (Or.inr ⟨_, rfl⟩) rfl (by decide) rfl ?_
    refine am_aload_n rfl rfl dX8_make_92 ?_
    refine am_getI dX8_make_93 flX8_22 (Or.inl rfl) rfl (by decide) ?_
    refine am_invV (ci := 3) (As := [.ref 31, .int (I 30 1)]) (lsZ := [some (.ref 23), some (.ref 31), some (.int (I 30 1)), none]) (st := []) dX8_make_96 hX5_passAll lkX8_59 ⟨by decide, by decide⟩ (by decide) rfl (by decide) rfl rfl rfl (Nat.le_of_ble_eq_true rfl) rfl (Nat.le_of_ble_eq_true rfl) ⟨Nat.le_refl _, Nat.le_refl _⟩ (am_R.mono wp (fun r h' q => am_R.forget q ⟨rfl, ⟨rfl, ⟨rfl, trivial⟩⟩⟩))
theorem bX8_makeB_99 {E : Nat × (Nat → Int32)} {I : Nat → Nat → Int32} {J : Nat → Nat → Int64} {b : Bool} {a1 : Int32} {a2 : Int32} {x0 : Int32} {Q : Option Value → am_H → Prop}  (wp : am_R E mX8_addRow 0 [some (.ref 30), some (.int a1), none] [] (hp I J b) 64 64 (fun r h' => am_R E mX8_make 105 [some (.ref 30), some (.int a1), some (.int a2)] (r.toList ++ []) h' 64 64 Q)) : am_R E mX8_make 99 [some (.ref 30), some (.int a1), some (.int a2)] [.int x0] (hp I J b) 64 64 Q := by
  refine am_pop rfl dX8_make_99 ?_
  refine am_aload_n rfl rfl dX8_make_100 ?_
  refine am_iload_n rfl rfl dX8_make_101 ?_
  refine am_invV (ci := 6) (As := [.int a1]) (lsZ := [some (.ref 30), some (.int a1), none]) (st := []) dX8_make_102 hX8_addRow lkX8_63 ⟨by decide, by decide⟩ (by decide) rfl (by decide) rfl rfl rfl (Nat.le_of_ble_eq_true rfl) rfl (Nat.le_of_ble_eq_true rfl) ⟨Nat.le_refl _, Nat.le_refl _⟩ (am_R.mono wp (fun r h' q => am_R.forget q ⟨rfl, ⟨rfl, ⟨rfl, trivial⟩⟩⟩))
theorem bX8_makeB_105 {E : Nat × (Nat → Int32)} {I : Nat → Nat → Int32} {J : Nat → Nat → Int64} {b : Bool} {a1 : Int32} {a2 : Int32} {Q : Option Value → am_H → Prop}  (wp : am_R E mX8_make 52 [some (.ref 30), some (.int a1), some (.int (a2 + 1))] [] (hp I J b) 64 64 Q) : am_R E mX8_make 105 [some (.ref 30), some (.int a1), some (.int a2)] [] (hp I J b) 64 64 Q := by
  refine am_iinc (ls' := [some (.ref 30), some (.int a1), some (.int (a2 + 1))]) (by decide) rfl rfl rfl dX8_make_105 ?_
  refine am_goto dX8_make_108 (tgt := 52) rfl ?_
  exact am_R.forget wp ⟨rfl, ⟨rfl, ⟨rfl, trivial⟩⟩⟩
theorem tX8_makeB {by' : Nat} (hC : CH I n) (hb : by' = 0 ∨ by' = 2 ∨ by' = 3) (e1 : I 30 1 = nI by') (k : ∀ I', Ag (tS 30 31 32) I I' → I' 30 1 = nI by' → I' 30 3 = 1 → Tl I n by' (I' 30) (I' 32) → Q none (hp I' J b)) : am_R E mX8_make 0 [some (.ref 30), none, none] [] (hp I J b) 64 64 Q := by
  have h7 := hC.2.1.2
  have h2 := hC.2.1.1
  have hfl := fct_le n (by omega)
  refine bX8_makeB_0 ?_
  -- the loop over the draws
  have loop : ∀ j c, c + j = fct n → ∀ I1, Ag (tS 30 31 32) I I1 → I1 30 1 = nI by' → I1 30 4 = nI (fb_ct (lc I n) c) → I1 30 5 = sI (lc I n) (fun c => sm (fun m => I 49 (7 * m + sr I n by' c m)) n) c → I1 30 6 = sI (lc I n) (fun c => sm (fun m => I 50 (7 * m + sr I n by' c m)) n) c → (∀ m, m < n → ∀ d, d < n → I1 32 (7 * m + d) = sI (lc I n) (fun c => if sr I n by' c m = d then 1 else 0) c) → am_R E mX8_make 52 [some (.ref 30), some (.int (nI n)), some (.int (nI c))] [] (hp I1 J b) 64 64 Q := by
    intro j
    induction j with
    | zero =>
      intro c hc I1 hA i1 i4 i5 i6 ih
      have e : c = fct n := by omega
      subst e
      refine bX8_makeB_52 ⟨n, rfl, by omega, ?_⟩
      rw [fa_fct n (by omega)]
      refine le_br rfl rfl (by omega) (by omega) (fun _ => ?_) (fun q => by omega)
      have q : ∀ j, j ≠ 3 → u2 I1 30 3 1 30 j = I1 30 j := fun j hj => by rw [u2_s]; unfold upd; rw [if_neg hj]
      refine k _ (hA.u2 (by decide)) (by rw [q 1 (by decide)]; exact i1) (by rw [u2_s]; rfl) ⟨by rw [q 4 (by decide)]; exact i4, by rw [q 5 (by decide)]; exact i5, by rw [q 6 (by decide)]; exact i6, fun m hm d hd => ?_⟩
      rw [u2_n _ _ _ (by decide)]; exact ih m hm d hd
    | succ j ihj =>
      intro c hc I1 hA i1 i4 i5 i6 ih
      have hcl : c < fct n := by omega
      refine bX8_makeB_52 ⟨n, rfl, by omega, ?_⟩
      rw [fa_fct n (by omega)]
      refine le_br rfl rfl (by omega) (by omega) (fun q => by omega) (fun _ => ?_)
      refine tX3_fill (n := n) rc31 h2 h7 rfl rfl hcl (fun f hf => bX8_makeB_70 ?_)
      have hA2 : Ag (tS 30 31 32) I (u1 I1 31 f) := hA.u1 (by decide)
      obtain ⟨x1, x2, x3, x4, x5, x6⟩ := hA2.CH (Or.inr (Or.inl ⟨rfl, rfl, rfl⟩))
      have w4 : u1 I1 31 f 30 = I1 30 := u1_n _ _ (by decide)
      have wh : u1 I1 31 f 32 = I1 32 := u1_n _ _ (by decide)
      refine tX5_allMayDo (n := n) (p := ur n c) rc31 (by rw [x1]; exact hC) (by rw [u1_s]; exact hf) (fun q => bX8_makeB_81 (z01 rfl ?_)) (fun q => bX8_makeB_81 (z00 rfl ?_))
      · rw [x2] at q
        have hl : lc I n c = true := decide_eq_true q
        refine tX5_passAll (n := n) (by' := by') (p := ur n c) rc31 (by rw [x1]; exact hC) (by rw [u1_s]; exact hf) hb (by rw [w4]; exact i1) (fun f2 F cc hf2 => bX8_makeB_99 ?_)
        rw [x3] at hf2
        rw [u1_u1]
        have hA3 : Ag (tS 30 31 32) I (fh (u1 I1 31 f2) F cc) := (hA.u1 (by decide)).fh (by decide) (by decide)
        obtain ⟨y1, y2, y3, y4, y5, y6⟩ := hA3.CH (Or.inr (Or.inl ⟨rfl, rfl, rfl⟩))
        have v4 : fh (u1 I1 31 f2) F cc 30 = I1 30 := by rw [fh_n _ (by decide) (by decide)]; exact u1_n _ _ (by decide)
        have vh : fh (u1 I1 31 f2) F cc 32 = I1 32 := by rw [fh_n _ (by decide) (by decide)]; exact u1_n _ _ (by decide)
        refine tX8_addRowB (n := n) (p := sr I n by' c) rfl (by rw [y1]; exact hC) (by rw [fh_n _ (by decide) (by decide), u1_s]; exact hf2) (fun I2 hB b3 b4 b5 b6 bh => bX8_makeB_105 ?_)
        rw [v4] at b3 b4 b5 b6
        rw [vh] at bh
        rw [y4] at b5
        rw [y5] at b6
        rw [n1]
        refine ihj (c + 1) (by omega) I2 (hA3.tr (hB.mono (by decide))) (by rw [b3 1 (by decide)]; exact i1) ?_ ?_ ?_ (fun m hm d hd => ?_)
        · rw [b4, i4, n1, fb_ct_succ, hl]; rfl
        · rw [b5, i5, sI, hl]; rfl
        · rw [b6, i6, sI, hl]; rfl
        · rw [bh m hm d hd, ih m hm d hd, sI, hl]; rfl
      · rw [x2] at q
        have hl : lc I n c = false := decide_eq_false q
        rw [n1]
        refine ihj (c + 1) (by omega) _ hA2 (by rw [w4]; exact i1) ?_ ?_ ?_ (fun m hm d hd => ?_)
        · rw [w4, i4, fb_ct_succ, hl]; rfl
        · rw [w4, i5, sI, hl]; rfl
        · rw [w4, i6, sI, hl]; rfl
        · rw [wh, ih m hm d hd, sI, hl]; rfl
  generalize hG : u2 (u2 (u2 I 30 4 0) 30 5 0) 30 6 0 = G
  have gA : Ag (tS 30 31 32) I G := by rw [← hG]; exact (((Ag.rf _ I).u2 (by decide)).u2 (by decide)).u2 (by decide)
  have key : ∀ j m, m + j = 49 → ∀ g : Nat → Int32, (∀ i, i < m → g i = 0) → am_R E mX8_make 17 [some (.ref 30), some (.int (nI m)), none] [] (hp (u1 G 32 g) J b) 64 64 Q := by
    intro j
    induction j with
    | zero =>
      intro m hm g hg
      have e : m = 49 := by omega
      subst e
      refine bX8_makeB_17 (le_br (n := 49) rfl rfl (by omega) (by omega) (fun _ => ?_) (fun q => by omega))
      have gA2 : Ag (tS 30 31 32) I (u1 G 32 g) := gA.u1 (by decide)
      rw [gA2 4 (by decide), hC.1]
      have gt : u1 G 32 g 30 = G 30 := u1_n _ _ (by decide)
      refine loop (fct n) 0 (by omega) _ gA2 (by rw [gt, ← hG]; exact e1) (by rw [gt, ← hG]; rfl) (by rw [gt, ← hG]; rfl) (by rw [gt, ← hG]; rfl) (fun m hm d hd => ?_)
      rw [u1_s]; exact hg _ (by omega)
    | succ j ih =>
      intro m hm g hg
      refine bX8_makeB_17 (le_br (n := 49) rfl rfl (by omega) (by omega) (fun q => by omega) (fun _ => ⟨m, rfl, by omega, ?_⟩))
      rw [n1, u2_u1]
      refine ih (m + 1) (by omega) _ (fun i hi => ?_)
      unfold upd
      by_cases q : i = m
      · rw [if_pos q]
      · rw [if_neg q]; exact hg i (by omega)
  have := key 49 0 (by omega) (G 32) (fun i hi => by omega)
  rw [u1_self] at this
  exact this
theorem bX8_addRowC_0 {E : Nat × (Nat → Int32)} {I : Nat → Nat → Int32} {J : Nat → Nat → Int64} {b : Bool} {a1 : Int32} {Q : Option Value → am_H → Prop}  (wp : am_R E mX2_workOf 0 [some (.ref 4), some (.ref 34), none, none] [] (hp (u2 I 33 4 ((I 33 4) + 1)) J b) 64 64 (fun r h' => am_R E mX8_addRow 29 [some (.ref 33), some (.int a1), none] (r.toList ++ [.int (I 33 5), .ref 33]) h' 64 64 Q)) : am_R E mX8_addRow 0 [some (.ref 33), some (.int a1), none] [] (hp I J b) 64 64 Q := by
  refine am_aload_n rfl rfl dX8_addRow_0 ?_
  refine am_dup rfl dX8_addRow_1 ?_
  refine am_getI dX8_addRow_2 flX8_26 (Or.inl rfl) rfl (by decide) ?_
  refine am_iconst 1 rfl dX8_addRow_5 ?_
  refine am_iadd dX8_addRow_6 ?_
  refine am_putI dX8_addRow_7 flX8_26 (Or.inl rfl) rfl rfl (by decide) ?_
  refine am_aload_n rfl rfl dX8_addRow_10 ?_
  refine am_dup rfl dX8_addRow_11 ?_
  refine am_getI dX8_addRow_12 flX8_29 (Or.inl rfl) rfl (by decide) ?_
  show am_R E mX8_addRow 15 [some (.ref 33), some (.int a1), none] [.int (I 33 5), .ref 33] (hp (u2 I 33 4 ((I 33 4) + 1)) J b) 64 64 Q
  refine am_aload_n rfl rfl dX8_addRow_15 ?_
  refine am_getA (r := 23) dX8_addRow_16 flX8_18 (Or.inl ⟨_, rfl⟩) rfl (by decide) rfl ?_
  refine am_getA (r := 4) dX8_addRow_19 flX8_35 (Or.inl ⟨_, rfl⟩) rfl (by decide) rfl ?_
  refine am_aload_n rfl rfl dX8_addRow_22 ?_
  refine am_getA (r := 34) dX8_addRow_23 flX8_9 (Or.inr ⟨_, rfl⟩) rfl (by decide) rfl ?_
  refine am_invV (ci := 1) (As := [.ref 34]) (lsZ := [some (.ref 4), some (.ref 34), none, none]) (st := [.int (I 33 5), .ref 33]) dX8_addRow_26 hX2_workOf lkX8_71 ⟨by decide, by decide⟩ (by decide) rfl (by decide) rfl rfl rfl (Nat.le_of_ble_eq_true rfl) rfl (Nat.le_of_ble_eq_true rfl) ⟨Nat.le_refl _, Nat.le_refl _⟩ (am_R.mono wp (fun r h' q => am_R.forget q ⟨rfl, ⟨rfl, trivial⟩⟩))
theorem bX8_addRowC_29 {E : Nat × (Nat → Int32)} {I : Nat → Nat → Int32} {J : Nat → Nat → Int64} {b : Bool} {a1 : Int32} {x0 : Int32} {x1 : Int32} {Q : Option Value → am_H → Prop}  (wp : am_R E mX2_gladnessOf 0 [some (.ref 4), some (.ref 34), none, none] [] (hp (u2 I 33 5 (x1 + x0)) J b) 64 64 (fun r h' => am_R E mX8_addRow 52 [some (.ref 33), some (.int a1), none] (r.toList ++ [.int (I 33 6), .ref 33]) h' 64 64 Q)) : am_R E mX8_addRow 29 [some (.ref 33), some (.int a1), none] [.int x0, .int x1, .ref 33] (hp I J b) 64 64 Q := by
  refine am_iadd dX8_addRow_29 ?_
  refine am_putI dX8_addRow_30 flX8_29 (Or.inl rfl) rfl rfl (by decide) ?_
  refine am_aload_n rfl rfl dX8_addRow_33 ?_
  refine am_dup rfl dX8_addRow_34 ?_
  refine am_getI dX8_addRow_35 flX8_32 (Or.inl rfl) rfl (by decide) ?_
  show am_R E mX8_addRow 38 [some (.ref 33), some (.int a1), none] [.int (I 33 6), .ref 33] (hp (u2 I 33 5 (x1 + x0)) J b) 64 64 Q
  refine am_aload_n rfl rfl dX8_addRow_38 ?_
  refine am_getA (r := 23) dX8_addRow_39 flX8_18 (Or.inl ⟨_, rfl⟩) rfl (by decide) rfl ?_
  refine am_getA (r := 4) dX8_addRow_42 flX8_35 (Or.inl ⟨_, rfl⟩) rfl (by decide) rfl ?_
  refine am_aload_n rfl rfl dX8_addRow_45 ?_
  refine am_getA (r := 34) dX8_addRow_46 flX8_9 (Or.inr ⟨_, rfl⟩) rfl (by decide) rfl ?_
  refine am_invV (ci := 1) (As := [.ref 34]) (lsZ := [some (.ref 4), some (.ref 34), none, none]) (st := [.int (I 33 6), .ref 33]) dX8_addRow_49 hX2_gladnessOf lkX8_75 ⟨by decide, by decide⟩ (by decide) rfl (by decide) rfl rfl rfl (Nat.le_of_ble_eq_true rfl) rfl (Nat.le_of_ble_eq_true rfl) ⟨Nat.le_refl _, Nat.le_refl _⟩ (am_R.mono wp (fun r h' q => am_R.forget q ⟨rfl, ⟨rfl, trivial⟩⟩))
theorem bX8_addRowC_52 {E : Nat × (Nat → Int32)} {I : Nat → Nat → Int32} {J : Nat → Nat → Int64} {b : Bool} {a1 : Int32} {x0 : Int32} {x1 : Int32} {Q : Option Value → am_H → Prop}  (wp : am_R E mX8_addRow 58 [some (.ref 33), some (.int a1), some (.int 0)] [] (hp (u2 I 33 6 (x1 + x0)) J b) 64 64 Q) : am_R E mX8_addRow 52 [some (.ref 33), some (.int a1), none] [.int x0, .int x1, .ref 33] (hp I J b) 64 64 Q := by
  refine am_iadd dX8_addRow_52 ?_
  refine am_putI dX8_addRow_53 flX8_32 (Or.inl rfl) rfl rfl (by decide) ?_
  refine am_iconst 0 rfl dX8_addRow_56 ?_
  refine am_istore_n (ls' := [some (.ref 33), some (.int a1), some (.int 0)]) rfl (by decide) rfl rfl dX8_addRow_57 ?_
  exact am_R.forget wp ⟨rfl, ⟨rfl, ⟨rfl, trivial⟩⟩⟩
theorem bX8_addRowC_58 {E : Nat × (Nat → Int32)} {I : Nat → Nat → Int32} {J : Nat → Nat → Int64} {b : Bool} {a1 : Int32} {a2 : Int32} {Q : Option Value → am_H → Prop}  (wp : ((a1 ≤ a2 → Q none (hp I J b)) ∧ (¬ a1 ≤ a2 → ∃ j2, a2 = nI j2 ∧ j2 < 7 ∧ ∃ j3, ((a2 * 7) + (I 34 j2)) = nI j3 ∧ j3 < 49 ∧ am_R E mX8_addRow 58 [some (.ref 33), some (.int a1), some (.int (a2 + 1))] [] (hp (u2 I 35 j3 ((I 35 j3) + 1)) J b) 64 64 Q))) : am_R E mX8_addRow 58 [some (.ref 33), some (.int a1), some (.int a2)] [] (hp I J b) 64 64 Q := by
  refine am_iload_n rfl rfl dX8_addRow_58 ?_
  refine am_iload_n rfl rfl dX8_addRow_59 ?_
  refine am_icmp_ge dX8_addRow_60 (tgt := 88) rfl (fun hc1 => ?_) (fun hc1 => ?_)
  · have wp := wp.1 hc1
    exact am_vret dX8_addRow_88 rfl wp
  · have wp := wp.2 hc1
    refine am_aload_n rfl rfl dX8_addRow_63 ?_
    refine am_getA (r := 35) dX8_addRow_64 flX8_15 (Or.inr ⟨_, rfl⟩) rfl (by decide) rfl ?_
    refine am_iload_n rfl rfl dX8_addRow_67 ?_
    refine am_aload_n rfl rfl dX8_addRow_68 ?_
    refine am_getA (r := 34) dX8_addRow_69 flX8_9 (Or.inr ⟨_, rfl⟩) rfl (by decide) rfl ?_
    refine am_iload_n rfl rfl dX8_addRow_72 ?_
    obtain ⟨j2, e2, w2, wp⟩ := wp
    refine am_ialdN (j := j2) dX8_addRow_73 rfl (by decide) e2 w2 (by decide) ?_
    refine am_invS (As := [.int a2, .int (I 34 j2)]) (lsZ := [some (.int a2), some (.int (I 34 j2))]) (st := [.ref 35]) dX8_addRow_74 hX2_cell lkX8_78 ⟨by decide, by decide⟩ rfl rfl (Nat.le_of_ble_eq_true rfl) rfl (Nat.le_of_ble_eq_true rfl) ⟨Nat.le_refl _, Nat.le_refl _⟩ (tX2_cell (by decide)  ?_)
    show am_R E mX8_addRow 77 [some (.ref 33), some (.int a1), some (.int a2)] [.int ((a2 * 7) + (I 34 j2)), .ref 35] (hp I J b) 64 64 Q
    refine am_dup2 rfl rfl dX8_addRow_77 ?_
    obtain ⟨j3, e3, w3, wp⟩ := wp
    refine am_ialdN (j := j3) dX8_addRow_78 rfl (by decide) e3 w3 (by decide) ?_
    refine am_iconst 1 rfl dX8_addRow_79 ?_
    refine am_iadd dX8_addRow_80 ?_
    refine am_iastN (j := j3) dX8_addRow_81 rfl (by decide) e3 w3 (by decide) ?_
    refine am_iinc (ls' := [some (.ref 33), some (.int a1), some (.int (a2 + 1))]) (by decide) rfl rfl rfl dX8_addRow_82 ?_
    refine am_goto dX8_addRow_85 (tgt := 58) rfl ?_
    exact am_R.forget wp ⟨rfl, ⟨rfl, ⟨rfl, trivial⟩⟩⟩
theorem tX8_addRowC {a1 : Int32} {p : Nat → Nat} (en : a1 = nI n) (hC : CH I n) (hR : Rw (I 34) p n) (k : ∀ I', Ag [33, 35] I I' → (∀ j, j < 4 → I' 33 j = I 33 j) → I' 33 4 = I 33 4 + 1 → I' 33 5 = I 33 5 + sm (fun m => I 49 (7 * m + p m)) n → I' 33 6 = I 33 6 + sm (fun m => I 50 (7 * m + p m)) n → (∀ m, m < n → ∀ d, d < n → I' 35 (7 * m + d) = I 35 (7 * m + d) + (if p m = d then 1 else 0)) → Q none (hp I' J b)) : am_R E mX8_addRow 0 [some (.ref 33), some (.int a1), none] [] (hp I J b) 64 64 Q := by
  subst en
  have h7 := hC.2.1.2
  refine bX8_addRowC_0 (tX2_workOf (I := u2 I 33 4 (I 33 4 + 1)) (p := p) rc34 hC hR ?_)
  refine bX8_addRowC_29 (tX2_gladnessOf (I := u2 (u2 I 33 4 (I 33 4 + 1)) 33 5 (I 33 5 + sm (fun m => I 49 (7 * m + p m)) n)) (p := p) rc34 hC hR ?_)
  refine bX8_addRowC_52 ?_
  show am_R E mX8_addRow 58 [some (.ref 33), some (.int (nI n)), some (.int 0)] [] (hp (u2 (u2 (u2 I 33 4 (I 33 4 + 1)) 33 5 (I 33 5 + sm (fun m => I 49 (7 * m + p m)) n)) 33 6 (I 33 6 + sm (fun m => I 50 (7 * m + p m)) n)) J b) 64 64 Q
  generalize hG : u2 (u2 (u2 I 33 4 (I 33 4 + 1)) 33 5 (I 33 5 + sm (fun m => I 49 (7 * m + p m)) n)) 33 6 (I 33 6 + sm (fun m => I 50 (7 * m + p m)) n) = G
  have gA : Ag [33, 35] I G := by rw [← hG]; exact (((Ag.rf _ I).u2 (by decide)).u2 (by decide)).u2 (by decide)
  have g3 : ∀ j, j < 4 → G 33 j = I 33 j := fun j hj => by
    rw [← hG, u2_s, u2_s, u2_s]; unfold upd; rw [if_neg (by omega), if_neg (by omega), if_neg (by omega)]
  have g4 : G 33 4 = I 33 4 + 1 := by rw [← hG]; rfl
  have g5 : G 33 5 = I 33 5 + sm (fun m => I 49 (7 * m + p m)) n := by rw [← hG]; rfl
  have g6 : G 33 6 = I 33 6 + sm (fun m => I 50 (7 * m + p m)) n := by rw [← hG]; rfl
  have gr : G 34 = I 34 := gA 34 (by decide)
  have gh : G 35 = I 35 := by rw [← hG]; rfl
  have key : ∀ j m, m + j = n → ∀ g : Nat → Int32, (∀ i, i < n → ∀ d, d < n → g (7 * i + d) = I 35 (7 * i + d) + (if i < m ∧ p i = d then 1 else 0)) → am_R E mX8_addRow 58 [some (.ref 33), some (.int (nI n)), some (.int (nI m))] [] (hp (u1 G 35 g) J b) 64 64 Q := by
    intro j
    induction j with
    | zero =>
      intro m hm g hg
      have e : m = n := by omega
      subst e
      refine bX8_addRowC_58 (le_br rfl rfl (by omega) (by omega) (fun _ => ?_) (fun q => by omega))
      refine k _ (gA.u1 (by decide)) (fun j hj => by rw [u1_n _ _ (by decide)]; exact g3 j hj) (by rw [u1_n _ _ (by decide)]; exact g4) (by rw [u1_n _ _ (by decide)]; exact g5) (by rw [u1_n _ _ (by decide)]; exact g6) (fun i hi d hd => ?_)
      rw [u1_s, hg i hi d hd]
      congr 1
      by_cases e : p i = d
      · rw [if_pos ⟨hi, e⟩, if_pos e]
      · rw [if_neg (fun z => e z.2), if_neg e]
    | succ j ih =>
      intro m hm g hg
      have hmn : m < n := by omega
      have hpm := hR m hmn
      have e0 : u1 G 35 g 34 m = nI (p m) := by rw [u1_n _ _ (by decide), gr]; exact hpm.1
      refine bX8_addRowC_58 (le_br rfl rfl (by omega) (by omega) (fun q => by omega) (fun _ => ⟨m, rfl, by omega, 7 * m + p m, by rw [e0, k7'], by omega, ?_⟩))
      rw [n1, u2_u1, u1_s]
      refine ih (m + 1) (by omega) _ (fun i hi d hd => ?_)
      unfold upd
      by_cases q : 7 * i + d = 7 * m + p m
      · have q1 : i = m := by omega
        have q2 : d = p m := by omega
        rw [if_pos q, hg m hmn (p m) hpm.2, if_neg (fun z => by omega), q1, q2, if_pos ⟨by omega, rfl⟩, Int32.add_zero]
      · rw [if_neg q, hg i hi d hd]
        congr 1
        by_cases z : i < m ∧ p i = d
        · rw [if_pos z, if_pos ⟨by omega, z.2⟩]
        · rw [if_neg z, if_neg (fun w => ?_)]
          rcases Nat.lt_or_ge i m with x | x
          · exact z ⟨x, w.2⟩
          · have : i = m := by omega
            subst this
            exact q (by rw [w.2])
  have := key n 0 (by omega) (I 35) (fun i hi d hd => by rw [if_neg (fun z => by omega), Int32.add_zero])
  rw [← gh, u1_self] at this
  exact this
theorem bX8_makeC_0 {E : Nat × (Nat → Int32)} {I : Nat → Nat → Int32} {J : Nat → Nat → Int64} {b : Bool}  {Q : Option Value → am_H → Prop}  (wp : am_R E mX8_make 17 [some (.ref 33), some (.int 0), none] [] (hp (u2 (u2 (u2 I 33 4 0) 33 5 0) 33 6 0) J b) 64 64 Q) : am_R E mX8_make 0 [some (.ref 33), none, none] [] (hp I J b) 64 64 Q := by
  refine am_aload_n rfl rfl dX8_make_0 ?_
  refine am_iconst 0 rfl dX8_make_1 ?_
  refine am_putI dX8_make_2 flX8_26 (Or.inl rfl) rfl rfl (by decide) ?_
  refine am_aload_n rfl rfl dX8_make_5 ?_
  refine am_iconst 0 rfl dX8_make_6 ?_
  refine am_putI dX8_make_7 flX8_29 (Or.inl rfl) rfl rfl (by decide) ?_
  refine am_aload_n rfl rfl dX8_make_10 ?_
  refine am_iconst 0 rfl dX8_make_11 ?_
  refine am_putI dX8_make_12 flX8_32 (Or.inl rfl) rfl rfl (by decide) ?_
  refine am_iconst 0 rfl dX8_make_15 ?_
  refine am_istore_n (ls' := [some (.ref 33), some (.int 0), none]) rfl (by decide) rfl rfl dX8_make_16 ?_
  exact am_R.forget wp ⟨rfl, ⟨rfl, trivial⟩⟩
theorem bX8_makeC_17 {E : Nat × (Nat → Int32)} {I : Nat → Nat → Int32} {J : Nat → Nat → Int64} {b : Bool} {a1 : Int32} {Q : Option Value → am_H → Prop}  (wp : ((49 ≤ a1 → am_R E mX8_make 52 [some (.ref 33), some (.int (I 4 0)), some (.int 0)] [] (hp I J b) 64 64 Q) ∧ (¬ 49 ≤ a1 → ∃ j2, a1 = nI j2 ∧ j2 < 49 ∧ am_R E mX8_make 17 [some (.ref 33), some (.int (a1 + 1)), none] [] (hp (u2 I 35 j2 0) J b) 64 64 Q))) : am_R E mX8_make 17 [some (.ref 33), some (.int a1), none] [] (hp I J b) 64 64 Q := by
  refine am_iload_n rfl rfl dX8_make_17 ?_
  refine am_aload_n rfl rfl dX8_make_18 ?_
  refine am_getA (r := 35) dX8_make_19 flX8_15 (Or.inr ⟨_, rfl⟩) rfl (by decide) rfl ?_
  refine am_alen dX8_make_22 rfl (Or.inl rfl) (by decide) ?_
  show am_R E mX8_make 23 [some (.ref 33), some (.int a1), none] [.int 49, .int a1] (hp I J b) 64 64 Q
  refine am_icmp_ge dX8_make_23 (tgt := 39) rfl (fun hc1 => ?_) (fun hc1 => ?_)
  · have wp := wp.1 hc1
    refine am_aload_n rfl rfl dX8_make_39 ?_
    refine am_getA (r := 23) dX8_make_40 flX8_18 (Or.inl ⟨_, rfl⟩) rfl (by decide) rfl ?_
    refine am_getA (r := 4) dX8_make_43 flX8_35 (Or.inl ⟨_, rfl⟩) rfl (by decide) rfl ?_
    refine am_getI dX8_make_46 flX8_41 (Or.inl rfl) rfl (by decide) ?_
    refine am_istore_n (ls' := [some (.ref 33), some (.int (I 4 0)), none]) rfl (by decide) rfl rfl dX8_make_49 ?_
    refine am_iconst 0 rfl dX8_make_50 ?_
    refine am_istore_n (ls' := [some (.ref 33), some (.int (I 4 0)), some (.int 0)]) rfl (by decide) rfl rfl dX8_make_51 ?_
    exact am_R.forget wp ⟨rfl, ⟨rfl, ⟨rfl, trivial⟩⟩⟩
  · have wp := wp.2 hc1
    refine am_aload_n rfl rfl dX8_make_26 ?_
    refine am_getA (r := 35) dX8_make_27 flX8_15 (Or.inr ⟨_, rfl⟩) rfl (by decide) rfl ?_
    refine am_iload_n rfl rfl dX8_make_30 ?_
    refine am_iconst 0 rfl dX8_make_31 ?_
    obtain ⟨j2, e2, w2, wp⟩ := wp
    refine am_iastN (j := j2) dX8_make_32 rfl (by decide) e2 w2 (by decide) ?_
    refine am_iinc (ls' := [some (.ref 33), some (.int (a1 + 1)), none]) (by decide) rfl rfl rfl dX8_make_33 ?_
    refine am_goto dX8_make_36 (tgt := 17) rfl ?_
    exact am_R.forget wp ⟨rfl, ⟨rfl, trivial⟩⟩
theorem bX8_makeC_52 {E : Nat × (Nat → Int32)} {I : Nat → Nat → Int32} {J : Nat → Nat → Int64} {b : Bool} {a1 : Int32} {a2 : Int32} {Q : Option Value → am_H → Prop}  (wp : ∃ j1, a1 = nI j1 ∧ j1 < 8 ∧ (((am_fa j1) ≤ a2 → Q none (hp (u2 I 33 3 1) J b)) ∧ (¬ (am_fa j1) ≤ a2 → am_R E mX3_fill 0 [some (.ref 34), some (.int a1), some (.int a2), none, none, none, none, none, none] [] (hp I J b) 64 64 (fun r h' => am_R E mX8_make 70 [some (.ref 33), some (.int a1), some (.int a2)] (r.toList ++ []) h' 64 64 Q)))) : am_R E mX8_make 52 [some (.ref 33), some (.int a1), some (.int a2)] [] (hp I J b) 64 64 Q := by
  refine am_iload_n rfl rfl dX8_make_52 ?_
  refine am_gsFN dX8_make_53 (by decide +kernel) ?_
  refine am_iload_n rfl rfl dX8_make_56 ?_
  obtain ⟨j1, e1, w1, wp⟩ := wp
  refine am_ildFN (j := j1) dX8_make_57 e1 w1 ?_
  refine am_icmp_ge dX8_make_58 (tgt := 111) rfl (fun hc2 => ?_) (fun hc2 => ?_)
  · have wp := wp.1 hc2
    refine am_aload_n rfl rfl dX8_make_111 ?_
    refine am_iconst 1 rfl dX8_make_112 ?_
    refine am_putZ dX8_make_113 flX8_67 (Or.inl rfl) rfl rfl (by decide) (by decide) ?_
    exact am_vret dX8_make_116 rfl wp
  · have wp := wp.2 hc2
    refine am_aload_n rfl rfl dX8_make_61 ?_
    refine am_getA (r := 34) dX8_make_62 flX8_9 (Or.inr ⟨_, rfl⟩) rfl (by decide) rfl ?_
    refine am_iload_n rfl rfl dX8_make_65 ?_
    refine am_iload_n rfl rfl dX8_make_66 ?_
    refine am_invS (As := [.ref 34, .int a1, .int a2]) (lsZ := [some (.ref 34), some (.int a1), some (.int a2), none, none, none, none, none, none]) (st := []) dX8_make_67 hX3_fill lkX8_49 ⟨by decide, by decide⟩ rfl rfl (Nat.le_of_ble_eq_true rfl) rfl (Nat.le_of_ble_eq_true rfl) ⟨Nat.le_refl _, Nat.le_refl _⟩ (am_R.mono wp (fun r h' q => am_R.forget q ⟨rfl, ⟨rfl, ⟨rfl, trivial⟩⟩⟩))
theorem bX8_makeC_70 {E : Nat × (Nat → Int32)} {I : Nat → Nat → Int32} {J : Nat → Nat → Int64} {b : Bool} {a1 : Int32} {a2 : Int32} {Q : Option Value → am_H → Prop}  (wp : am_R E mX5_allMayDo 0 [some (.ref 23), some (.ref 34), none] [] (hp I J b) 64 64 (fun r h' => am_R E mX8_make 81 [some (.ref 33), some (.int a1), some (.int a2)] (r.toList ++ []) h' 64 64 Q)) : am_R E mX8_make 70 [some (.ref 33), some (.int a1), some (.int a2)] [] (hp I J b) 64 64 Q := by
  refine am_aload_n rfl rfl dX8_make_70 ?_
  refine am_getA (r := 23) dX8_make_71 flX8_18 (Or.inl ⟨_, rfl⟩) rfl (by decide) rfl ?_
  refine am_aload_n rfl rfl dX8_make_74 ?_
  refine am_getA (r := 34) dX8_make_75 flX8_9 (Or.inr ⟨_, rfl⟩) rfl (by decide) rfl ?_
  refine am_invV (ci := 3) (As := [.ref 34]) (lsZ := [some (.ref 23), some (.ref 34), none]) (st := []) dX8_make_78 hX5_allMayDo lkX8_55 ⟨by decide, by decide⟩ (by decide) rfl (by decide) rfl rfl rfl (Nat.le_of_ble_eq_true rfl) rfl (Nat.le_of_ble_eq_true rfl) ⟨Nat.le_refl _, Nat.le_refl _⟩ (am_R.mono wp (fun r h' q => am_R.forget q ⟨rfl, ⟨rfl, ⟨rfl, trivial⟩⟩⟩))
theorem bX8_makeC_81 {E : Nat × (Nat → Int32)} {I : Nat → Nat → Int32} {J : Nat → Nat → Int64} {b : Bool} {a1 : Int32} {a2 : Int32} {x0 : Int32} {Q : Option Value → am_H → Prop}  (wp : ((x0 = 0 → am_R E mX8_make 52 [some (.ref 33), some (.int a1), some (.int (a2 + 1))] [] (hp I J b) 64 64 Q) ∧ (¬ x0 = 0 → am_R E mX5_passAll 0 [some (.ref 23), some (.ref 34), some (.int (I 33 1)), none] [] (hp I J b) 64 64 (fun r h' => am_R E mX8_make 99 [some (.ref 33), some (.int a1), some (.int a2)] (r.toList ++ []) h' 64 64 Q)))) : am_R E mX8_make 81 [some (.ref 33), some (.int a1), some (.int a2)] [.int x0] (hp I J b) 64 64 Q := by
  refine am_if_eq dX8_make_81 (tgt := 105) rfl (fun hc1 => ?_) (fun hc1 => ?_)
  · have wp := wp.1 hc1
    refine am_iinc (ls' := [some (.ref 33), some (.int a1), some (.int (a2 + 1))]) (by decide) rfl rfl rfl dX8_make_105 ?_
    refine am_goto dX8_make_108 (tgt := 52) rfl ?_
    exact am_R.forget wp ⟨rfl, ⟨rfl, ⟨rfl, trivial⟩⟩⟩
  · have wp := wp.2 hc1
    refine am_aload_n rfl rfl dX8_make_84 ?_
    refine am_getA (r := 23) dX8_make_85 flX8_18 (Or.inl ⟨_, rfl⟩) rfl (by decide) rfl ?_
    refine am_aload_n rfl rfl dX8_make_88 ?_
    refine am_getA (r := 34) dX8_make_89 flX8_9 (Or.inr ⟨_, rfl⟩) rfl (by decide) rfl ?_
    refine am_aload_n rfl rfl dX8_make_92 ?_
    refine am_getI dX8_make_93 flX8_22 (Or.inl rfl) rfl (by decide) ?_
    refine am_invV (ci := 3) (As := [.ref 34, .int (I 33 1)]) (lsZ := [some (.ref 23), some (.ref 34), some (.int (I 33 1)), none]) (st := []) dX8_make_96 hX5_passAll lkX8_59 ⟨by decide, by decide⟩ (by decide) rfl (by decide) rfl rfl rfl (Nat.le_of_ble_eq_true rfl) rfl (Nat.le_of_ble_eq_true rfl) ⟨Nat.le_refl _, Nat.le_refl _⟩ (am_R.mono wp (fun r h' q => am_R.forget q ⟨rfl, ⟨rfl, ⟨rfl, trivial⟩⟩⟩))
theorem bX8_makeC_99 {E : Nat × (Nat → Int32)} {I : Nat → Nat → Int32} {J : Nat → Nat → Int64} {b : Bool} {a1 : Int32} {a2 : Int32} {x0 : Int32} {Q : Option Value → am_H → Prop}  (wp : am_R E mX8_addRow 0 [some (.ref 33), some (.int a1), none] [] (hp I J b) 64 64 (fun r h' => am_R E mX8_make 105 [some (.ref 33), some (.int a1), some (.int a2)] (r.toList ++ []) h' 64 64 Q)) : am_R E mX8_make 99 [some (.ref 33), some (.int a1), some (.int a2)] [.int x0] (hp I J b) 64 64 Q := by
  refine am_pop rfl dX8_make_99 ?_
  refine am_aload_n rfl rfl dX8_make_100 ?_
  refine am_iload_n rfl rfl dX8_make_101 ?_
  refine am_invV (ci := 6) (As := [.int a1]) (lsZ := [some (.ref 33), some (.int a1), none]) (st := []) dX8_make_102 hX8_addRow lkX8_63 ⟨by decide, by decide⟩ (by decide) rfl (by decide) rfl rfl rfl (Nat.le_of_ble_eq_true rfl) rfl (Nat.le_of_ble_eq_true rfl) ⟨Nat.le_refl _, Nat.le_refl _⟩ (am_R.mono wp (fun r h' q => am_R.forget q ⟨rfl, ⟨rfl, ⟨rfl, trivial⟩⟩⟩))
theorem bX8_makeC_105 {E : Nat × (Nat → Int32)} {I : Nat → Nat → Int32} {J : Nat → Nat → Int64} {b : Bool} {a1 : Int32} {a2 : Int32} {Q : Option Value → am_H → Prop}  (wp : am_R E mX8_make 52 [some (.ref 33), some (.int a1), some (.int (a2 + 1))] [] (hp I J b) 64 64 Q) : am_R E mX8_make 105 [some (.ref 33), some (.int a1), some (.int a2)] [] (hp I J b) 64 64 Q := by
  refine am_iinc (ls' := [some (.ref 33), some (.int a1), some (.int (a2 + 1))]) (by decide) rfl rfl rfl dX8_make_105 ?_
  refine am_goto dX8_make_108 (tgt := 52) rfl ?_
  exact am_R.forget wp ⟨rfl, ⟨rfl, ⟨rfl, trivial⟩⟩⟩
theorem tX8_makeC {by' : Nat} (hC : CH I n) (hb : by' = 0 ∨ by' = 2 ∨ by' = 3) (e1 : I 33 1 = nI by') (k : ∀ I', Ag (tS 33 34 35) I I' → I' 33 1 = nI by' → I' 33 3 = 1 → Tl I n by' (I' 33) (I' 35) → Q none (hp I' J b)) : am_R E mX8_make 0 [some (.ref 33), none, none] [] (hp I J b) 64 64 Q := by
  have h7 := hC.2.1.2
  have h2 := hC.2.1.1
  have hfl := fct_le n (by omega)
  refine bX8_makeC_0 ?_
  -- the loop over the draws
  have loop : ∀ j c, c + j = fct n → ∀ I1, Ag (tS 33 34 35) I I1 → I1 33 1 = nI by' → I1 33 4 = nI (fb_ct (lc I n) c) → I1 33 5 = sI (lc I n) (fun c => sm (fun m => I 49 (7 * m + sr I n by' c m)) n) c → I1 33 6 = sI (lc I n) (fun c => sm (fun m => I 50 (7 * m + sr I n by' c m)) n) c → (∀ m, m < n → ∀ d, d < n → I1 35 (7 * m + d) = sI (lc I n) (fun c => if sr I n by' c m = d then 1 else 0) c) → am_R E mX8_make 52 [some (.ref 33), some (.int (nI n)), some (.int (nI c))] [] (hp I1 J b) 64 64 Q := by
    intro j
    induction j with
    | zero =>
      intro c hc I1 hA i1 i4 i5 i6 ih
      have e : c = fct n := by omega
      subst e
      refine bX8_makeC_52 ⟨n, rfl, by omega, ?_⟩
      rw [fa_fct n (by omega)]
      refine le_br rfl rfl (by omega) (by omega) (fun _ => ?_) (fun q => by omega)
      have q : ∀ j, j ≠ 3 → u2 I1 33 3 1 33 j = I1 33 j := fun j hj => by rw [u2_s]; unfold upd; rw [if_neg hj]
      refine k _ (hA.u2 (by decide)) (by rw [q 1 (by decide)]; exact i1) (by rw [u2_s]; rfl) ⟨by rw [q 4 (by decide)]; exact i4, by rw [q 5 (by decide)]; exact i5, by rw [q 6 (by decide)]; exact i6, fun m hm d hd => ?_⟩
      rw [u2_n _ _ _ (by decide)]; exact ih m hm d hd
    | succ j ihj =>
      intro c hc I1 hA i1 i4 i5 i6 ih
      have hcl : c < fct n := by omega
      refine bX8_makeC_52 ⟨n, rfl, by omega, ?_⟩
      rw [fa_fct n (by omega)]
      refine le_br rfl rfl (by omega) (by omega) (fun q => by omega) (fun _ => ?_)
      refine tX3_fill (n := n) rc34 h2 h7 rfl rfl hcl (fun f hf => bX8_makeC_70 ?_)
      have hA2 : Ag (tS 33 34 35) I (u1 I1 34 f) := hA.u1 (by decide)
      obtain ⟨x1, x2, x3, x4, x5, x6⟩ := hA2.CH (Or.inr (Or.inr ⟨rfl, rfl, rfl⟩))
      have w4 : u1 I1 34 f 33 = I1 33 := u1_n _ _ (by decide)
      have wh : u1 I1 34 f 35 = I1 35 := u1_n _ _ (by decide)
      refine tX5_allMayDo (n := n) (p := ur n c) rc34 (by rw [x1]; exact hC) (by rw [u1_s]; exact hf) (fun q => bX8_makeC_81 (z01 rfl ?_)) (fun q => bX8_makeC_81 (z00 rfl ?_))
      · rw [x2] at q
        have hl : lc I n c = true := decide_eq_true q
        refine tX5_passAll (n := n) (by' := by') (p := ur n c) rc34 (by rw [x1]; exact hC) (by rw [u1_s]; exact hf) hb (by rw [w4]; exact i1) (fun f2 F cc hf2 => bX8_makeC_99 ?_)
        rw [x3] at hf2
        rw [u1_u1]
        have hA3 : Ag (tS 33 34 35) I (fh (u1 I1 34 f2) F cc) := (hA.u1 (by decide)).fh (by decide) (by decide)
        obtain ⟨y1, y2, y3, y4, y5, y6⟩ := hA3.CH (Or.inr (Or.inr ⟨rfl, rfl, rfl⟩))
        have v4 : fh (u1 I1 34 f2) F cc 33 = I1 33 := by rw [fh_n _ (by decide) (by decide)]; exact u1_n _ _ (by decide)
        have vh : fh (u1 I1 34 f2) F cc 35 = I1 35 := by rw [fh_n _ (by decide) (by decide)]; exact u1_n _ _ (by decide)
        refine tX8_addRowC (n := n) (p := sr I n by' c) rfl (by rw [y1]; exact hC) (by rw [fh_n _ (by decide) (by decide), u1_s]; exact hf2) (fun I2 hB b3 b4 b5 b6 bh => bX8_makeC_105 ?_)
        rw [v4] at b3 b4 b5 b6
        rw [vh] at bh
        rw [y4] at b5
        rw [y5] at b6
        rw [n1]
        refine ihj (c + 1) (by omega) I2 (hA3.tr (hB.mono (by decide))) (by rw [b3 1 (by decide)]; exact i1) ?_ ?_ ?_ (fun m hm d hd => ?_)
        · rw [b4, i4, n1, fb_ct_succ, hl]; rfl
        · rw [b5, i5, sI, hl]; rfl
        · rw [b6, i6, sI, hl]; rfl
        · rw [bh m hm d hd, ih m hm d hd, sI, hl]; rfl
      · rw [x2] at q
        have hl : lc I n c = false := decide_eq_false q
        rw [n1]
        refine ihj (c + 1) (by omega) _ hA2 (by rw [w4]; exact i1) ?_ ?_ ?_ (fun m hm d hd => ?_)
        · rw [w4, i4, fb_ct_succ, hl]; rfl
        · rw [w4, i5, sI, hl]; rfl
        · rw [w4, i6, sI, hl]; rfl
        · rw [wh, ih m hm d hd, sI, hl]; rfl
  generalize hG : u2 (u2 (u2 I 33 4 0) 33 5 0) 33 6 0 = G
  have gA : Ag (tS 33 34 35) I G := by rw [← hG]; exact (((Ag.rf _ I).u2 (by decide)).u2 (by decide)).u2 (by decide)
  have key : ∀ j m, m + j = 49 → ∀ g : Nat → Int32, (∀ i, i < m → g i = 0) → am_R E mX8_make 17 [some (.ref 33), some (.int (nI m)), none] [] (hp (u1 G 35 g) J b) 64 64 Q := by
    intro j
    induction j with
    | zero =>
      intro m hm g hg
      have e : m = 49 := by omega
      subst e
      refine bX8_makeC_17 (le_br (n := 49) rfl rfl (by omega) (by omega) (fun _ => ?_) (fun q => by omega))
      have gA2 : Ag (tS 33 34 35) I (u1 G 35 g) := gA.u1 (by decide)
      rw [gA2 4 (by decide), hC.1]
      have gt : u1 G 35 g 33 = G 33 := u1_n _ _ (by decide)
      refine loop (fct n) 0 (by omega) _ gA2 (by rw [gt, ← hG]; exact e1) (by rw [gt, ← hG]; rfl) (by rw [gt, ← hG]; rfl) (by rw [gt, ← hG]; rfl) (fun m hm d hd => ?_)
      rw [u1_s]; exact hg _ (by omega)
    | succ j ih =>
      intro m hm g hg
      refine bX8_makeC_17 (le_br (n := 49) rfl rfl (by omega) (by omega) (fun q => by omega) (fun _ => ⟨m, rfl, by omega, ?_⟩))
      rw [n1, u2_u1]
      refine ih (m + 1) (by omega) _ (fun i hi => ?_)
      unfold upd
      by_cases q : i = m
      · rw [if_pos q]
      · rw [if_neg q]; exact hg i (by omega)
  have := key 49 0 (by omega) (G 35) (fun i hi => by omega)
  rw [u1_self] at this
  exact this
theorem bX9_tallyOf_0 {E : Nat × (Nat → Int32)} {I : Nat → Nat → Int32} {J : Nat → Nat → Int64} {b : Bool} {a1 : Int32} {Q : Option Value → am_H → Prop}  (wp : ((¬ a1 = 0 → ((¬ a1 = 2 → ((¬ (I 33 3) = 0 → Q (some (.ref 33)) (hp I J b)) ∧ ((I 33 3) = 0 → am_R E mX8_make 0 [some (.ref 33), none, none] [] (hp I J b) 64 64 (fun r h' => am_R E mX9_tallyOf 35 [none, none, some (.ref 33)] (r.toList ++ []) h' 64 64 Q)))) ∧ (a1 = 2 → ((¬ (I 30 3) = 0 → Q (some (.ref 30)) (hp I J b)) ∧ ((I 30 3) = 0 → am_R E mX8_make 0 [some (.ref 30), none, none] [] (hp I J b) 64 64 (fun r h' => am_R E mX9_tallyOf 35 [none, none, some (.ref 30)] (r.toList ++ []) h' 64 64 Q)))))) ∧ (a1 = 0 → ((¬ (I 27 3) = 0 → Q (some (.ref 27)) (hp I J b)) ∧ ((I 27 3) = 0 → am_R E mX8_make 0 [some (.ref 27), none, none] [] (hp I J b) 64 64 (fun r h' => am_R E mX9_tallyOf 35 [none, none, some (.ref 27)] (r.toList ++ []) h' 64 64 Q)))))) : am_R E mX9_tallyOf 0 [some (.ref 0), some (.int a1), none] [] (hp I J b) 64 64 Q := by
  refine am_aload_n rfl rfl dX9_tallyOf_0 ?_
  refine am_getA (r := 26) dX9_tallyOf_1 flX9_52 (Or.inr ⟨_, rfl⟩) rfl (by decide) rfl ?_
  refine am_iload_n rfl rfl dX9_tallyOf_4 ?_
  refine am_if_ne dX9_tallyOf_5 (tgt := 12) rfl (fun hc1 => ?_) (fun hc1 => ?_)
  · have wp := wp.1 hc1
    refine am_iload_n rfl rfl dX9_tallyOf_12 ?_
    refine am_iconst 2 rfl dX9_tallyOf_13 ?_
    refine am_icmp_ne dX9_tallyOf_14 (tgt := 21) rfl (fun hc2 => ?_) (fun hc2 => ?_)
    · have wp := wp.1 hc2
      refine am_iconst 2 rfl dX9_tallyOf_21 ?_
      refine am_aaldN (j := 2) (r := 33) dX9_tallyOf_22 rfl (Or.inr (Or.inr (Or.inr (Or.inr rfl)))) (by decide) rfl (by decide) (by decide) rfl ?_
      refine am_astore_n (ls' := [some (.ref 0), some (.int a1), some (.ref 33)]) rfl (by decide) rfl rfl dX9_tallyOf_23 ?_
      refine am_aload_n rfl rfl dX9_tallyOf_24 ?_
      refine am_getI dX9_tallyOf_25 flX9_267 (Or.inr rfl) rfl (by decide) ?_
      refine am_if_ne dX9_tallyOf_28 (tgt := 35) rfl (fun hc3 => ?_) (fun hc3 => ?_)
      · have wp := wp.1 hc3
        refine am_aload_n rfl rfl dX9_tallyOf_35 ?_
        exact am_aret dX9_tallyOf_36 rfl (Or.inl ⟨_, rfl⟩) wp
      · have wp := wp.2 hc3
        refine am_aload_n rfl rfl dX9_tallyOf_31 ?_
        refine am_invV (ci := 6) (As := []) (lsZ := [some (.ref 33), none, none]) (st := []) dX9_tallyOf_32 hX8_make lkX9_270 ⟨by decide, by decide⟩ (by decide) rfl (by decide) rfl rfl rfl (Nat.le_of_ble_eq_true rfl) rfl (Nat.le_of_ble_eq_true rfl) ⟨Nat.le_refl _, Nat.le_refl _⟩ (am_R.mono wp (fun r h' q => am_R.forget q ⟨rfl, trivial⟩))
    · have wp := wp.2 hc2
      refine am_iconst 1 rfl dX9_tallyOf_17 ?_
      refine am_goto dX9_tallyOf_18 (tgt := 22) rfl ?_
      refine am_aaldN (j := 1) (r := 30) dX9_tallyOf_22 rfl (Or.inr (Or.inr (Or.inr (Or.inr rfl)))) (by decide) rfl (by decide) (by decide) rfl ?_
      refine am_astore_n (ls' := [some (.ref 0), some (.int a1), some (.ref 30)]) rfl (by decide) rfl rfl dX9_tallyOf_23 ?_
      refine am_aload_n rfl rfl dX9_tallyOf_24 ?_
      refine am_getI dX9_tallyOf_25 flX9_267 (Or.inr rfl) rfl (by decide) ?_
      refine am_if_ne dX9_tallyOf_28 (tgt := 35) rfl (fun hc4 => ?_) (fun hc4 => ?_)
      · have wp := wp.1 hc4
        refine am_aload_n rfl rfl dX9_tallyOf_35 ?_
        exact am_aret dX9_tallyOf_36 rfl (Or.inl ⟨_, rfl⟩) wp
      · have wp := wp.2 hc4
        refine am_aload_n rfl rfl dX9_tallyOf_31 ?_
        refine am_invV (ci := 6) (As := []) (lsZ := [some (.ref 30), none, none]) (st := []) dX9_tallyOf_32 hX8_make lkX9_270 ⟨by decide, by decide⟩ (by decide) rfl (by decide) rfl rfl rfl (Nat.le_of_ble_eq_true rfl) rfl (Nat.le_of_ble_eq_true rfl) ⟨Nat.le_refl _, Nat.le_refl _⟩ (am_R.mono wp (fun r h' q => am_R.forget q ⟨rfl, trivial⟩))
  · have wp := wp.2 hc1
    refine am_iconst 0 rfl dX9_tallyOf_8 ?_
    refine am_goto dX9_tallyOf_9 (tgt := 22) rfl ?_
    refine am_aaldN (j := 0) (r := 27) dX9_tallyOf_22 rfl (Or.inr (Or.inr (Or.inr (Or.inr rfl)))) (by decide) rfl (by decide) (by decide) rfl ?_
    refine am_astore_n (ls' := [some (.ref 0), some (.int a1), some (.ref 27)]) rfl (by decide) rfl rfl dX9_tallyOf_23 ?_
    refine am_aload_n rfl rfl dX9_tallyOf_24 ?_
    refine am_getI dX9_tallyOf_25 flX9_267 (Or.inr rfl) rfl (by decide) ?_
    refine am_if_ne dX9_tallyOf_28 (tgt := 35) rfl (fun hc5 => ?_) (fun hc5 => ?_)
    · have wp := wp.1 hc5
      refine am_aload_n rfl rfl dX9_tallyOf_35 ?_
      exact am_aret dX9_tallyOf_36 rfl (Or.inl ⟨_, rfl⟩) wp
    · have wp := wp.2 hc5
      refine am_aload_n rfl rfl dX9_tallyOf_31 ?_
      refine am_invV (ci := 6) (As := []) (lsZ := [some (.ref 27), none, none]) (st := []) dX9_tallyOf_32 hX8_make lkX9_270 ⟨by decide, by decide⟩ (by decide) rfl (by decide) rfl rfl rfl (Nat.le_of_ble_eq_true rfl) rfl (Nat.le_of_ble_eq_true rfl) ⟨Nat.le_refl _, Nat.le_refl _⟩ (am_R.mono wp (fun r h' q => am_R.forget q ⟨rfl, trivial⟩))
theorem bX9_tallyOf_35 {E : Nat × (Nat → Int32)} {I : Nat → Nat → Int32} {J : Nat → Nat → Int64} {b : Bool} {a2 : Nat} {Q : Option Value → am_H → Prop} (hs_a2 : am_s a2 = .inr 6) (hk_a2 : a2 < 64) (wp : Q (some (.ref a2)) (hp I J b)) : am_R E mX9_tallyOf 35 [none, none, some (.ref a2)] [] (hp I J b) 64 64 Q := by
  refine am_aload_n rfl rfl dX9_tallyOf_35 ?_
  exact am_aret dX9_tallyOf_36 rfl (Or.inl ⟨_, rfl⟩) wp
/-- the tally of a ring, made if it isn't fresh -/
theorem tX9_tallyOf0 {a1 : Int32} (hI : Inv I n) (e : a1 = 0) (k : ∀ I', Ag (tS 27 28 29) I I' → I' 27 1 = nI 0 → I' 27 3 = 1 → Tl I n 0 (I' 27) (I' 29) → Q (some (.ref 27)) (hp I' J b)) : am_R E mX9_tallyOf 0 [some (.ref 0), some (.int a1), none] [] (hp I J b) 64 64 Q := by
  obtain ⟨h1, h2⟩ := hI.2.2.2.2.2.2.2.2.2.2.1
  refine bX9_tallyOf_0 ⟨fun q => absurd e q, fun _ => ⟨fun q => ?_, fun q => ?_⟩⟩
  · rcases h2 with z | ⟨z, z2⟩
    · exact absurd z q
    · exact k I (Ag.rf _ I) h1 z z2
  · exact tX8_makeA hI.2.1 (Or.inl rfl) h1 (fun I' a1 a2 a3 a4 => bX9_tallyOf_35 rfl (by decide) (k I' a1 a2 a3 a4))
theorem tX9_tallyOf2 {a1 : Int32} (hI : Inv I n) (e : a1 = 2) (k : ∀ I', Ag (tS 30 31 32) I I' → I' 30 1 = nI 2 → I' 30 3 = 1 → Tl I n 2 (I' 30) (I' 32) → Q (some (.ref 30)) (hp I' J b)) : am_R E mX9_tallyOf 0 [some (.ref 0), some (.int a1), none] [] (hp I J b) 64 64 Q := by
  obtain ⟨h1, h2⟩ := hI.2.2.2.2.2.2.2.2.2.2.2.1
  refine bX9_tallyOf_0 ⟨fun _ => ⟨fun q => absurd e q, fun _ => ⟨fun q => ?_, fun q => ?_⟩⟩, fun q => by rw [e] at q; exact absurd q (by decide)⟩
  · rcases h2 with z | ⟨z, z2⟩
    · exact absurd z q
    · exact k I (Ag.rf _ I) h1 z z2
  · exact tX8_makeB hI.2.1 (Or.inr (Or.inl rfl)) h1 (fun I' a1 a2 a3 a4 => bX9_tallyOf_35 rfl (by decide) (k I' a1 a2 a3 a4))
theorem tX9_tallyOf3 {a1 : Int32} (hI : Inv I n) (e : a1 = 3) (k : ∀ I', Ag (tS 33 34 35) I I' → I' 33 1 = nI 3 → I' 33 3 = 1 → Tl I n 3 (I' 33) (I' 35) → Q (some (.ref 33)) (hp I' J b)) : am_R E mX9_tallyOf 0 [some (.ref 0), some (.int a1), none] [] (hp I J b) 64 64 Q := by
  obtain ⟨h1, h2⟩ := hI.2.2.2.2.2.2.2.2.2.2.2.2
  refine bX9_tallyOf_0 ⟨fun _ => ⟨fun _ => ⟨fun q => ?_, fun q => ?_⟩, fun q => by rw [e] at q; exact absurd q (by decide)⟩, fun q => by rw [e] at q; exact absurd q (by decide)⟩
  · rcases h2 with z | ⟨z, z2⟩
    · exact absurd z q
    · exact k I (Ag.rf _ I) h1 z z2
  · exact tX8_makeC hI.2.1 (Or.inr (Or.inr rfl)) h1 (fun I' a1 a2 a3 a4 => bX9_tallyOf_35 rfl (by decide) (k I' a1 a2 a3 a4))
end P10
