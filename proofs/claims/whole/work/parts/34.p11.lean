/-! ===== pairs: lawful, mean, odds ===== -/
section P11
variable {E : Nat × (Nat → Int32)} {I I' : Nat → Nat → Int32} {J : Nat → Nat → Int64} {b : Bool} {n : Nat} {Q : Option Value → am_H → Prop}
theorem Sc_of {t r h : Nat} {I1 I2 : Nat → Nat → Int32} (ha : Ag (tS t r h) I I1) (hm : Am I1 I2) (ht : (t = 27 ∧ r = 28 ∧ h = 29) ∨ (t = 30 ∧ r = 31 ∧ h = 32) ∨ (t = 33 ∧ r = 34 ∧ h = 35)) : Sc I I2 := by
  rcases ht with ⟨rfl, rfl, rfl⟩ | ⟨rfl, rfl, rfl⟩ | ⟨rfl, rfl, rfl⟩
  all_goals
    have g : ∀ a, a ≠ 58 → a ≠ 48 → a ∉ _ → I2 a = I a := fun a q1 q2 q3 => (hm.1 a q1 q2).trans (ha a q3)
    have g48 : ∀ j, j < 26 → I2 48 j = I 48 j := fun j hj => (hm.2 j hj).trans (by rw [ha 48 (by decide)])
    exact ⟨⟨by rw [g 1 (by decide) (by decide) (by decide)], g 2 (by decide) (by decide) (by decide), g48 6 (by decide), g 53 (by decide) (by decide) (by decide)⟩, ⟨g 4 (by decide) (by decide) (by decide), g 5 (by decide) (by decide) (by decide), g 6 (by decide) (by decide) (by decide), g 7 (by decide) (by decide) (by decide), g 8 (by decide) (by decide) (by decide), g 9 (by decide) (by decide) (by decide), g 10 (by decide) (by decide) (by decide), g 11 (by decide) (by decide) (by decide), g 12 (by decide) (by decide) (by decide)⟩, ⟨g 14 (by decide) (by decide) (by decide), g 15 (by decide) (by decide) (by decide), g 16 (by decide) (by decide) (by decide), g 17 (by decide) (by decide) (by decide), g 18 (by decide) (by decide) (by decide), g 19 (by decide) (by decide) (by decide), g 20 (by decide) (by decide) (by decide), g 21 (by decide) (by decide) (by decide), g 22 (by decide) (by decide) (by decide), g 24 (by decide) (by decide) (by decide)⟩, ⟨g48 0 (by decide), g48 1 (by decide), g 49 (by decide) (by decide) (by decide), g 50 (by decide) (by decide) (by decide), g 51 (by decide) (by decide) (by decide), g 52 (by decide) (by decide) (by decide), g 55 (by decide) (by decide) (by decide), g 56 (by decide) (by decide) (by decide), g 57 (by decide) (by decide) (by decide)⟩⟩
theorem Inv.t0 {I1 I2 : Nat → Nat → Int32} (hI : Inv I n) (ha : Ag (tS 27 28 29) I I1) (e1 : I1 27 1 = nI 0) (e3 : I1 27 3 = 1) (ht : Tl I n 0 (I1 27) (I1 29)) (hm : Am I1 I2) : Inv I2 n := by
  have g : ∀ a, a ≠ 58 → a ≠ 48 → I2 a = I1 a := hm.1
  refine Inv.ta hI (Sc_of ha hm (Or.inl ⟨rfl, rfl, rfl⟩)) ?_ ?_ ?_
  · rw [g 27 (by decide) (by decide), g 29 (by decide) (by decide)]; exact ⟨e1, Or.inr ⟨e3, ht⟩⟩
  · rw [g 30 (by decide) (by decide), g 32 (by decide) (by decide), ha 30 (by decide), ha 32 (by decide)]; exact hI.2.2.2.2.2.2.2.2.2.2.2.1
  · rw [g 33 (by decide) (by decide), g 35 (by decide) (by decide), ha 33 (by decide), ha 35 (by decide)]; exact hI.2.2.2.2.2.2.2.2.2.2.2.2
theorem Inv.t2 {I1 I2 : Nat → Nat → Int32} (hI : Inv I n) (ha : Ag (tS 30 31 32) I I1) (e1 : I1 30 1 = nI 2) (e3 : I1 30 3 = 1) (ht : Tl I n 2 (I1 30) (I1 32)) (hm : Am I1 I2) : Inv I2 n := by
  have g : ∀ a, a ≠ 58 → a ≠ 48 → I2 a = I1 a := hm.1
  refine Inv.ta hI (Sc_of ha hm (Or.inr (Or.inl ⟨rfl, rfl, rfl⟩))) ?_ ?_ ?_
  · rw [g 27 (by decide) (by decide), g 29 (by decide) (by decide), ha 27 (by decide), ha 29 (by decide)]; exact hI.2.2.2.2.2.2.2.2.2.2.1
  · rw [g 30 (by decide) (by decide), g 32 (by decide) (by decide)]; exact ⟨e1, Or.inr ⟨e3, ht⟩⟩
  · rw [g 33 (by decide) (by decide), g 35 (by decide) (by decide), ha 33 (by decide), ha 35 (by decide)]; exact hI.2.2.2.2.2.2.2.2.2.2.2.2
theorem Inv.t3 {I1 I2 : Nat → Nat → Int32} (hI : Inv I n) (ha : Ag (tS 33 34 35) I I1) (e1 : I1 33 1 = nI 3) (e3 : I1 33 3 = 1) (ht : Tl I n 3 (I1 33) (I1 35)) (hm : Am I1 I2) : Inv I2 n := by
  have g : ∀ a, a ≠ 58 → a ≠ 48 → I2 a = I1 a := hm.1
  refine Inv.ta hI (Sc_of ha hm (Or.inr (Or.inr ⟨rfl, rfl, rfl⟩))) ?_ ?_ ?_
  · rw [g 27 (by decide) (by decide), g 29 (by decide) (by decide), ha 27 (by decide), ha 29 (by decide)]; exact hI.2.2.2.2.2.2.2.2.2.2.1
  · rw [g 30 (by decide) (by decide), g 32 (by decide) (by decide), ha 30 (by decide), ha 32 (by decide)]; exact hI.2.2.2.2.2.2.2.2.2.2.2.1
  · rw [g 33 (by decide) (by decide), g 35 (by decide) (by decide)]; exact ⟨e1, Or.inr ⟨e3, ht⟩⟩
/-- the reference finds what it found in the heap before the class worked -/
theorem Ag.m {t r h : Nat} {I1 : Nat → Nat → Int32} (ha : Ag (tS t r h) I I1) (ht : (t = 27 ∧ r = 28 ∧ h = 29) ∨ (t = 30 ∧ r = 31 ∧ h = 32) ∨ (t = 33 ∧ r = 34 ∧ h = 35)) (hN : Nn I n) (hY : Yw I n) (hL : Lk I) : Nn I1 n ∧ Yw I1 n ∧ Lk I1 ∧ lc I1 = lc I ∧ sr I1 = sr I ∧ I1 49 = I 49 ∧ I1 50 = I 50 := by
  have k : ∀ a, a = 48 ∨ a = 49 ∨ a = 50 ∨ a = 51 ∨ a = 55 → I1 a = I a := by
    intro a q
    rcases ht with ⟨rfl, rfl, rfl⟩ | ⟨rfl, rfl, rfl⟩ | ⟨rfl, rfl, rfl⟩ <;> rcases q with rfl | rfl | rfl | rfl | rfl <;> exact ha _ (by decide)
  have h48 := k 48 (by decide)
  have h49 := k 49 (by decide)
  have h50 := k 50 (by decide)
  have h51 := k 51 (by decide)
  have h55 := k 55 (by decide)
  have h55' : ∀ m, I1 55 (8 + m) = I 55 (8 + m) := fun m => by rw [h55]
  refine ⟨?_, ?_, ?_, lc_eq h49 h51 h55', sr_eq h49 h50 h51 h55', h49, h50⟩
  · unfold Nn at hN ⊢; rw [h48]; exact hN
  · unfold Yw at hY ⊢; rw [h55]; exact hY
  · unfold Lk at hL ⊢; rw [h50]; exact hL
theorem bX10_lawful_0 {E : Nat × (Nat → Int32)} {I : Nat → Nat → Int32} {J : Nat → Nat → Int64} {b : Bool}  {Q : Option Value → am_H → Prop}  (wp : am_R E mX10_lawful 4 [some (.ref 48), some (.int 0), some (.int 0)] [] (hp I J b) 64 64 Q) : am_R E mX10_lawful 0 [some (.ref 48), none, none] [] (hp I J b) 64 64 Q := by
  refine am_iconst 0 rfl dX10_lawful_0 ?_
  refine am_istore_n (ls' := [some (.ref 48), some (.int 0), none]) rfl (by decide) rfl rfl dX10_lawful_1 ?_
  refine am_iconst 0 rfl dX10_lawful_2 ?_
  refine am_istore_n (ls' := [some (.ref 48), some (.int 0), some (.int 0)]) rfl (by decide) rfl rfl dX10_lawful_3 ?_
  exact am_R.forget wp ⟨rfl, ⟨rfl, ⟨rfl, trivial⟩⟩⟩
theorem bX10_lawful_4 {E : Nat × (Nat → Int32)} {I : Nat → Nat → Int32} {J : Nat → Nat → Int64} {b : Bool} {a1 : Int32} {a2 : Int32} {Q : Option Value → am_H → Prop}  (wp : ∃ j1, (I 48 0) = nI j1 ∧ j1 < 8 ∧ (((nI (fct j1)) ≤ a2 → Q (some (.int a1)) (hp I J b)) ∧ (¬ (nI (fct j1)) ≤ a2 → am_R E mX10_takeDraw 0 [some (.ref 48), some (.int a2), none, none, none, none, none, none] [] (hp I J b) 64 64 (fun r h' => am_R E mX10_lawful 20 [some (.ref 48), some (.int a1), some (.int a2)] (r.toList ++ []) h' 64 64 Q)))) : am_R E mX10_lawful 4 [some (.ref 48), some (.int a1), some (.int a2)] [] (hp I J b) 64 64 Q := by
  refine am_iload_n rfl rfl dX10_lawful_4 ?_
  refine am_aload_n rfl rfl dX10_lawful_5 ?_
  refine am_getI dX10_lawful_6 flX10_7 (Or.inl rfl) rfl (by decide) ?_
  obtain ⟨j1, e1, w1, wp⟩ := wp
  refine am_invS (As := [.int (I 48 0)]) (lsZ := [some (.int (I 48 0)), none, none]) (st := [.int a2]) dX10_lawful_9 hX10_draws lkX10_173 ⟨by decide, by decide⟩ rfl rfl (Nat.le_of_ble_eq_true rfl) rfl (Nat.le_of_ble_eq_true rfl) ⟨Nat.le_refl _, Nat.le_refl _⟩ (tX10_draws (n := j1) e1 (Nat.le_of_lt_succ w1) ?_)
  show am_R E mX10_lawful 12 [some (.ref 48), some (.int a1), some (.int a2)] [.int (nI (fct j1)), .int a2] (hp I J b) 64 64 Q
  refine am_icmp_ge dX10_lawful_12 (tgt := 41) rfl (fun hc2 => ?_) (fun hc2 => ?_)
  · have wp := wp.1 hc2
    refine am_iload_n rfl rfl dX10_lawful_41 ?_
    exact am_iret dX10_lawful_42 rfl rfl wp
  · have wp := wp.2 hc2
    refine am_aload_n rfl rfl dX10_lawful_15 ?_
    refine am_iload_n rfl rfl dX10_lawful_16 ?_
    refine am_invV (ci := 8) (As := [.int a2]) (lsZ := [some (.ref 48), some (.int a2), none, none, none, none, none, none]) (st := []) dX10_lawful_17 hX10_takeDraw lkX10_177 ⟨by decide, by decide⟩ (by decide) rfl (by decide) rfl rfl rfl (Nat.le_of_ble_eq_true rfl) rfl (Nat.le_of_ble_eq_true rfl) ⟨Nat.le_refl _, Nat.le_refl _⟩ (am_R.mono wp (fun r h' q => am_R.forget q ⟨rfl, ⟨rfl, ⟨rfl, trivial⟩⟩⟩))
theorem bX10_lawful_20 {E : Nat × (Nat → Int32)} {I : Nat → Nat → Int32} {J : Nat → Nat → Int64} {b : Bool} {a1 : Int32} {a2 : Int32} {Q : Option Value → am_H → Prop}  (wp : am_R E mX10_isLawful 0 [some (.ref 48), none, none] [] (hp I J b) 64 64 (fun r h' => am_R E mX10_lawful 25 [some (.ref 48), none, some (.int a2)] (r.toList ++ [.int a1]) h' 64 64 Q)) : am_R E mX10_lawful 20 [some (.ref 48), some (.int a1), some (.int a2)] [] (hp I J b) 64 64 Q := by
  refine am_iload_n rfl rfl dX10_lawful_20 ?_
  refine am_aload_n rfl rfl dX10_lawful_21 ?_
  refine am_invV (ci := 8) (As := []) (lsZ := [some (.ref 48), none, none]) (st := [.int a1]) dX10_lawful_22 hX10_isLawful lkX10_180 ⟨by decide, by decide⟩ (by decide) rfl (by decide) rfl rfl rfl (Nat.le_of_ble_eq_true rfl) rfl (Nat.le_of_ble_eq_true rfl) ⟨Nat.le_refl _, Nat.le_refl _⟩ (am_R.mono wp (fun r h' q => am_R.forget q ⟨rfl, ⟨rfl, trivial⟩⟩))
theorem bX10_lawful_25 {E : Nat × (Nat → Int32)} {I : Nat → Nat → Int32} {J : Nat → Nat → Int64} {b : Bool} {a2 : Int32} {x0 : Int32} {x1 : Int32} {Q : Option Value → am_H → Prop}  (wp : ((x0 = 0 → am_R E mX10_lawful 4 [some (.ref 48), some (.int (x1 + 0)), some (.int (a2 + 1))] [] (hp I J b) 64 64 Q) ∧ (¬ x0 = 0 → am_R E mX10_lawful 4 [some (.ref 48), some (.int (x1 + 1)), some (.int (a2 + 1))] [] (hp I J b) 64 64 Q))) : am_R E mX10_lawful 25 [some (.ref 48), none, some (.int a2)] [.int x0, .int x1] (hp I J b) 64 64 Q := by
  refine am_if_eq dX10_lawful_25 (tgt := 32) rfl (fun hc1 => ?_) (fun hc1 => ?_)
  · have wp := wp.1 hc1
    refine am_iconst 0 rfl dX10_lawful_32 ?_
    refine am_iadd dX10_lawful_33 ?_
    refine am_istore_n (ls' := [some (.ref 48), some (.int (x1 + 0)), some (.int a2)]) rfl (by decide) rfl rfl dX10_lawful_34 ?_
    refine am_iinc (ls' := [some (.ref 48), some (.int (x1 + 0)), some (.int (a2 + 1))]) (by decide) rfl rfl rfl dX10_lawful_35 ?_
    refine am_goto dX10_lawful_38 (tgt := 4) rfl ?_
    exact am_R.forget wp ⟨rfl, ⟨rfl, ⟨rfl, trivial⟩⟩⟩
  · have wp := wp.2 hc1
    refine am_iconst 1 rfl dX10_lawful_28 ?_
    refine am_goto dX10_lawful_29 (tgt := 33) rfl ?_
    refine am_iadd dX10_lawful_33 ?_
    refine am_istore_n (ls' := [some (.ref 48), some (.int (x1 + 1)), some (.int a2)]) rfl (by decide) rfl rfl dX10_lawful_34 ?_
    refine am_iinc (ls' := [some (.ref 48), some (.int (x1 + 1)), some (.int (a2 + 1))]) (by decide) rfl rfl rfl dX10_lawful_35 ?_
    refine am_goto dX10_lawful_38 (tgt := 4) rfl ?_
    exact am_R.forget wp ⟨rfl, ⟨rfl, ⟨rfl, trivial⟩⟩⟩
theorem tX10_lawful (hN : Nn I n) (hY : Yw I n) (k : ∀ I2, Am I I2 → Q (some (.int (nI (fb_ct (lc I n) (fct n))))) (hp I2 J b)) : am_R E mX10_lawful 0 [some (.ref 48), none, none] [] (hp I J b) 64 64 Q := by
  have n7 := hN.2.2
  have hfl := fct_le n (by omega)
  have loop : ∀ j c, c + j = fct n → ∀ I1, Am I I1 → am_R E mX10_lawful 4 [some (.ref 48), some (.int (nI (fb_ct (lc I n) c))), some (.int (nI c))] [] (hp I1 J b) 64 64 Q := by
    intro j
    induction j with
    | zero =>
      intro c hc I1 hA
      have e : c = fct n := by omega
      subst e
      exact bX10_lawful_4 ⟨n, (hA.Nn hN).1, by omega, le_br rfl rfl (by omega) (by omega) (fun _ => k I1 hA) (fun q => by omega)⟩
    | succ j ih =>
      intro c hc I1 hA
      refine bX10_lawful_4 ⟨n, (hA.Nn hN).1, by omega, le_br rfl rfl (by omega) (by omega) (fun q => by omega) (fun _ => ?_)⟩
      refine tX10_takeDraw (n := n) (hA.Nn hN) rfl (by omega) (fun f hf => bX10_lawful_20 ?_)
      have hA2 : Am I (u1 I1 58 f) := hA.u1
      refine tX10_isLawful (n := n) (p := ur n c) (hA2.Nn hN) (hA2.Yw hY) (by rw [u1_s]; exact hf) (fun q => bX10_lawful_25 (z01 rfl ?_)) (fun q => bX10_lawful_25 (z00 rfl ?_))
      · rw [hA2.my] at q
        have hl : lc I n c = true := decide_eq_true q
        have := ih (c + 1) (by omega) _ hA2
        rw [fb_ct_succ, hl] at this
        rw [n1, n1]; exact this
      · rw [hA2.my] at q
        have hl : lc I n c = false := decide_eq_false q
        have := ih (c + 1) (by omega) _ hA2
        rw [fb_ct_succ, hl] at this
        rw [n1, nz]; exact this
  exact bX10_lawful_0 (loop (fct n) 0 (by omega) I (Am.rf I))
theorem bX9_lawful_0 {E : Nat × (Nat → Int32)} {I : Nat → Nat → Int32} {J : Nat → Nat → Int64} {b : Bool}  {Q : Option Value → am_H → Prop}  (wp : am_R E mX9_tallyOf 0 [some (.ref 0), some (.int 0), none] [] (hp I J b) 64 64 (fun r h' => am_R E mX9_lawful 5 [none] (r.toList ++ []) h' 64 64 Q)) : am_R E mX9_lawful 0 [some (.ref 0)] [] (hp I J b) 64 64 Q := by
  refine am_aload_n rfl rfl dX9_lawful_0 ?_
  refine am_iconst 0 rfl dX9_lawful_1 ?_
  refine am_invV (ci := 7) (As := [.int 0]) (lsZ := [some (.ref 0), some (.int 0), none]) (st := []) dX9_lawful_2 hX9_tallyOf lkX9_214 ⟨by decide, by decide⟩ (by decide) rfl (by decide) rfl rfl rfl (Nat.le_of_ble_eq_true rfl) rfl (Nat.le_of_ble_eq_true rfl) ⟨Nat.le_refl _, Nat.le_refl _⟩ (am_R.mono wp (fun r h' q => am_R.forget q trivial))
theorem bX9_lawful_5 {E : Nat × (Nat → Int32)} {I : Nat → Nat → Int32} {J : Nat → Nat → Int64} {b : Bool}  {Q : Option Value → am_H → Prop}  (wp : Q (some (.int (I 27 4))) (hp I J b)) : am_R E mX9_lawful 5 [none] [.ref 27] (hp I J b) 64 64 Q := by
  refine am_getI dX9_lawful_5 flX9_218 (Or.inl rfl) rfl (by decide) ?_
  exact am_iret dX9_lawful_8 rfl rfl wp
theorem p_lawful (hI : Inv I n) : Pair E mX9_lawful mX10_lawful [some (.ref 0)] [some (.ref 48), none, none] I J b := by
  have hN := hI.1.1
  have hY : Yw I n := hI.1.2.2.2.2.2.2.1.2.2.1
  have hL := hI.1.2.2.2.1
  refine ⟨.int (nI (fb_ct (lc I n) (fct n))), fun I1 => Ag (tS 27 28 29) I I1 ∧ I1 27 1 = nI 0 ∧ I1 27 3 = 1 ∧ Tl I n 0 (I1 27) (I1 29), fun Q h => bX9_lawful_0 (tX9_tallyOf0 hI rfl (fun I1 a1 a2 a3 a4 => bX9_lawful_5 ?_)), fun I1 J1 b1 e Q h => ?_⟩
  · rw [a4.1]; exact h I1 J b ⟨a1, a2, a3, a4⟩
  · obtain ⟨a1, a2, a3, a4⟩ := e
    obtain ⟨q1, q2, q3, q4, q5, -, -⟩ := a1.m (n := n) (Or.inl ⟨rfl, rfl, rfl⟩) hN hY hL
    refine tX10_lawful (n := n) q1 q2 (fun I2 hm => ?_)
    rw [q4]
    exact h I2 J1 b1 n (Inv.t0 hI a1 a2 a3 a4 hm)
/-- a part of a fraction in lowest terms -/
def mval (part : Int32) (S M : Nat) : Int32 := if M = 0 then -4 else if part = 0 then nI (S / Nat.gcd S M) else nI (M / Nat.gcd S M)
theorem bX10_mean_0 {E : Nat × (Nat → Int32)} {I : Nat → Nat → Int32} {J : Nat → Nat → Int64} {b : Bool} {a1 : Int32} {a2 : Int32} {a3 : Int32} {Q : Option Value → am_H → Prop}  (wp : (((a1 = 0 ∨ a1 = 2 ∨ a1 = 3) → (((0 ≤ a2 ∧ a2 ≤ 1) → (((0 ≤ a3 ∧ a3 ≤ 1) → am_R E mX10_mean 37 [some (.ref 48), some (.int a1), some (.int a2), some (.int a3), some (.int 0), some (.int 0), some (.int 0)] [] (hp I J b) 64 64 Q) ∧ (¬ (0 ≤ a3 ∧ a3 ≤ 1) → Q (some (.int (-3))) (hp I J b)))) ∧ (¬ (0 ≤ a2 ∧ a2 ≤ 1) → Q (some (.int (-3))) (hp I J b)))) ∧ (¬ (a1 = 0 ∨ a1 = 2 ∨ a1 = 3) → Q (some (.int (-3))) (hp I J b)))) : am_R E mX10_mean 0 [some (.ref 48), some (.int a1), some (.int a2), some (.int a3), none, none, none] [] (hp I J b) 64 64 Q := by
  refine am_iload_n rfl rfl dX10_mean_0 ?_
  refine am_invS (As := [.int a1]) (lsZ := [some (.int a1)]) (st := []) dX10_mean_1 hX10_isRingNumber lkX10_230 ⟨by decide, by decide⟩ rfl rfl (Nat.le_of_ble_eq_true rfl) rfl (Nat.le_of_ble_eq_true rfl) ⟨Nat.le_refl _, Nat.le_refl _⟩ (tX10_isRingNumber  (fun hc1 => ?_) (fun hc1 => ?_))
  · have wp := wp.1 hc1
    show am_R E mX10_mean 4 [some (.ref 48), some (.int a1), some (.int a2), some (.int a3), none, none, none] [.int 1] (hp I J b) 64 64 Q
    refine am_if_eq dX10_mean_4 (tgt := 25) rfl (fun hc => absurd hc (by decide)) (fun _ => ?_)
    refine am_iload_n rfl rfl dX10_mean_7 ?_
    refine am_iconst 0 rfl dX10_mean_8 ?_
    refine am_iconst 1 rfl dX10_mean_9 ?_
    refine am_invS (As := [.int a2, .int 0, .int 1]) (lsZ := [some (.int a2), some (.int 0), some (.int 1)]) (st := []) dX10_mean_10 hX10_in lkX10_69 ⟨by decide, by decide⟩ rfl rfl (Nat.le_of_ble_eq_true rfl) rfl (Nat.le_of_ble_eq_true rfl) ⟨Nat.le_refl _, Nat.le_refl _⟩ (tX10_in  (fun hc2 => ?_) (fun hc2 => ?_))
    · have wp := wp.1 hc2
      show am_R E mX10_mean 13 [some (.ref 48), some (.int a1), some (.int a2), some (.int a3), none, none, none] [.int 1] (hp I J b) 64 64 Q
      refine am_if_eq dX10_mean_13 (tgt := 25) rfl (fun hc => absurd hc (by decide)) (fun _ => ?_)
      refine am_iload_n rfl rfl dX10_mean_16 ?_
      refine am_iconst 0 rfl dX10_mean_17 ?_
      refine am_iconst 1 rfl dX10_mean_18 ?_
      refine am_invS (As := [.int a3, .int 0, .int 1]) (lsZ := [some (.int a3), some (.int 0), some (.int 1)]) (st := []) dX10_mean_19 hX10_in lkX10_69 ⟨by decide, by decide⟩ rfl rfl (Nat.le_of_ble_eq_true rfl) rfl (Nat.le_of_ble_eq_true rfl) ⟨Nat.le_refl _, Nat.le_refl _⟩ (tX10_in  (fun hc3 => ?_) (fun hc3 => ?_))
      · have wp := wp.1 hc3
        show am_R E mX10_mean 22 [some (.ref 48), some (.int a1), some (.int a2), some (.int a3), none, none, none] [.int 1] (hp I J b) 64 64 Q
        refine am_if_ne dX10_mean_22 (tgt := 28) rfl (fun _ => ?_) (fun hc => absurd hc (by decide))
        refine am_iconst 0 rfl dX10_mean_28 ?_
        refine am_istore (ls' := [some (.ref 48), some (.int a1), some (.int a2), some (.int a3), some (.int 0), none, none]) (by decide) rfl rfl dX10_mean_29 ?_
        refine am_iconst 0 rfl dX10_mean_31 ?_
        refine am_istore (ls' := [some (.ref 48), some (.int a1), some (.int a2), some (.int a3), some (.int 0), some (.int 0), none]) (by decide) rfl rfl dX10_mean_32 ?_
        refine am_iconst 0 rfl dX10_mean_34 ?_
        refine am_istore (ls' := [some (.ref 48), some (.int a1), some (.int a2), some (.int a3), some (.int 0), some (.int 0), some (.int 0)]) (by decide) rfl rfl dX10_mean_35 ?_
        exact am_R.forget wp ⟨rfl, ⟨rfl, ⟨rfl, ⟨rfl, ⟨rfl, ⟨rfl, ⟨rfl, trivial⟩⟩⟩⟩⟩⟩⟩
      · have wp := wp.2 hc3
        show am_R E mX10_mean 22 [some (.ref 48), some (.int a1), some (.int a2), some (.int a3), none, none, none] [.int 0] (hp I J b) 64 64 Q
        refine am_if_ne dX10_mean_22 (tgt := 28) rfl (fun hc => absurd hc (by decide)) (fun _ => ?_)
        refine am_bipush (-3) rfl dX10_mean_25 ?_
        exact am_iret dX10_mean_27 rfl rfl wp
    · have wp := wp.2 hc2
      show am_R E mX10_mean 13 [some (.ref 48), some (.int a1), some (.int a2), some (.int a3), none, none, none] [.int 0] (hp I J b) 64 64 Q
      refine am_if_eq dX10_mean_13 (tgt := 25) rfl (fun _ => ?_) (fun hc => absurd hc (by decide))
      refine am_bipush (-3) rfl dX10_mean_25 ?_
      exact am_iret dX10_mean_27 rfl rfl wp
  · have wp := wp.2 hc1
    show am_R E mX10_mean 4 [some (.ref 48), some (.int a1), some (.int a2), some (.int a3), none, none, none] [.int 0] (hp I J b) 64 64 Q
    refine am_if_eq dX10_mean_4 (tgt := 25) rfl (fun _ => ?_) (fun hc => absurd hc (by decide))
    refine am_bipush (-3) rfl dX10_mean_25 ?_
    exact am_iret dX10_mean_27 rfl rfl wp
theorem bX10_mean_37 {E : Nat × (Nat → Int32)} {I : Nat → Nat → Int32} {J : Nat → Nat → Int64} {b : Bool} {a1 : Int32} {a2 : Int32} {a3 : Int32} {a4 : Int32} {a5 : Int32} {a6 : Int32} {Q : Option Value → am_H → Prop}  (wp : ∃ j1, (I 48 0) = nI j1 ∧ j1 < 8 ∧ (((nI (fct j1)) ≤ a6 → ((¬ a5 = 0 → ((¬ a3 = 0 → am_R E mX10_divisor 0 [some (.int a4), some (.int a5), none, none, none] [] (hp I J b) 64 64 (fun r h' => am_R E mX10_mean 125 [none, none, none, none, none, none, none] (r.toList ++ [.int a5]) h' 64 64 Q)) ∧ (a3 = 0 → am_R E mX10_divisor 0 [some (.int a4), some (.int a5), none, none, none] [] (hp I J b) 64 64 (fun r h' => am_R E mX10_mean 125 [none, none, none, none, none, none, none] (r.toList ++ [.int a4]) h' 64 64 Q)))) ∧ (a5 = 0 → Q (some (.int (-4))) (hp I J b)))) ∧ (¬ (nI (fct j1)) ≤ a6 → am_R E mX10_takeDraw 0 [some (.ref 48), some (.int a6), none, none, none, none, none, none] [] (hp I J b) 64 64 (fun r h' => am_R E mX10_mean 55 [some (.ref 48), some (.int a1), some (.int a2), some (.int a3), some (.int a4), some (.int a5), some (.int a6)] (r.toList ++ []) h' 64 64 Q)))) : am_R E mX10_mean 37 [some (.ref 48), some (.int a1), some (.int a2), some (.int a3), some (.int a4), some (.int a5), some (.int a6)] [] (hp I J b) 64 64 Q := by
  refine am_iload rfl dX10_mean_37 ?_
  refine am_aload_n rfl rfl dX10_mean_39 ?_
  refine am_getI dX10_mean_40 flX10_7 (Or.inl rfl) rfl (by decide) ?_
  obtain ⟨j1, e1, w1, wp⟩ := wp
  refine am_invS (As := [.int (I 48 0)]) (lsZ := [some (.int (I 48 0)), none, none]) (st := [.int a6]) dX10_mean_43 hX10_draws lkX10_173 ⟨by decide, by decide⟩ rfl rfl (Nat.le_of_ble_eq_true rfl) rfl (Nat.le_of_ble_eq_true rfl) ⟨Nat.le_refl _, Nat.le_refl _⟩ (tX10_draws (n := j1) e1 (Nat.le_of_lt_succ w1) ?_)
  show am_R E mX10_mean 46 [some (.ref 48), some (.int a1), some (.int a2), some (.int a3), some (.int a4), some (.int a5), some (.int a6)] [.int (nI (fct j1)), .int a6] (hp I J b) 64 64 Q
  refine am_icmp_ge dX10_mean_46 (tgt := 97) rfl (fun hc2 => ?_) (fun hc2 => ?_)
  · have wp := wp.1 hc2
    refine am_iload rfl dX10_mean_97 ?_
    refine am_if_ne dX10_mean_99 (tgt := 107) rfl (fun hc3 => ?_) (fun hc3 => ?_)
    · have wp := wp.1 hc3
      refine am_iload_n rfl rfl dX10_mean_107 ?_
      refine am_if_ne dX10_mean_108 (tgt := 116) rfl (fun hc4 => ?_) (fun hc4 => ?_)
      · have wp := wp.1 hc4
        refine am_iload rfl dX10_mean_116 ?_
        refine am_iload rfl dX10_mean_118 ?_
        refine am_iload rfl dX10_mean_120 ?_
        refine am_invS (As := [.int a4, .int a5]) (lsZ := [some (.int a4), some (.int a5), none, none, none]) (st := [.int a5]) dX10_mean_122 hX10_divisor lkX10_233 ⟨by decide, by decide⟩ rfl rfl (Nat.le_of_ble_eq_true rfl) rfl (Nat.le_of_ble_eq_true rfl) ⟨Nat.le_refl _, Nat.le_refl _⟩ (am_R.mono wp (fun r h' q => am_R.forget q trivial))
      · have wp := wp.2 hc4
        refine am_iload rfl dX10_mean_111 ?_
        refine am_goto dX10_mean_113 (tgt := 118) rfl ?_
        refine am_iload rfl dX10_mean_118 ?_
        refine am_iload rfl dX10_mean_120 ?_
        refine am_invS (As := [.int a4, .int a5]) (lsZ := [some (.int a4), some (.int a5), none, none, none]) (st := [.int a4]) dX10_mean_122 hX10_divisor lkX10_233 ⟨by decide, by decide⟩ rfl rfl (Nat.le_of_ble_eq_true rfl) rfl (Nat.le_of_ble_eq_true rfl) ⟨Nat.le_refl _, Nat.le_refl _⟩ (am_R.mono wp (fun r h' q => am_R.forget q trivial))
    · have wp := wp.2 hc3
      refine am_bipush (-4) rfl dX10_mean_102 ?_
      refine am_goto dX10_mean_104 (tgt := 126) rfl ?_
      exact am_iret dX10_mean_126 rfl rfl wp
  · have wp := wp.2 hc2
    refine am_aload_n rfl rfl dX10_mean_49 ?_
    refine am_iload rfl dX10_mean_50 ?_
    refine am_invV (ci := 8) (As := [.int a6]) (lsZ := [some (.ref 48), some (.int a6), none, none, none, none, none, none]) (st := []) dX10_mean_52 hX10_takeDraw lkX10_177 ⟨by decide, by decide⟩ (by decide) rfl (by decide) rfl rfl rfl (Nat.le_of_ble_eq_true rfl) rfl (Nat.le_of_ble_eq_true rfl) ⟨Nat.le_refl _, Nat.le_refl _⟩ (am_R.mono wp (fun r h' q => am_R.forget q ⟨rfl, ⟨rfl, ⟨rfl, ⟨rfl, ⟨rfl, ⟨rfl, ⟨rfl, trivial⟩⟩⟩⟩⟩⟩⟩))
theorem bX10_mean_55 {E : Nat × (Nat → Int32)} {I : Nat → Nat → Int32} {J : Nat → Nat → Int64} {b : Bool} {a1 : Int32} {a2 : Int32} {a3 : Int32} {a4 : Int32} {a5 : Int32} {a6 : Int32} {Q : Option Value → am_H → Prop}  (wp : am_R E mX10_isLawful 0 [some (.ref 48), none, none] [] (hp I J b) 64 64 (fun r h' => am_R E mX10_mean 59 [some (.ref 48), some (.int a1), some (.int a2), some (.int a3), some (.int a4), some (.int a5), some (.int a6)] (r.toList ++ []) h' 64 64 Q)) : am_R E mX10_mean 55 [some (.ref 48), some (.int a1), some (.int a2), some (.int a3), some (.int a4), some (.int a5), some (.int a6)] [] (hp I J b) 64 64 Q := by
  refine am_aload_n rfl rfl dX10_mean_55 ?_
  refine am_invV (ci := 8) (As := []) (lsZ := [some (.ref 48), none, none]) (st := []) dX10_mean_56 hX10_isLawful lkX10_180 ⟨by decide, by decide⟩ (by decide) rfl (by decide) rfl rfl rfl (Nat.le_of_ble_eq_true rfl) rfl (Nat.le_of_ble_eq_true rfl) ⟨Nat.le_refl _, Nat.le_refl _⟩ (am_R.mono wp (fun r h' q => am_R.forget q ⟨rfl, ⟨rfl, ⟨rfl, ⟨rfl, ⟨rfl, ⟨rfl, ⟨rfl, trivial⟩⟩⟩⟩⟩⟩⟩))
theorem bX10_mean_59 {E : Nat × (Nat → Int32)} {I : Nat → Nat → Int32} {J : Nat → Nat → Int64} {b : Bool} {a1 : Int32} {a2 : Int32} {a3 : Int32} {a4 : Int32} {a5 : Int32} {a6 : Int32} {x0 : Int32} {Q : Option Value → am_H → Prop}  (wp : ((x0 = 0 → am_R E mX10_mean 37 [some (.ref 48), some (.int a1), some (.int a2), some (.int a3), some (.int a4), some (.int a5), some (.int (a6 + 1))] [] (hp I J b) 64 64 Q) ∧ (¬ x0 = 0 → am_R E mX10_settleBy 0 [some (.ref 48), some (.int a1), none, none] [] (hp I J b) 64 64 (fun r h' => am_R E mX10_mean 67 [some (.ref 48), some (.int a1), some (.int a2), some (.int a3), some (.int a4), some (.int a5), some (.int a6)] (r.toList ++ []) h' 64 64 Q)))) : am_R E mX10_mean 59 [some (.ref 48), some (.int a1), some (.int a2), some (.int a3), some (.int a4), some (.int a5), some (.int a6)] [.int x0] (hp I J b) 64 64 Q := by
  refine am_if_eq dX10_mean_59 (tgt := 91) rfl (fun hc1 => ?_) (fun hc1 => ?_)
  · have wp := wp.1 hc1
    refine am_iinc (ls' := [some (.ref 48), some (.int a1), some (.int a2), some (.int a3), some (.int a4), some (.int a5), some (.int (a6 + 1))]) (by decide) rfl rfl rfl dX10_mean_91 ?_
    refine am_goto dX10_mean_94 (tgt := 37) rfl ?_
    exact am_R.forget wp ⟨rfl, ⟨rfl, ⟨rfl, ⟨rfl, ⟨rfl, ⟨rfl, ⟨rfl, trivial⟩⟩⟩⟩⟩⟩⟩
  · have wp := wp.2 hc1
    refine am_aload_n rfl rfl dX10_mean_62 ?_
    refine am_iload_n rfl rfl dX10_mean_63 ?_
    refine am_invV (ci := 8) (As := [.int a1]) (lsZ := [some (.ref 48), some (.int a1), none, none]) (st := []) dX10_mean_64 hX10_settleBy lkX10_221 ⟨by decide, by decide⟩ (by decide) rfl (by decide) rfl rfl rfl (Nat.le_of_ble_eq_true rfl) rfl (Nat.le_of_ble_eq_true rfl) ⟨Nat.le_refl _, Nat.le_refl _⟩ (am_R.mono wp (fun r h' q => am_R.forget q ⟨rfl, ⟨rfl, ⟨rfl, ⟨rfl, ⟨rfl, ⟨rfl, ⟨rfl, trivial⟩⟩⟩⟩⟩⟩⟩))
theorem bX10_mean_67 {E : Nat × (Nat → Int32)} {I : Nat → Nat → Int32} {J : Nat → Nat → Int64} {b : Bool} {a1 : Int32} {a2 : Int32} {a3 : Int32} {a4 : Int32} {a5 : Int32} {a6 : Int32} {x0 : Int32} {Q : Option Value → am_H → Prop}  (wp : ((¬ a2 = 0 → am_R E mX10_gladnessOf 0 [some (.ref 48), none, none] [] (hp I J b) 64 64 (fun r h' => am_R E mX10_mean 85 [some (.ref 48), some (.int a1), some (.int a2), some (.int a3), none, some (.int a5), some (.int a6)] (r.toList ++ [.int a4]) h' 64 64 Q)) ∧ (a2 = 0 → am_R E mX10_workOf 0 [some (.ref 48), none, none] [] (hp I J b) 64 64 (fun r h' => am_R E mX10_mean 78 [some (.ref 48), some (.int a1), some (.int a2), some (.int a3), none, some (.int a5), some (.int a6)] (r.toList ++ [.int a4]) h' 64 64 Q)))) : am_R E mX10_mean 67 [some (.ref 48), some (.int a1), some (.int a2), some (.int a3), some (.int a4), some (.int a5), some (.int a6)] [.int x0] (hp I J b) 64 64 Q := by
  refine am_pop rfl dX10_mean_67 ?_
  refine am_iload rfl dX10_mean_68 ?_
  refine am_iload_n rfl rfl dX10_mean_70 ?_
  refine am_if_ne dX10_mean_71 (tgt := 81) rfl (fun hc1 => ?_) (fun hc1 => ?_)
  · have wp := wp.1 hc1
    refine am_aload_n rfl rfl dX10_mean_81 ?_
    refine am_invV (ci := 8) (As := []) (lsZ := [some (.ref 48), none, none]) (st := [.int a4]) dX10_mean_82 hX10_gladnessOf lkX10_200 ⟨by decide, by decide⟩ (by decide) rfl (by decide) rfl rfl rfl (Nat.le_of_ble_eq_true rfl) rfl (Nat.le_of_ble_eq_true rfl) ⟨Nat.le_refl _, Nat.le_refl _⟩ (am_R.mono wp (fun r h' q => am_R.forget q ⟨rfl, ⟨rfl, ⟨rfl, ⟨rfl, ⟨rfl, ⟨rfl, trivial⟩⟩⟩⟩⟩⟩))
  · have wp := wp.2 hc1
    refine am_aload_n rfl rfl dX10_mean_74 ?_
    refine am_invV (ci := 8) (As := []) (lsZ := [some (.ref 48), none, none]) (st := [.int a4]) dX10_mean_75 hX10_workOf lkX10_227 ⟨by decide, by decide⟩ (by decide) rfl (by decide) rfl rfl rfl (Nat.le_of_ble_eq_true rfl) rfl (Nat.le_of_ble_eq_true rfl) ⟨Nat.le_refl _, Nat.le_refl _⟩ (am_R.mono wp (fun r h' q => am_R.forget q ⟨rfl, ⟨rfl, ⟨rfl, ⟨rfl, ⟨rfl, ⟨rfl, trivial⟩⟩⟩⟩⟩⟩))
theorem bX10_mean_78 {E : Nat × (Nat → Int32)} {I : Nat → Nat → Int32} {J : Nat → Nat → Int64} {b : Bool} {a1 : Int32} {a2 : Int32} {a3 : Int32} {a5 : Int32} {a6 : Int32} {x0 : Int32} {x1 : Int32} {Q : Option Value → am_H → Prop}  (wp : am_R E mX10_mean 37 [some (.ref 48), some (.int a1), some (.int a2), some (.int a3), some (.int (x1 + x0)), some (.int (a5 + 1)), some (.int (a6 + 1))] [] (hp I J b) 64 64 Q) : am_R E mX10_mean 78 [some (.ref 48), some (.int a1), some (.int a2), some (.int a3), none, some (.int a5), some (.int a6)] [.int x0, .int x1] (hp I J b) 64 64 Q := by
  refine am_goto dX10_mean_78 (tgt := 85) rfl ?_
  refine am_iadd dX10_mean_85 ?_
  refine am_istore (ls' := [some (.ref 48), some (.int a1), some (.int a2), some (.int a3), some (.int (x1 + x0)), some (.int a5), some (.int a6)]) (by decide) rfl rfl dX10_mean_86 ?_
  refine am_iinc (ls' := [some (.ref 48), some (.int a1), some (.int a2), some (.int a3), some (.int (x1 + x0)), some (.int (a5 + 1)), some (.int a6)]) (by decide) rfl rfl rfl dX10_mean_88 ?_
  refine am_iinc (ls' := [some (.ref 48), some (.int a1), some (.int a2), some (.int a3), some (.int (x1 + x0)), some (.int (a5 + 1)), some (.int (a6 + 1))]) (by decide) rfl rfl rfl dX10_mean_91 ?_
  refine am_goto dX10_mean_94 (tgt := 37) rfl ?_
  exact am_R.forget wp ⟨rfl, ⟨rfl, ⟨rfl, ⟨rfl, ⟨rfl, ⟨rfl, ⟨rfl, trivial⟩⟩⟩⟩⟩⟩⟩
theorem bX10_mean_85 {E : Nat × (Nat → Int32)} {I : Nat → Nat → Int32} {J : Nat → Nat → Int64} {b : Bool} {a1 : Int32} {a2 : Int32} {a3 : Int32} {a5 : Int32} {a6 : Int32} {x0 : Int32} {x1 : Int32} {Q : Option Value → am_H → Prop}  (wp : am_R E mX10_mean 37 [some (.ref 48), some (.int a1), some (.int a2), some (.int a3), some (.int (x1 + x0)), some (.int (a5 + 1)), some (.int (a6 + 1))] [] (hp I J b) 64 64 Q) : am_R E mX10_mean 85 [some (.ref 48), some (.int a1), some (.int a2), some (.int a3), none, some (.int a5), some (.int a6)] [.int x0, .int x1] (hp I J b) 64 64 Q := by
  refine am_iadd dX10_mean_85 ?_
  refine am_istore (ls' := [some (.ref 48), some (.int a1), some (.int a2), some (.int a3), some (.int (x1 + x0)), some (.int a5), some (.int a6)]) (by decide) rfl rfl dX10_mean_86 ?_
  refine am_iinc (ls' := [some (.ref 48), some (.int a1), some (.int a2), some (.int a3), some (.int (x1 + x0)), some (.int (a5 + 1)), some (.int a6)]) (by decide) rfl rfl rfl dX10_mean_88 ?_
  refine am_iinc (ls' := [some (.ref 48), some (.int a1), some (.int a2), some (.int a3), some (.int (x1 + x0)), some (.int (a5 + 1)), some (.int (a6 + 1))]) (by decide) rfl rfl rfl dX10_mean_91 ?_
  refine am_goto dX10_mean_94 (tgt := 37) rfl ?_
  exact am_R.forget wp ⟨rfl, ⟨rfl, ⟨rfl, ⟨rfl, ⟨rfl, ⟨rfl, ⟨rfl, trivial⟩⟩⟩⟩⟩⟩⟩
theorem bX10_mean_125 {E : Nat × (Nat → Int32)} {I : Nat → Nat → Int32} {J : Nat → Nat → Int64} {b : Bool} {x0 : Int32} {x1 : Int32} {Q : Option Value → am_H → Prop}  (wp : ¬ x0 = 0 ∧ Q (some (.int (x1 / x0))) (hp I J b)) : am_R E mX10_mean 125 [none, none, none, none, none, none, none] [.int x0, .int x1] (hp I J b) 64 64 Q := by
  obtain ⟨w1, wp⟩ := wp
  refine am_idiv w1 dX10_mean_125 ?_
  exact am_iret dX10_mean_126 rfl rfl wp
theorem tX10_mean37 {by' S : Nat} {a1 a2 a3 : Int32} (hN : Nn I n) (hY : Yw I n) (hL : Lk I) (hb : by' ≤ 3) (eb : a1 = nI by') (hS : S < 2 ^ 31) (eS : sI (lc I n) (fun c => if a2 = 0 then sm (fun m => I 49 (7 * m + sr I n by' c m)) n else sm (fun m => I 50 (7 * m + sr I n by' c m)) n) (fct n) = nI S) (k : ∀ I2, Am I I2 → Q (some (.int (mval a3 S (fb_ct (lc I n) (fct n))))) (hp I2 J b)) : am_R E mX10_mean 37 [some (.ref 48), some (.int a1), some (.int a2), some (.int a3), some (.int 0), some (.int 0), some (.int 0)] [] (hp I J b) 64 64 Q := by
  subst eb
  have n7 := hN.2.2
  have hfl := fct_le n (by omega)
  have hM := fb_ct_le (lc I n) (fct n)
  have loop : ∀ j c, c + j = fct n → ∀ I1, Am I I1 → am_R E mX10_mean 37 [some (.ref 48), some (.int (nI by')), some (.int a2), some (.int a3), some (.int (sI (lc I n) (fun c => if a2 = 0 then sm (fun m => I 49 (7 * m + sr I n by' c m)) n else sm (fun m => I 50 (7 * m + sr I n by' c m)) n) c)), some (.int (nI (fb_ct (lc I n) c))), some (.int (nI c))] [] (hp I1 J b) 64 64 Q := by
    intro j
    induction j with
    | zero =>
      intro c hc I1 hA
      have e : c = fct n := by omega
      subst e
      have kk := k I1 hA
      unfold mval at kk
      rw [eS]
      refine bX10_mean_37 ⟨n, (hA.Nn hN).1, by omega, le_br rfl rfl (by omega) (by omega) (fun _ => ?_) (fun q => by omega)⟩
      refine ne_br (m := 0) rfl rfl (by omega) (by omega) (fun q => by rw [if_pos q] at kk; exact kk) (fun q => ?_)
      rw [if_neg q] at kk
      have hg : 0 < Nat.gcd S (fb_ct (lc I n) (fct n)) := Nat.gcd_pos_of_pos_right _ (by omega)
      have hg2 := Nat.gcd_le_right (n := fb_ct (lc I n) (fct n)) S (by omega)
      refine ⟨fun z => ?_, fun z => ?_⟩
      · rw [if_neg z] at kk
        refine tX10_divisor rfl rfl hS (by omega) (bX10_mean_125 ⟨nI_ne0 hg (by omega), ?_⟩)
        rw [pk_div (by omega) hg (by omega)]; exact kk
      · rw [if_pos z] at kk
        refine tX10_divisor rfl rfl hS (by omega) (bX10_mean_125 ⟨nI_ne0 hg (by omega), ?_⟩)
        rw [pk_div hS hg (by omega)]; exact kk
    | succ j ih =>
      intro c hc I1 hA
      refine bX10_mean_37 ⟨n, (hA.Nn hN).1, by omega, le_br rfl rfl (by omega) (by omega) (fun q => by omega) (fun _ => ?_)⟩
      refine tX10_takeDraw (n := n) (hA.Nn hN) rfl (by omega) (fun f hf => bX10_mean_55 ?_)
      have hA2 : Am I (u1 I1 58 f) := hA.u1
      refine tX10_isLawful (n := n) (p := ur n c) (hA2.Nn hN) (hA2.Yw hY) (by rw [u1_s]; exact hf) (fun q => bX10_mean_59 (z01 rfl ?_)) (fun q => bX10_mean_59 (z00 rfl ?_))
      · rw [hA2.my] at q
        have hl : lc I n c = true := decide_eq_true q
        refine tX10_settleBy (n := n) (by' := by') (p := ur n c) (hA2.Nn hN) (hA2.Yw hY) (hA2.Lk hL) (by rw [u1_s]; exact hf) rfl hb (fun f2 x y z hf2 => bX10_mean_67 ?_)
        rw [hA2.stR] at hf2
        rw [u1_u1]
        have hA3 : Am I (rg (u1 I1 58 f2) x y z) := (hA.u1).rg
        have h58 : Rw (rg (u1 I1 58 f2) x y z 58) (sr I n by' c) n := by
          rw [show rg (u1 I1 58 f2) x y z 58 = f2 from rfl]; exact hf2
        have nxt := ih (c + 1) (by omega) _ hA3
        rw [fb_ct_succ, sI, hl] at nxt
        refine ⟨fun w => ?_, fun w => ?_⟩
        · refine tX10_gladnessOf (n := n) (p := sr I n by' c) (hA3.Nn hN) h58 (bX10_mean_85 ?_)
          rw [hA3.1 50 (by decide) (by decide), n1, n1]
          simp only [if_neg w] at nxt ⊢
          exact nxt
        · refine tX10_workOf (n := n) (p := sr I n by' c) (hA3.Nn hN) h58 (bX10_mean_78 ?_)
          rw [hA3.1 49 (by decide) (by decide), n1, n1]
          simp only [if_pos w] at nxt ⊢
          exact nxt
      · rw [hA2.my] at q
        have hl : lc I n c = false := decide_eq_false q
        have nxt := ih (c + 1) (by omega) _ hA2
        rw [fb_ct_succ, sI, hl] at nxt
        rw [n1]; exact nxt
  exact loop (fct n) 0 (by omega) I (Am.rf I)
theorem in_01i {a : Int32} : (0 ≤ a ∧ a ≤ 1) ↔ (a = 0 ∨ a = 1) := ⟨in_01, fun h => by rcases h with rfl | rfl <;> decide⟩
theorem bX9_meanA_0 {E : Nat × (Nat → Int32)} {I : Nat → Nat → Int32} {J : Nat → Nat → Int64} {b : Bool} {a1 : Int32} {a2 : Int32} {a3 : Int32} {Q : Option Value → am_H → Prop}  (wp : (((a1 = 0 ∨ a1 = 2 ∨ a1 = 3) → ((a2 < 0 → Q (some (.int (-3))) (hp I J b)) ∧ (¬ a2 < 0 → ((1 < a2 → Q (some (.int (-3))) (hp I J b)) ∧ (¬ 1 < a2 → (((a3 = 0 ∨ a3 = 1) → am_R E mX9_tallyOf 0 [some (.ref 0), some (.int a1), none] [] (hp I J b) 64 64 (fun r h' => am_R E mX9_mean 31 [none, none, some (.int a2), some (.int a3), none] (r.toList ++ []) h' 64 64 Q)) ∧ (¬ (a3 = 0 ∨ a3 = 1) → Q (some (.int (-3))) (hp I J b)))))))) ∧ (¬ (a1 = 0 ∨ a1 = 2 ∨ a1 = 3) → Q (some (.int (-3))) (hp I J b)))) : am_R E mX9_mean 0 [some (.ref 0), some (.int a1), some (.int a2), some (.int a3), none] [] (hp I J b) 64 64 Q := by
  refine am_iload_n rfl rfl dX9_mean_0 ?_
  refine am_invS (As := [.int a1]) (lsZ := [some (.int a1)]) (st := []) dX9_mean_1 hX9_isRing lkX9_221 ⟨by decide, by decide⟩ rfl rfl (Nat.le_of_ble_eq_true rfl) rfl (Nat.le_of_ble_eq_true rfl) ⟨Nat.le_refl _, Nat.le_refl _⟩ (tX9_isRing  (fun hc1 => ?_) (fun hc1 => ?_))
  · have wp := wp.1 hc1
    show am_R E mX9_mean 4 [some (.ref 0), some (.int a1), some (.int a2), some (.int a3), none] [.int 1] (hp I J b) 64 64 Q
    refine am_if_eq dX9_mean_4 (tgt := 23) rfl (fun hc => absurd hc (by decide)) (fun _ => ?_)
    refine am_iload_n rfl rfl dX9_mean_7 ?_
    refine am_if_lt dX9_mean_8 (tgt := 23) rfl (fun hc2 => ?_) (fun hc2 => ?_)
    · have wp := wp.1 hc2
      refine am_bipush (-3) rfl dX9_mean_23 ?_
      exact am_iret dX9_mean_25 rfl rfl wp
    · have wp := wp.2 hc2
      refine am_iload_n rfl rfl dX9_mean_11 ?_
      refine am_iconst 1 rfl dX9_mean_12 ?_
      refine am_icmp_gt dX9_mean_13 (tgt := 23) rfl (fun hc3 => ?_) (fun hc3 => ?_)
      · have wp := wp.1 hc3
        refine am_bipush (-3) rfl dX9_mean_23 ?_
        exact am_iret dX9_mean_25 rfl rfl wp
      · have wp := wp.2 hc3
        refine am_iload_n rfl rfl dX9_mean_16 ?_
        refine am_invS (As := [.int a3]) (lsZ := [some (.int a3)]) (st := []) dX9_mean_17 hX9_isPart lkX9_224 ⟨by decide, by decide⟩ rfl rfl (Nat.le_of_ble_eq_true rfl) rfl (Nat.le_of_ble_eq_true rfl) ⟨Nat.le_refl _, Nat.le_refl _⟩ (tX9_isPart  (fun hc4 => ?_) (fun hc4 => ?_))
        · have wp := wp.1 hc4
          show am_R E mX9_mean 20 [some (.ref 0), some (.int a1), some (.int a2), some (.int a3), none] [.int 1] (hp I J b) 64 64 Q
          refine am_if_ne dX9_mean_20 (tgt := 26) rfl (fun _ => ?_) (fun hc => absurd hc (by decide))
          refine am_aload_n rfl rfl dX9_mean_26 ?_
          refine am_iload_n rfl rfl dX9_mean_27 ?_
          refine am_invV (ci := 7) (As := [.int a1]) (lsZ := [some (.ref 0), some (.int a1), none]) (st := []) dX9_mean_28 hX9_tallyOf lkX9_214 ⟨by decide, by decide⟩ (by decide) rfl (by decide) rfl rfl rfl (Nat.le_of_ble_eq_true rfl) rfl (Nat.le_of_ble_eq_true rfl) ⟨Nat.le_refl _, Nat.le_refl _⟩ (am_R.mono wp (fun r h' q => am_R.forget q ⟨rfl, ⟨rfl, trivial⟩⟩))
        · have wp := wp.2 hc4
          show am_R E mX9_mean 20 [some (.ref 0), some (.int a1), some (.int a2), some (.int a3), none] [.int 0] (hp I J b) 64 64 Q
          refine am_if_ne dX9_mean_20 (tgt := 26) rfl (fun hc => absurd hc (by decide)) (fun _ => ?_)
          refine am_bipush (-3) rfl dX9_mean_23 ?_
          exact am_iret dX9_mean_25 rfl rfl wp
  · have wp := wp.2 hc1
    show am_R E mX9_mean 4 [some (.ref 0), some (.int a1), some (.int a2), some (.int a3), none] [.int 0] (hp I J b) 64 64 Q
    refine am_if_eq dX9_mean_4 (tgt := 23) rfl (fun _ => ?_) (fun hc => absurd hc (by decide))
    refine am_bipush (-3) rfl dX9_mean_23 ?_
    exact am_iret dX9_mean_25 rfl rfl wp
theorem bX9_meanA_31 {E : Nat × (Nat → Int32)} {I : Nat → Nat → Int32} {J : Nat → Nat → Int64} {b : Bool} {a2 : Int32} {a3 : Int32} {Q : Option Value → am_H → Prop}  (wp : ((¬ (I 27 4) = 0 → ((¬ a2 = 0 → am_R E mX0_lowest 0 [some (.long (Int32.toInt64 (I 27 6))), none, some (.long (Int32.toInt64 (I 27 4))), none, some (.int a3), none, none, none, none, none, none, none] [] (hp I J b) 64 64 (fun r h' => am_R E mX9_mean 73 [none, none, none, none, none] (r.toList ++ []) h' 64 64 Q)) ∧ (a2 = 0 → am_R E mX0_lowest 0 [some (.long (Int32.toInt64 (I 27 5))), none, some (.long (Int32.toInt64 (I 27 4))), none, some (.int a3), none, none, none, none, none, none, none] [] (hp I J b) 64 64 (fun r h' => am_R E mX9_mean 73 [none, none, none, none, none] (r.toList ++ []) h' 64 64 Q)))) ∧ ((I 27 4) = 0 → Q (some (.int (-4))) (hp I J b)))) : am_R E mX9_mean 31 [none, none, some (.int a2), some (.int a3), none] [.ref 27] (hp I J b) 64 64 Q := by
  refine am_astore (ls' := [none, none, some (.int a2), some (.int a3), some (.ref 27)]) (by decide) rfl rfl dX9_mean_31 ?_
  refine am_aload rfl dX9_mean_33 ?_
  refine am_getI dX9_mean_35 flX9_218 (Or.inl rfl) rfl (by decide) ?_
  refine am_if_ne dX9_mean_38 (tgt := 44) rfl (fun hc1 => ?_) (fun hc1 => ?_)
  · have wp := wp.1 hc1
    refine am_iload_n rfl rfl dX9_mean_44 ?_
    refine am_if_ne dX9_mean_45 (tgt := 57) rfl (fun hc2 => ?_) (fun hc2 => ?_)
    · have wp := wp.1 hc2
      refine am_aload rfl dX9_mean_57 ?_
      refine am_getI dX9_mean_59 flX9_230 (Or.inl rfl) rfl (by decide) ?_
      refine am_i2l dX9_mean_62 ?_
      refine am_aload rfl dX9_mean_63 ?_
      refine am_getI dX9_mean_65 flX9_218 (Or.inl rfl) rfl (by decide) ?_
      refine am_i2l dX9_mean_68 ?_
      refine am_iload_n rfl rfl dX9_mean_69 ?_
      refine am_invS (As := [.long (Int32.toInt64 (I 27 6)), .long (Int32.toInt64 (I 27 4)), .int a3]) (lsZ := [some (.long (Int32.toInt64 (I 27 6))), none, some (.long (Int32.toInt64 (I 27 4))), none, some (.int a3), none, none, none, none, none, none, none]) (st := []) dX9_mean_70 hX0_lowest lkX9_231 ⟨by decide, by decide⟩ rfl rfl (Nat.le_of_ble_eq_true rfl) rfl (Nat.le_of_ble_eq_true rfl) ⟨Nat.le_refl _, Nat.le_refl _⟩ (am_R.mono wp (fun r h' q => am_R.forget q trivial))
    · have wp := wp.2 hc2
      refine am_aload rfl dX9_mean_48 ?_
      refine am_getI dX9_mean_50 flX9_227 (Or.inl rfl) rfl (by decide) ?_
      refine am_i2l dX9_mean_53 ?_
      refine am_goto dX9_mean_54 (tgt := 63) rfl ?_
      refine am_aload rfl dX9_mean_63 ?_
      refine am_getI dX9_mean_65 flX9_218 (Or.inl rfl) rfl (by decide) ?_
      refine am_i2l dX9_mean_68 ?_
      refine am_iload_n rfl rfl dX9_mean_69 ?_
      refine am_invS (As := [.long (Int32.toInt64 (I 27 5)), .long (Int32.toInt64 (I 27 4)), .int a3]) (lsZ := [some (.long (Int32.toInt64 (I 27 5))), none, some (.long (Int32.toInt64 (I 27 4))), none, some (.int a3), none, none, none, none, none, none, none]) (st := []) dX9_mean_70 hX0_lowest lkX9_231 ⟨by decide, by decide⟩ rfl rfl (Nat.le_of_ble_eq_true rfl) rfl (Nat.le_of_ble_eq_true rfl) ⟨Nat.le_refl _, Nat.le_refl _⟩ (am_R.mono wp (fun r h' q => am_R.forget q trivial))
  · have wp := wp.2 hc1
    refine am_bipush (-4) rfl dX9_mean_41 ?_
    exact am_iret dX9_mean_43 rfl rfl wp
theorem bX9_meanA_73 {E : Nat × (Nat → Int32)} {I : Nat → Nat → Int32} {J : Nat → Nat → Int64} {b : Bool} {x0 : Int64} {Q : Option Value → am_H → Prop}  (wp : Q (some (.int (Int64.toInt32 x0))) (hp I J b)) : am_R E mX9_mean 73 [none, none, none, none, none] [.long x0] (hp I J b) 64 64 Q := by
  refine am_l2i dX9_mean_73 ?_
  exact am_iret dX9_mean_74 rfl rfl wp
theorem p_mean0 (hI : Inv I n) (a2 a3 : Int32) (hw : 0 ≤ a2 ∧ a2 ≤ 1) (hp' : a3 = 0 ∨ a3 = 1) : Pair E mX9_mean mX10_mean [some (.ref 0), some (.int 0), some (.int a2), some (.int a3), none] [some (.ref 48), some (.int 0), some (.int a2), some (.int a3), none, none, none] I J b := by
  have hN := hI.1.1
  have n7 := hN.2.2
  have hY : Yw I n := hI.1.2.2.2.2.2.2.1.2.2.1
  have hL := hI.1.2.2.2.1
  have hfl := fct_le n (by omega)
  have hM := fb_ct_le (lc I n) (fct n)
  obtain ⟨S, hS, eS⟩ : ∃ S, S < 2 ^ 31 ∧ sI (lc I n) (fun c => if a2 = 0 then sm (fun m => I 49 (7 * m + sr I n 0 c m)) n else sm (fun m => I 50 (7 * m + sr I n 0 c m)) n) (fct n) = nI S := by
    by_cases z : a2 = 0
    · simp only [if_pos z]; exact work_ex n7 hI.1.2.2.1
    · simp only [if_neg z]; exact work_ex n7 hL
  refine ⟨.int (mval a3 S (fb_ct (lc I n) (fct n))), fun I1 => Ag (tS 27 28 29) I I1 ∧ I1 27 1 = nI 0 ∧ I1 27 3 = 1 ∧ Tl I n 0 (I1 27) (I1 29), fun Q h => ?_, fun I1 J1 b1 e Q h => ?_⟩
  · refine bX9_meanA_0 ⟨fun _ => ⟨fun q => absurd hw.1 (Int32.not_le.mpr q), fun _ => ⟨fun q => absurd hw.2 (Int32.not_le.mpr q), fun _ => ⟨fun _ => ?_, fun q => absurd hp' q⟩⟩⟩, fun q => absurd (Or.inl rfl) q⟩
    refine tX9_tallyOf0 hI rfl (fun I1 a1 a2' a3' a4 => bX9_meanA_31 ?_)
    have kk := h I1 J b ⟨a1, a2', a3', a4⟩
    unfold mval at kk
    rw [a4.1]
    refine ne_br (m := 0) rfl rfl (by omega) (by omega) (fun q => by rw [if_pos q] at kk; exact kk) (fun q => ?_)
    rw [if_neg q] at kk
    have e5 : ∀ x : Int32, x = nI S → Int32.toInt64 x = lN S := fun x q => by rw [q]; exact nI_l hS
    have e4 : Int32.toInt64 (nI (fb_ct (lc I n) (fct n))) = lN (fb_ct (lc I n) (fct n)) := nI_l (by omega)
    have fin : ∀ x : Int32, x = nI S → am_R E mX0_lowest 0 [some (.long (Int32.toInt64 x)), none, some (.long (Int32.toInt64 (nI (fb_ct (lc I n) (fct n))))), none, some (.int a3), none, none, none, none, none, none, none] [] (hp I1 J b) 64 64 (fun r h' => am_R E mX9_mean 73 [none, none, none, none, none] (r.toList ++ []) h' 64 64 Q) := by
      intro x ex
      refine tX0_lowest (e5 x ex) e4 (by omega) (by omega) hp' (fun z => bX9_meanA_73 ?_) (fun z => bX9_meanA_73 ?_) (by omega)
      · rw [lN_i]; rw [if_pos z] at kk; exact kk
      · rw [lN_i]; rw [if_neg (by rw [z]; decide)] at kk; exact kk
    refine ⟨fun z => fin _ ?_, fun z => fin _ ?_⟩
    · simp only [if_neg z] at eS; rw [a4.2.2.1]; exact eS
    · simp only [if_pos z] at eS; rw [a4.2.1]; exact eS
  · obtain ⟨a1, a2', a3', a4⟩ := e
    obtain ⟨q1, q2, q3, q4, q5, q6, q7⟩ := a1.m (n := n) (Or.inl ⟨rfl, rfl, rfl⟩) hN hY hL
    refine bX10_mean_0 ⟨fun _ => ⟨fun _ => ⟨fun _ => ?_, fun q => absurd (in_01i.mpr hp') q⟩, fun q => absurd hw q⟩, fun q => absurd (Or.inl rfl) q⟩
    refine tX10_mean37 (n := n) (by' := 0) (S := S) q1 q2 q3 (by omega) rfl hS (by rw [q4, q5, q6, q7]; exact eS) (fun I2 hm => ?_)
    rw [q4]
    exact h I2 J1 b1 n (Inv.t0 hI a1 a2' a3' a4 hm)
theorem bX9_meanB_0 {E : Nat × (Nat → Int32)} {I : Nat → Nat → Int32} {J : Nat → Nat → Int64} {b : Bool} {a1 : Int32} {a2 : Int32} {a3 : Int32} {Q : Option Value → am_H → Prop}  (wp : (((a1 = 0 ∨ a1 = 2 ∨ a1 = 3) → ((a2 < 0 → Q (some (.int (-3))) (hp I J b)) ∧ (¬ a2 < 0 → ((1 < a2 → Q (some (.int (-3))) (hp I J b)) ∧ (¬ 1 < a2 → (((a3 = 0 ∨ a3 = 1) → am_R E mX9_tallyOf 0 [some (.ref 0), some (.int a1), none] [] (hp I J b) 64 64 (fun r h' => am_R E mX9_mean 31 [none, none, some (.int a2), some (.int a3), none] (r.toList ++ []) h' 64 64 Q)) ∧ (¬ (a3 = 0 ∨ a3 = 1) → Q (some (.int (-3))) (hp I J b)))))))) ∧ (¬ (a1 = 0 ∨ a1 = 2 ∨ a1 = 3) → Q (some (.int (-3))) (hp I J b)))) : am_R E mX9_mean 0 [some (.ref 0), some (.int a1), some (.int a2), some (.int a3), none] [] (hp I J b) 64 64 Q := by
  refine am_iload_n rfl rfl dX9_mean_0 ?_
  refine am_invS (As := [.int a1]) (lsZ := [some (.int a1)]) (st := []) dX9_mean_1 hX9_isRing lkX9_221 ⟨by decide, by decide⟩ rfl rfl (Nat.le_of_ble_eq_true rfl) rfl (Nat.le_of_ble_eq_true rfl) ⟨Nat.le_refl _, Nat.le_refl _⟩ (tX9_isRing  (fun hc1 => ?_) (fun hc1 => ?_))
  · have wp := wp.1 hc1
    show am_R E mX9_mean 4 [some (.ref 0), some (.int a1), some (.int a2), some (.int a3), none] [.int 1] (hp I J b) 64 64 Q
    refine am_if_eq dX9_mean_4 (tgt := 23) rfl (fun hc => absurd hc (by decide)) (fun _ => ?_)
    refine am_iload_n rfl rfl dX9_mean_7 ?_
    refine am_if_lt dX9_mean_8 (tgt := 23) rfl (fun hc2 => ?_) (fun hc2 => ?_)
    · have wp := wp.1 hc2
      refine am_bipush (-3) rfl dX9_mean_23 ?_
      exact am_iret dX9_mean_25 rfl rfl wp
    · have wp := wp.2 hc2
      refine am_iload_n rfl rfl dX9_mean_11 ?_
      refine am_iconst 1 rfl dX9_mean_12 ?_
      refine am_icmp_gt dX9_mean_13 (tgt := 23) rfl (fun hc3 => ?_) (fun hc3 => ?_)
      · have wp := wp.1 hc3
        refine am_bipush (-3) rfl dX9_mean_23 ?_
        exact am_iret dX9_mean_25 rfl rfl wp
      · have wp := wp.2 hc3
        refine am_iload_n rfl rfl dX9_mean_16 ?_
        refine am_invS (As := [.int a3]) (lsZ := [some (.int a3)]) (st := []) dX9_mean_17 hX9_isPart lkX9_224 ⟨by decide, by decide⟩ rfl rfl (Nat.le_of_ble_eq_true rfl) rfl (Nat.le_of_ble_eq_true rfl) ⟨Nat.le_refl _, Nat.le_refl _⟩ (tX9_isPart  (fun hc4 => ?_) (fun hc4 => ?_))
        · have wp := wp.1 hc4
          show am_R E mX9_mean 20 [some (.ref 0), some (.int a1), some (.int a2), some (.int a3), none] [.int 1] (hp I J b) 64 64 Q
          refine am_if_ne dX9_mean_20 (tgt := 26) rfl (fun _ => ?_) (fun hc => absurd hc (by decide))
          refine am_aload_n rfl rfl dX9_mean_26 ?_
          refine am_iload_n rfl rfl dX9_mean_27 ?_
          refine am_invV (ci := 7) (As := [.int a1]) (lsZ := [some (.ref 0), some (.int a1), none]) (st := []) dX9_mean_28 hX9_tallyOf lkX9_214 ⟨by decide, by decide⟩ (by decide) rfl (by decide) rfl rfl rfl (Nat.le_of_ble_eq_true rfl) rfl (Nat.le_of_ble_eq_true rfl) ⟨Nat.le_refl _, Nat.le_refl _⟩ (am_R.mono wp (fun r h' q => am_R.forget q ⟨rfl, ⟨rfl, trivial⟩⟩))
        · have wp := wp.2 hc4
          show am_R E mX9_mean 20 [some (.ref 0), some (.int a1), some (.int a2), some (.int a3), none] [.int 0] (hp I J b) 64 64 Q
          refine am_if_ne dX9_mean_20 (tgt := 26) rfl (fun hc => absurd hc (by decide)) (fun _ => ?_)
          refine am_bipush (-3) rfl dX9_mean_23 ?_
          exact am_iret dX9_mean_25 rfl rfl wp
  · have wp := wp.2 hc1
    show am_R E mX9_mean 4 [some (.ref 0), some (.int a1), some (.int a2), some (.int a3), none] [.int 0] (hp I J b) 64 64 Q
    refine am_if_eq dX9_mean_4 (tgt := 23) rfl (fun _ => ?_) (fun hc => absurd hc (by decide))
    refine am_bipush (-3) rfl dX9_mean_23 ?_
    exact am_iret dX9_mean_25 rfl rfl wp
theorem bX9_meanB_31 {E : Nat × (Nat → Int32)} {I : Nat → Nat → Int32} {J : Nat → Nat → Int64} {b : Bool} {a2 : Int32} {a3 : Int32} {Q : Option Value → am_H → Prop}  (wp : ((¬ (I 30 4) = 0 → ((¬ a2 = 0 → am_R E mX0_lowest 0 [some (.long (Int32.toInt64 (I 30 6))), none, some (.long (Int32.toInt64 (I 30 4))), none, some (.int a3), none, none, none, none, none, none, none] [] (hp I J b) 64 64 (fun r h' => am_R E mX9_mean 73 [none, none, none, none, none] (r.toList ++ []) h' 64 64 Q)) ∧ (a2 = 0 → am_R E mX0_lowest 0 [some (.long (Int32.toInt64 (I 30 5))), none, some (.long (Int32.toInt64 (I 30 4))), none, some (.int a3), none, none, none, none, none, none, none] [] (hp I J b) 64 64 (fun r h' => am_R E mX9_mean 73 [none, none, none, none, none] (r.toList ++ []) h' 64 64 Q)))) ∧ ((I 30 4) = 0 → Q (some (.int (-4))) (hp I J b)))) : am_R E mX9_mean 31 [none, none, some (.int a2), some (.int a3), none] [.ref 30] (hp I J b) 64 64 Q := by
  refine am_astore (ls' := [none, none, some (.int a2), some (.int a3), some (.ref 30)]) (by decide) rfl rfl dX9_mean_31 ?_
  refine am_aload rfl dX9_mean_33 ?_
  refine am_getI dX9_mean_35 flX9_218 (Or.inl rfl) rfl (by decide) ?_
  refine am_if_ne dX9_mean_38 (tgt := 44) rfl (fun hc1 => ?_) (fun hc1 => ?_)
  · have wp := wp.1 hc1
    refine am_iload_n rfl rfl dX9_mean_44 ?_
    refine am_if_ne dX9_mean_45 (tgt := 57) rfl (fun hc2 => ?_) (fun hc2 => ?_)
    · have wp := wp.1 hc2
      refine am_aload rfl dX9_mean_57 ?_
      refine am_getI dX9_mean_59 flX9_230 (Or.inl rfl) rfl (by decide) ?_
      refine am_i2l dX9_mean_62 ?_
      refine am_aload rfl dX9_mean_63 ?_
      refine am_getI dX9_mean_65 flX9_218 (Or.inl rfl) rfl (by decide) ?_
      refine am_i2l dX9_mean_68 ?_
      refine am_iload_n rfl rfl dX9_mean_69 ?_
      refine am_invS (As := [.long (Int32.toInt64 (I 30 6)), .long (Int32.toInt64 (I 30 4)), .int a3]) (lsZ := [some (.long (Int32.toInt64 (I 30 6))), none, some (.long (Int32.toInt64 (I 30 4))), none, some (.int a3), none, none, none, none, none, none, none]) (st := []) dX9_mean_70 hX0_lowest lkX9_231 ⟨by decide, by decide⟩ rfl rfl (Nat.le_of_ble_eq_true rfl) rfl (Nat.le_of_ble_eq_true rfl) ⟨Nat.le_refl _, Nat.le_refl _⟩ (am_R.mono wp (fun r h' q => am_R.forget q trivial))
    · have wp := wp.2 hc2
      refine am_aload rfl dX9_mean_48 ?_
      refine am_getI dX9_mean_50 flX9_227 (Or.inl rfl) rfl (by decide) ?_
      refine am_i2l dX9_mean_53 ?_
      refine am_goto dX9_mean_54 (tgt := 63) rfl ?_
      refine am_aload rfl dX9_mean_63 ?_
      refine am_getI dX9_mean_65 flX9_218 (Or.inl rfl) rfl (by decide) ?_
      refine am_i2l dX9_mean_68 ?_
      refine am_iload_n rfl rfl dX9_mean_69 ?_
      refine am_invS (As := [.long (Int32.toInt64 (I 30 5)), .long (Int32.toInt64 (I 30 4)), .int a3]) (lsZ := [some (.long (Int32.toInt64 (I 30 5))), none, some (.long (Int32.toInt64 (I 30 4))), none, some (.int a3), none, none, none, none, none, none, none]) (st := []) dX9_mean_70 hX0_lowest lkX9_231 ⟨by decide, by decide⟩ rfl rfl (Nat.le_of_ble_eq_true rfl) rfl (Nat.le_of_ble_eq_true rfl) ⟨Nat.le_refl _, Nat.le_refl _⟩ (am_R.mono wp (fun r h' q => am_R.forget q trivial))
  · have wp := wp.2 hc1
    refine am_bipush (-4) rfl dX9_mean_41 ?_
    exact am_iret dX9_mean_43 rfl rfl wp
theorem bX9_meanB_73 {E : Nat × (Nat → Int32)} {I : Nat → Nat → Int32} {J : Nat → Nat → Int64} {b : Bool} {x0 : Int64} {Q : Option Value → am_H → Prop}  (wp : Q (some (.int (Int64.toInt32 x0))) (hp I J b)) : am_R E mX9_mean 73 [none, none, none, none, none] [.long x0] (hp I J b) 64 64 Q := by
  refine am_l2i dX9_mean_73 ?_
  exact am_iret dX9_mean_74 rfl rfl wp
theorem p_mean2 (hI : Inv I n) (a2 a3 : Int32) (hw : 0 ≤ a2 ∧ a2 ≤ 1) (hp' : a3 = 0 ∨ a3 = 1) : Pair E mX9_mean mX10_mean [some (.ref 0), some (.int 2), some (.int a2), some (.int a3), none] [some (.ref 48), some (.int 2), some (.int a2), some (.int a3), none, none, none] I J b := by
  have hN := hI.1.1
  have n7 := hN.2.2
  have hY : Yw I n := hI.1.2.2.2.2.2.2.1.2.2.1
  have hL := hI.1.2.2.2.1
  have hfl := fct_le n (by omega)
  have hM := fb_ct_le (lc I n) (fct n)
  obtain ⟨S, hS, eS⟩ : ∃ S, S < 2 ^ 31 ∧ sI (lc I n) (fun c => if a2 = 0 then sm (fun m => I 49 (7 * m + sr I n 2 c m)) n else sm (fun m => I 50 (7 * m + sr I n 2 c m)) n) (fct n) = nI S := by
    by_cases z : a2 = 0
    · simp only [if_pos z]; exact work_ex n7 hI.1.2.2.1
    · simp only [if_neg z]; exact work_ex n7 hL
  refine ⟨.int (mval a3 S (fb_ct (lc I n) (fct n))), fun I1 => Ag (tS 30 31 32) I I1 ∧ I1 30 1 = nI 2 ∧ I1 30 3 = 1 ∧ Tl I n 2 (I1 30) (I1 32), fun Q h => ?_, fun I1 J1 b1 e Q h => ?_⟩
  · refine bX9_meanB_0 ⟨fun _ => ⟨fun q => absurd hw.1 (Int32.not_le.mpr q), fun _ => ⟨fun q => absurd hw.2 (Int32.not_le.mpr q), fun _ => ⟨fun _ => ?_, fun q => absurd hp' q⟩⟩⟩, fun q => absurd (Or.inr (Or.inl rfl)) q⟩
    refine tX9_tallyOf2 hI rfl (fun I1 a1 a2' a3' a4 => bX9_meanB_31 ?_)
    have kk := h I1 J b ⟨a1, a2', a3', a4⟩
    unfold mval at kk
    rw [a4.1]
    refine ne_br (m := 0) rfl rfl (by omega) (by omega) (fun q => by rw [if_pos q] at kk; exact kk) (fun q => ?_)
    rw [if_neg q] at kk
    have e5 : ∀ x : Int32, x = nI S → Int32.toInt64 x = lN S := fun x q => by rw [q]; exact nI_l hS
    have e4 : Int32.toInt64 (nI (fb_ct (lc I n) (fct n))) = lN (fb_ct (lc I n) (fct n)) := nI_l (by omega)
    have fin : ∀ x : Int32, x = nI S → am_R E mX0_lowest 0 [some (.long (Int32.toInt64 x)), none, some (.long (Int32.toInt64 (nI (fb_ct (lc I n) (fct n))))), none, some (.int a3), none, none, none, none, none, none, none] [] (hp I1 J b) 64 64 (fun r h' => am_R E mX9_mean 73 [none, none, none, none, none] (r.toList ++ []) h' 64 64 Q) := by
      intro x ex
      refine tX0_lowest (e5 x ex) e4 (by omega) (by omega) hp' (fun z => bX9_meanB_73 ?_) (fun z => bX9_meanB_73 ?_) (by omega)
      · rw [lN_i]; rw [if_pos z] at kk; exact kk
      · rw [lN_i]; rw [if_neg (by rw [z]; decide)] at kk; exact kk
    refine ⟨fun z => fin _ ?_, fun z => fin _ ?_⟩
    · simp only [if_neg z] at eS; rw [a4.2.2.1]; exact eS
    · simp only [if_pos z] at eS; rw [a4.2.1]; exact eS
  · obtain ⟨a1, a2', a3', a4⟩ := e
    obtain ⟨q1, q2, q3, q4, q5, q6, q7⟩ := a1.m (n := n) (Or.inr (Or.inl ⟨rfl, rfl, rfl⟩)) hN hY hL
    refine bX10_mean_0 ⟨fun _ => ⟨fun _ => ⟨fun _ => ?_, fun q => absurd (in_01i.mpr hp') q⟩, fun q => absurd hw q⟩, fun q => absurd (Or.inr (Or.inl rfl)) q⟩
    refine tX10_mean37 (n := n) (by' := 2) (S := S) q1 q2 q3 (by omega) rfl hS (by rw [q4, q5, q6, q7]; exact eS) (fun I2 hm => ?_)
    rw [q4]
    exact h I2 J1 b1 n (Inv.t2 hI a1 a2' a3' a4 hm)
theorem bX9_meanC_0 {E : Nat × (Nat → Int32)} {I : Nat → Nat → Int32} {J : Nat → Nat → Int64} {b : Bool} {a1 : Int32} {a2 : Int32} {a3 : Int32} {Q : Option Value → am_H → Prop}  (wp : (((a1 = 0 ∨ a1 = 2 ∨ a1 = 3) → ((a2 < 0 → Q (some (.int (-3))) (hp I J b)) ∧ (¬ a2 < 0 → ((1 < a2 → Q (some (.int (-3))) (hp I J b)) ∧ (¬ 1 < a2 → (((a3 = 0 ∨ a3 = 1) → am_R E mX9_tallyOf 0 [some (.ref 0), some (.int a1), none] [] (hp I J b) 64 64 (fun r h' => am_R E mX9_mean 31 [none, none, some (.int a2), some (.int a3), none] (r.toList ++ []) h' 64 64 Q)) ∧ (¬ (a3 = 0 ∨ a3 = 1) → Q (some (.int (-3))) (hp I J b)))))))) ∧ (¬ (a1 = 0 ∨ a1 = 2 ∨ a1 = 3) → Q (some (.int (-3))) (hp I J b)))) : am_R E mX9_mean 0 [some (.ref 0), some (.int a1), some (.int a2), some (.int a3), none] [] (hp I J b) 64 64 Q := by
  refine am_iload_n rfl rfl dX9_mean_0 ?_
  refine am_invS (As := [.int a1]) (lsZ := [some (.int a1)]) (st := []) dX9_mean_1 hX9_isRing lkX9_221 ⟨by decide, by decide⟩ rfl rfl (Nat.le_of_ble_eq_true rfl) rfl (Nat.le_of_ble_eq_true rfl) ⟨Nat.le_refl _, Nat.le_refl _⟩ (tX9_isRing  (fun hc1 => ?_) (fun hc1 => ?_))
  · have wp := wp.1 hc1
    show am_R E mX9_mean 4 [some (.ref 0), some (.int a1), some (.int a2), some (.int a3), none] [.int 1] (hp I J b) 64 64 Q
    refine am_if_eq dX9_mean_4 (tgt := 23) rfl (fun hc => absurd hc (by decide)) (fun _ => ?_)
    refine am_iload_n rfl rfl dX9_mean_7 ?_
    refine am_if_lt dX9_mean_8 (tgt := 23) rfl (fun hc2 => ?_) (fun hc2 => ?_)
    · have wp := wp.1 hc2
      refine am_bipush (-3) rfl dX9_mean_23 ?_
      exact am_iret dX9_mean_25 rfl rfl wp
    · have wp := wp.2 hc2
      refine am_iload_n rfl rfl dX9_mean_11 ?_
      refine am_iconst 1 rfl dX9_mean_12 ?_
      refine am_icmp_gt dX9_mean_13 (tgt := 23) rfl (fun hc3 => ?_) (fun hc3 => ?_)
      · have wp := wp.1 hc3
        refine am_bipush (-3) rfl dX9_mean_23 ?_
        exact am_iret dX9_mean_25 rfl rfl wp
      · have wp := wp.2 hc3
        refine am_iload_n rfl rfl dX9_mean_16 ?_
        refine am_invS (As := [.int a3]) (lsZ := [some (.int a3)]) (st := []) dX9_mean_17 hX9_isPart lkX9_224 ⟨by decide, by decide⟩ rfl rfl (Nat.le_of_ble_eq_true rfl) rfl (Nat.le_of_ble_eq_true rfl) ⟨Nat.le_refl _, Nat.le_refl _⟩ (tX9_isPart  (fun hc4 => ?_) (fun hc4 => ?_))
        · have wp := wp.1 hc4
          show am_R E mX9_mean 20 [some (.ref 0), some (.int a1), some (.int a2), some (.int a3), none] [.int 1] (hp I J b) 64 64 Q
          refine am_if_ne dX9_mean_20 (tgt := 26) rfl (fun _ => ?_) (fun hc => absurd hc (by decide))
          refine am_aload_n rfl rfl dX9_mean_26 ?_
          refine am_iload_n rfl rfl dX9_mean_27 ?_
          refine am_invV (ci := 7) (As := [.int a1]) (lsZ := [some (.ref 0), some (.int a1), none]) (st := []) dX9_mean_28 hX9_tallyOf lkX9_214 ⟨by decide, by decide⟩ (by decide) rfl (by decide) rfl rfl rfl (Nat.le_of_ble_eq_true rfl) rfl (Nat.le_of_ble_eq_true rfl) ⟨Nat.le_refl _, Nat.le_refl _⟩ (am_R.mono wp (fun r h' q => am_R.forget q ⟨rfl, ⟨rfl, trivial⟩⟩))
        · have wp := wp.2 hc4
          show am_R E mX9_mean 20 [some (.ref 0), some (.int a1), some (.int a2), some (.int a3), none] [.int 0] (hp I J b) 64 64 Q
          refine am_if_ne dX9_mean_20 (tgt := 26) rfl (fun hc => absurd hc (by decide)) (fun _ => ?_)
          refine am_bipush (-3) rfl dX9_mean_23 ?_
          exact am_iret dX9_mean_25 rfl rfl wp
  · have wp := wp.2 hc1
    show am_R E mX9_mean 4 [some (.ref 0), some (.int a1), some (.int a2), some (.int a3), none] [.int 0] (hp I J b) 64 64 Q
    refine am_if_eq dX9_mean_4 (tgt := 23) rfl (fun _ => ?_) (fun hc => absurd hc (by decide))
    refine am_bipush (-3) rfl dX9_mean_23 ?_
    exact am_iret dX9_mean_25 rfl rfl wp
theorem bX9_meanC_31 {E : Nat × (Nat → Int32)} {I : Nat → Nat → Int32} {J : Nat → Nat → Int64} {b : Bool} {a2 : Int32} {a3 : Int32} {Q : Option Value → am_H → Prop}  (wp : ((¬ (I 33 4) = 0 → ((¬ a2 = 0 → am_R E mX0_lowest 0 [some (.long (Int32.toInt64 (I 33 6))), none, some (.long (Int32.toInt64 (I 33 4))), none, some (.int a3), none, none, none, none, none, none, none] [] (hp I J b) 64 64 (fun r h' => am_R E mX9_mean 73 [none, none, none, none, none] (r.toList ++ []) h' 64 64 Q)) ∧ (a2 = 0 → am_R E mX0_lowest 0 [some (.long (Int32.toInt64 (I 33 5))), none, some (.long (Int32.toInt64 (I 33 4))), none, some (.int a3), none, none, none, none, none, none, none] [] (hp I J b) 64 64 (fun r h' => am_R E mX9_mean 73 [none, none, none, none, none] (r.toList ++ []) h' 64 64 Q)))) ∧ ((I 33 4) = 0 → Q (some (.int (-4))) (hp I J b)))) : am_R E mX9_mean 31 [none, none, some (.int a2), some (.int a3), none] [.ref 33] (hp I J b) 64 64 Q := by
  refine am_astore (ls' := [none, none, some (.int a2), some (.int a3), some (.ref 33)]) (by decide) rfl rfl dX9_mean_31 ?_
  refine am_aload rfl dX9_mean_33 ?_
  refine am_getI dX9_mean_35 flX9_218 (Or.inl rfl) rfl (by decide) ?_
  refine am_if_ne dX9_mean_38 (tgt := 44) rfl (fun hc1 => ?_) (fun hc1 => ?_)
  · have wp := wp.1 hc1
    refine am_iload_n rfl rfl dX9_mean_44 ?_
    refine am_if_ne dX9_mean_45 (tgt := 57) rfl (fun hc2 => ?_) (fun hc2 => ?_)
    · have wp := wp.1 hc2
      refine am_aload rfl dX9_mean_57 ?_
      refine am_getI dX9_mean_59 flX9_230 (Or.inl rfl) rfl (by decide) ?_
      refine am_i2l dX9_mean_62 ?_
      refine am_aload rfl dX9_mean_63 ?_
      refine am_getI dX9_mean_65 flX9_218 (Or.inl rfl) rfl (by decide) ?_
      refine am_i2l dX9_mean_68 ?_
      refine am_iload_n rfl rfl dX9_mean_69 ?_
      refine am_invS (As := [.long (Int32.toInt64 (I 33 6)), .long (Int32.toInt64 (I 33 4)), .int a3]) (lsZ := [some (.long (Int32.toInt64 (I 33 6))), none, some (.long (Int32.toInt64 (I 33 4))), none, some (.int a3), none, none, none, none, none, none, none]) (st := []) dX9_mean_70 hX0_lowest lkX9_231 ⟨by decide, by decide⟩ rfl rfl (Nat.le_of_ble_eq_true rfl) rfl (Nat.le_of_ble_eq_true rfl) ⟨Nat.le_refl _, Nat.le_refl _⟩ (am_R.mono wp (fun r h' q => am_R.forget q trivial))
    · have wp := wp.2 hc2
      refine am_aload rfl dX9_mean_48 ?_
      refine am_getI dX9_mean_50 flX9_227 (Or.inl rfl) rfl (by decide) ?_
      refine am_i2l dX9_mean_53 ?_
      refine am_goto dX9_mean_54 (tgt := 63) rfl ?_
      refine am_aload rfl dX9_mean_63 ?_
      refine am_getI dX9_mean_65 flX9_218 (Or.inl rfl) rfl (by decide) ?_
      refine am_i2l dX9_mean_68 ?_
      refine am_iload_n rfl rfl dX9_mean_69 ?_
      refine am_invS (As := [.long (Int32.toInt64 (I 33 5)), .long (Int32.toInt64 (I 33 4)), .int a3]) (lsZ := [some (.long (Int32.toInt64 (I 33 5))), none, some (.long (Int32.toInt64 (I 33 4))), none, some (.int a3), none, none, none, none, none, none, none]) (st := []) dX9_mean_70 hX0_lowest lkX9_231 ⟨by decide, by decide⟩ rfl rfl (Nat.le_of_ble_eq_true rfl) rfl (Nat.le_of_ble_eq_true rfl) ⟨Nat.le_refl _, Nat.le_refl _⟩ (am_R.mono wp (fun r h' q => am_R.forget q trivial))
  · have wp := wp.2 hc1
    refine am_bipush (-4) rfl dX9_mean_41 ?_
    exact am_iret dX9_mean_43 rfl rfl wp
theorem bX9_meanC_73 {E : Nat × (Nat → Int32)} {I : Nat → Nat → Int32} {J : Nat → Nat → Int64} {b : Bool} {x0 : Int64} {Q : Option Value → am_H → Prop}  (wp : Q (some (.int (Int64.toInt32 x0))) (hp I J b)) : am_R E mX9_mean 73 [none, none, none, none, none] [.long x0] (hp I J b) 64 64 Q := by
  refine am_l2i dX9_mean_73 ?_
  exact am_iret dX9_mean_74 rfl rfl wp
theorem p_mean3 (hI : Inv I n) (a2 a3 : Int32) (hw : 0 ≤ a2 ∧ a2 ≤ 1) (hp' : a3 = 0 ∨ a3 = 1) : Pair E mX9_mean mX10_mean [some (.ref 0), some (.int 3), some (.int a2), some (.int a3), none] [some (.ref 48), some (.int 3), some (.int a2), some (.int a3), none, none, none] I J b := by
  have hN := hI.1.1
  have n7 := hN.2.2
  have hY : Yw I n := hI.1.2.2.2.2.2.2.1.2.2.1
  have hL := hI.1.2.2.2.1
  have hfl := fct_le n (by omega)
  have hM := fb_ct_le (lc I n) (fct n)
  obtain ⟨S, hS, eS⟩ : ∃ S, S < 2 ^ 31 ∧ sI (lc I n) (fun c => if a2 = 0 then sm (fun m => I 49 (7 * m + sr I n 3 c m)) n else sm (fun m => I 50 (7 * m + sr I n 3 c m)) n) (fct n) = nI S := by
    by_cases z : a2 = 0
    · simp only [if_pos z]; exact work_ex n7 hI.1.2.2.1
    · simp only [if_neg z]; exact work_ex n7 hL
  refine ⟨.int (mval a3 S (fb_ct (lc I n) (fct n))), fun I1 => Ag (tS 33 34 35) I I1 ∧ I1 33 1 = nI 3 ∧ I1 33 3 = 1 ∧ Tl I n 3 (I1 33) (I1 35), fun Q h => ?_, fun I1 J1 b1 e Q h => ?_⟩
  · refine bX9_meanC_0 ⟨fun _ => ⟨fun q => absurd hw.1 (Int32.not_le.mpr q), fun _ => ⟨fun q => absurd hw.2 (Int32.not_le.mpr q), fun _ => ⟨fun _ => ?_, fun q => absurd hp' q⟩⟩⟩, fun q => absurd (Or.inr (Or.inr rfl)) q⟩
    refine tX9_tallyOf3 hI rfl (fun I1 a1 a2' a3' a4 => bX9_meanC_31 ?_)
    have kk := h I1 J b ⟨a1, a2', a3', a4⟩
    unfold mval at kk
    rw [a4.1]
    refine ne_br (m := 0) rfl rfl (by omega) (by omega) (fun q => by rw [if_pos q] at kk; exact kk) (fun q => ?_)
    rw [if_neg q] at kk
    have e5 : ∀ x : Int32, x = nI S → Int32.toInt64 x = lN S := fun x q => by rw [q]; exact nI_l hS
    have e4 : Int32.toInt64 (nI (fb_ct (lc I n) (fct n))) = lN (fb_ct (lc I n) (fct n)) := nI_l (by omega)
    have fin : ∀ x : Int32, x = nI S → am_R E mX0_lowest 0 [some (.long (Int32.toInt64 x)), none, some (.long (Int32.toInt64 (nI (fb_ct (lc I n) (fct n))))), none, some (.int a3), none, none, none, none, none, none, none] [] (hp I1 J b) 64 64 (fun r h' => am_R E mX9_mean 73 [none, none, none, none, none] (r.toList ++ []) h' 64 64 Q) := by
      intro x ex
      refine tX0_lowest (e5 x ex) e4 (by omega) (by omega) hp' (fun z => bX9_meanC_73 ?_) (fun z => bX9_meanC_73 ?_) (by omega)
      · rw [lN_i]; rw [if_pos z] at kk; exact kk
      · rw [lN_i]; rw [if_neg (by rw [z]; decide)] at kk; exact kk
    refine ⟨fun z => fin _ ?_, fun z => fin _ ?_⟩
    · simp only [if_neg z] at eS; rw [a4.2.2.1]; exact eS
    · simp only [if_pos z] at eS; rw [a4.2.1]; exact eS
  · obtain ⟨a1, a2', a3', a4⟩ := e
    obtain ⟨q1, q2, q3, q4, q5, q6, q7⟩ := a1.m (n := n) (Or.inr (Or.inr ⟨rfl, rfl, rfl⟩)) hN hY hL
    refine bX10_mean_0 ⟨fun _ => ⟨fun _ => ⟨fun _ => ?_, fun q => absurd (in_01i.mpr hp') q⟩, fun q => absurd hw q⟩, fun q => absurd (Or.inr (Or.inr rfl)) q⟩
    refine tX10_mean37 (n := n) (by' := 3) (S := S) q1 q2 q3 (by omega) rfl hS (by rw [q4, q5, q6, q7]; exact eS) (fun I2 hm => ?_)
    rw [q4]
    exact h I2 J1 b1 n (Inv.t3 hI a1 a2' a3' a4 hm)
theorem p_mean (hI : Inv I n) (a1 a2 a3 : Int32) : Pair E mX9_mean mX10_mean [some (.ref 0), some (.int a1), some (.int a2), some (.int a3), none] [some (.ref 48), some (.int a1), some (.int a2), some (.int a3), none, none, none] I J b := by
  by_cases hr : a1 = 0 ∨ a1 = 2 ∨ a1 = 3
  case neg => exact Pair.same hI (.int (-3)) (fun Q h => bX9_meanA_0 ⟨fun q => absurd q hr, fun _ => h⟩) (fun J b Q h => bX10_mean_0 ⟨fun q => absurd q hr, fun _ => h⟩)
  by_cases hw : 0 ≤ a2 ∧ a2 ≤ 1
  case neg => exact Pair.same hI (.int (-3)) (fun Q h => bX9_meanA_0 ⟨fun _ => ⟨fun _ => h, fun q1 => ⟨fun _ => h, fun q2 => absurd ⟨nlt q1, nlt q2⟩ hw⟩⟩, fun _ => h⟩) (fun J b Q h => bX10_mean_0 ⟨fun _ => ⟨fun q => absurd q hw, fun _ => h⟩, fun _ => h⟩)
  by_cases hp' : a3 = 0 ∨ a3 = 1
  case neg => exact Pair.same hI (.int (-3)) (fun Q h => bX9_meanA_0 ⟨fun _ => ⟨fun _ => h, fun q1 => ⟨fun _ => h, fun q2 => ⟨fun q => absurd q hp', fun _ => h⟩⟩⟩, fun _ => h⟩) (fun J b Q h => bX10_mean_0 ⟨fun _ => ⟨fun _ => ⟨fun q => absurd (in_01i.mp q) hp', fun _ => h⟩, fun _ => h⟩, fun _ => h⟩)
  rcases hr with rfl | rfl | rfl
  · exact p_mean0 hI a2 a3 hw hp'
  · exact p_mean2 hI a2 a3 hw hp'
  · exact p_mean3 hI a2 a3 hw hp'
theorem bX10_odds_0 {E : Nat × (Nat → Int32)} {I : Nat → Nat → Int32} {J : Nat → Nat → Int64} {b : Bool} {a1 : Int32} {a2 : Int32} {a3 : Int32} {a4 : Int32} {Q : Option Value → am_H → Prop}  (wp : (((0 ≤ a1 ∧ a1 ≤ (I 48 0) - 1) → (((0 ≤ a2 ∧ a2 ≤ (I 48 0) - 1) → (((a3 = 0 ∨ a3 = 2 ∨ a3 = 3) → (((0 ≤ a4 ∧ a4 ≤ 1) → am_R E mX10_odds 48 [some (.ref 48), some (.int a1), some (.int a2), some (.int a3), some (.int a4), some (.int 0), some (.int 0), some (.int 0)] [] (hp I J b) 64 64 Q) ∧ (¬ (0 ≤ a4 ∧ a4 ≤ 1) → Q (some (.int (-3))) (hp I J b)))) ∧ (¬ (a3 = 0 ∨ a3 = 2 ∨ a3 = 3) → Q (some (.int (-3))) (hp I J b)))) ∧ (¬ (0 ≤ a2 ∧ a2 ≤ (I 48 0) - 1) → Q (some (.int (-2))) (hp I J b)))) ∧ (¬ (0 ≤ a1 ∧ a1 ≤ (I 48 0) - 1) → Q (some (.int (-2))) (hp I J b)))) : am_R E mX10_odds 0 [some (.ref 48), some (.int a1), some (.int a2), some (.int a3), some (.int a4), none, none, none] [] (hp I J b) 64 64 Q := by
  refine am_aload_n rfl rfl dX10_odds_0 ?_
  refine am_iload_n rfl rfl dX10_odds_1 ?_
  refine am_invV (ci := 8) (As := [.int a1]) (lsZ := [some (.ref 48), some (.int a1)]) (st := []) dX10_odds_2 hX10_isMonk lkX10_166 ⟨by decide, by decide⟩ (by decide) rfl (by decide) rfl rfl rfl (Nat.le_of_ble_eq_true rfl) rfl (Nat.le_of_ble_eq_true rfl) ⟨Nat.le_refl _, Nat.le_refl _⟩ (tX10_isMonk  (fun hc1 => ?_) (fun hc1 => ?_))
  · have wp := wp.1 hc1
    show am_R E mX10_odds 5 [some (.ref 48), some (.int a1), some (.int a2), some (.int a3), some (.int a4), none, none, none] [.int 1] (hp I J b) 64 64 Q
    refine am_if_eq dX10_odds_5 (tgt := 16) rfl (fun hc => absurd hc (by decide)) (fun _ => ?_)
    refine am_aload_n rfl rfl dX10_odds_8 ?_
    refine am_iload_n rfl rfl dX10_odds_9 ?_
    refine am_invV (ci := 8) (As := [.int a2]) (lsZ := [some (.ref 48), some (.int a2)]) (st := []) dX10_odds_10 hX10_isMonk lkX10_166 ⟨by decide, by decide⟩ (by decide) rfl (by decide) rfl rfl rfl (Nat.le_of_ble_eq_true rfl) rfl (Nat.le_of_ble_eq_true rfl) ⟨Nat.le_refl _, Nat.le_refl _⟩ (tX10_isMonk  (fun hc2 => ?_) (fun hc2 => ?_))
    · have wp := wp.1 hc2
      show am_R E mX10_odds 13 [some (.ref 48), some (.int a1), some (.int a2), some (.int a3), some (.int a4), none, none, none] [.int 1] (hp I J b) 64 64 Q
      refine am_if_ne dX10_odds_13 (tgt := 19) rfl (fun _ => ?_) (fun hc => absurd hc (by decide))
      refine am_iload_n rfl rfl dX10_odds_19 ?_
      refine am_invS (As := [.int a3]) (lsZ := [some (.int a3)]) (st := []) dX10_odds_20 hX10_isRingNumber lkX10_230 ⟨by decide, by decide⟩ rfl rfl (Nat.le_of_ble_eq_true rfl) rfl (Nat.le_of_ble_eq_true rfl) ⟨Nat.le_refl _, Nat.le_refl _⟩ (tX10_isRingNumber  (fun hc3 => ?_) (fun hc3 => ?_))
      · have wp := wp.1 hc3
        show am_R E mX10_odds 23 [some (.ref 48), some (.int a1), some (.int a2), some (.int a3), some (.int a4), none, none, none] [.int 1] (hp I J b) 64 64 Q
        refine am_if_eq dX10_odds_23 (tgt := 36) rfl (fun hc => absurd hc (by decide)) (fun _ => ?_)
        refine am_iload rfl dX10_odds_26 ?_
        refine am_iconst 0 rfl dX10_odds_28 ?_
        refine am_iconst 1 rfl dX10_odds_29 ?_
        refine am_invS (As := [.int a4, .int 0, .int 1]) (lsZ := [some (.int a4), some (.int 0), some (.int 1)]) (st := []) dX10_odds_30 hX10_in lkX10_69 ⟨by decide, by decide⟩ rfl rfl (Nat.le_of_ble_eq_true rfl) rfl (Nat.le_of_ble_eq_true rfl) ⟨Nat.le_refl _, Nat.le_refl _⟩ (tX10_in  (fun hc4 => ?_) (fun hc4 => ?_))
        · have wp := wp.1 hc4
          show am_R E mX10_odds 33 [some (.ref 48), some (.int a1), some (.int a2), some (.int a3), some (.int a4), none, none, none] [.int 1] (hp I J b) 64 64 Q
          refine am_if_ne dX10_odds_33 (tgt := 39) rfl (fun _ => ?_) (fun hc => absurd hc (by decide))
          refine am_iconst 0 rfl dX10_odds_39 ?_
          refine am_istore (ls' := [some (.ref 48), some (.int a1), some (.int a2), some (.int a3), some (.int a4), some (.int 0), none, none]) (by decide) rfl rfl dX10_odds_40 ?_
          refine am_iconst 0 rfl dX10_odds_42 ?_
          refine am_istore (ls' := [some (.ref 48), some (.int a1), some (.int a2), some (.int a3), some (.int a4), some (.int 0), some (.int 0), none]) (by decide) rfl rfl dX10_odds_43 ?_
          refine am_iconst 0 rfl dX10_odds_45 ?_
          refine am_istore (ls' := [some (.ref 48), some (.int a1), some (.int a2), some (.int a3), some (.int a4), some (.int 0), some (.int 0), some (.int 0)]) (by decide) rfl rfl dX10_odds_46 ?_
          exact am_R.forget wp ⟨rfl, ⟨rfl, ⟨rfl, ⟨rfl, ⟨rfl, ⟨rfl, ⟨rfl, ⟨rfl, trivial⟩⟩⟩⟩⟩⟩⟩⟩
        · have wp := wp.2 hc4
          show am_R E mX10_odds 33 [some (.ref 48), some (.int a1), some (.int a2), some (.int a3), some (.int a4), none, none, none] [.int 0] (hp I J b) 64 64 Q
          refine am_if_ne dX10_odds_33 (tgt := 39) rfl (fun hc => absurd hc (by decide)) (fun _ => ?_)
          refine am_bipush (-3) rfl dX10_odds_36 ?_
          exact am_iret dX10_odds_38 rfl rfl wp
      · have wp := wp.2 hc3
        show am_R E mX10_odds 23 [some (.ref 48), some (.int a1), some (.int a2), some (.int a3), some (.int a4), none, none, none] [.int 0] (hp I J b) 64 64 Q
        refine am_if_eq dX10_odds_23 (tgt := 36) rfl (fun _ => ?_) (fun hc => absurd hc (by decide))
        refine am_bipush (-3) rfl dX10_odds_36 ?_
        exact am_iret dX10_odds_38 rfl rfl wp
    · have wp := wp.2 hc2
      show am_R E mX10_odds 13 [some (.ref 48), some (.int a1), some (.int a2), some (.int a3), some (.int a4), none, none, none] [.int 0] (hp I J b) 64 64 Q
      refine am_if_ne dX10_odds_13 (tgt := 19) rfl (fun hc => absurd hc (by decide)) (fun _ => ?_)
      refine am_bipush (-2) rfl dX10_odds_16 ?_
      exact am_iret dX10_odds_18 rfl rfl wp
  · have wp := wp.2 hc1
    show am_R E mX10_odds 5 [some (.ref 48), some (.int a1), some (.int a2), some (.int a3), some (.int a4), none, none, none] [.int 0] (hp I J b) 64 64 Q
    refine am_if_eq dX10_odds_5 (tgt := 16) rfl (fun _ => ?_) (fun hc => absurd hc (by decide))
    refine am_bipush (-2) rfl dX10_odds_16 ?_
    exact am_iret dX10_odds_18 rfl rfl wp
theorem bX10_odds_48 {E : Nat × (Nat → Int32)} {I : Nat → Nat → Int32} {J : Nat → Nat → Int64} {b : Bool} {a1 : Int32} {a2 : Int32} {a3 : Int32} {a4 : Int32} {a5 : Int32} {a6 : Int32} {a7 : Int32} {Q : Option Value → am_H → Prop}  (wp : ∃ j1, (I 48 0) = nI j1 ∧ j1 < 8 ∧ (((nI (fct j1)) ≤ a7 → ((¬ a6 = 0 → ((¬ a4 = 0 → am_R E mX10_divisor 0 [some (.int a5), some (.int a6), none, none, none] [] (hp I J b) 64 64 (fun r h' => am_R E mX10_odds 137 [none, none, none, none, none, none, none, none] (r.toList ++ [.int a6]) h' 64 64 Q)) ∧ (a4 = 0 → am_R E mX10_divisor 0 [some (.int a5), some (.int a6), none, none, none] [] (hp I J b) 64 64 (fun r h' => am_R E mX10_odds 137 [none, none, none, none, none, none, none, none] (r.toList ++ [.int a5]) h' 64 64 Q)))) ∧ (a6 = 0 → Q (some (.int (-4))) (hp I J b)))) ∧ (¬ (nI (fct j1)) ≤ a7 → am_R E mX10_takeDraw 0 [some (.ref 48), some (.int a7), none, none, none, none, none, none] [] (hp I J b) 64 64 (fun r h' => am_R E mX10_odds 66 [some (.ref 48), some (.int a1), some (.int a2), some (.int a3), some (.int a4), some (.int a5), some (.int a6), some (.int a7)] (r.toList ++ []) h' 64 64 Q)))) : am_R E mX10_odds 48 [some (.ref 48), some (.int a1), some (.int a2), some (.int a3), some (.int a4), some (.int a5), some (.int a6), some (.int a7)] [] (hp I J b) 64 64 Q := by
  refine am_iload rfl dX10_odds_48 ?_
  refine am_aload_n rfl rfl dX10_odds_50 ?_
  refine am_getI dX10_odds_51 flX10_7 (Or.inl rfl) rfl (by decide) ?_
  obtain ⟨j1, e1, w1, wp⟩ := wp
  refine am_invS (As := [.int (I 48 0)]) (lsZ := [some (.int (I 48 0)), none, none]) (st := [.int a7]) dX10_odds_54 hX10_draws lkX10_173 ⟨by decide, by decide⟩ rfl rfl (Nat.le_of_ble_eq_true rfl) rfl (Nat.le_of_ble_eq_true rfl) ⟨Nat.le_refl _, Nat.le_refl _⟩ (tX10_draws (n := j1) e1 (Nat.le_of_lt_succ w1) ?_)
  show am_R E mX10_odds 57 [some (.ref 48), some (.int a1), some (.int a2), some (.int a3), some (.int a4), some (.int a5), some (.int a6), some (.int a7)] [.int (nI (fct j1)), .int a7] (hp I J b) 64 64 Q
  refine am_icmp_ge dX10_odds_57 (tgt := 108) rfl (fun hc2 => ?_) (fun hc2 => ?_)
  · have wp := wp.1 hc2
    refine am_iload rfl dX10_odds_108 ?_
    refine am_if_ne dX10_odds_110 (tgt := 118) rfl (fun hc3 => ?_) (fun hc3 => ?_)
    · have wp := wp.1 hc3
      refine am_iload rfl dX10_odds_118 ?_
      refine am_if_ne dX10_odds_120 (tgt := 128) rfl (fun hc4 => ?_) (fun hc4 => ?_)
      · have wp := wp.1 hc4
        refine am_iload rfl dX10_odds_128 ?_
        refine am_iload rfl dX10_odds_130 ?_
        refine am_iload rfl dX10_odds_132 ?_
        refine am_invS (As := [.int a5, .int a6]) (lsZ := [some (.int a5), some (.int a6), none, none, none]) (st := [.int a6]) dX10_odds_134 hX10_divisor lkX10_233 ⟨by decide, by decide⟩ rfl rfl (Nat.le_of_ble_eq_true rfl) rfl (Nat.le_of_ble_eq_true rfl) ⟨Nat.le_refl _, Nat.le_refl _⟩ (am_R.mono wp (fun r h' q => am_R.forget q trivial))
      · have wp := wp.2 hc4
        refine am_iload rfl dX10_odds_123 ?_
        refine am_goto dX10_odds_125 (tgt := 130) rfl ?_
        refine am_iload rfl dX10_odds_130 ?_
        refine am_iload rfl dX10_odds_132 ?_
        refine am_invS (As := [.int a5, .int a6]) (lsZ := [some (.int a5), some (.int a6), none, none, none]) (st := [.int a5]) dX10_odds_134 hX10_divisor lkX10_233 ⟨by decide, by decide⟩ rfl rfl (Nat.le_of_ble_eq_true rfl) rfl (Nat.le_of_ble_eq_true rfl) ⟨Nat.le_refl _, Nat.le_refl _⟩ (am_R.mono wp (fun r h' q => am_R.forget q trivial))
    · have wp := wp.2 hc3
      refine am_bipush (-4) rfl dX10_odds_113 ?_
      refine am_goto dX10_odds_115 (tgt := 138) rfl ?_
      exact am_iret dX10_odds_138 rfl rfl wp
  · have wp := wp.2 hc2
    refine am_aload_n rfl rfl dX10_odds_60 ?_
    refine am_iload rfl dX10_odds_61 ?_
    refine am_invV (ci := 8) (As := [.int a7]) (lsZ := [some (.ref 48), some (.int a7), none, none, none, none, none, none]) (st := []) dX10_odds_63 hX10_takeDraw lkX10_177 ⟨by decide, by decide⟩ (by decide) rfl (by decide) rfl rfl rfl (Nat.le_of_ble_eq_true rfl) rfl (Nat.le_of_ble_eq_true rfl) ⟨Nat.le_refl _, Nat.le_refl _⟩ (am_R.mono wp (fun r h' q => am_R.forget q ⟨rfl, ⟨rfl, ⟨rfl, ⟨rfl, ⟨rfl, ⟨rfl, ⟨rfl, ⟨rfl, trivial⟩⟩⟩⟩⟩⟩⟩⟩))
theorem bX10_odds_66 {E : Nat × (Nat → Int32)} {I : Nat → Nat → Int32} {J : Nat → Nat → Int64} {b : Bool} {a1 : Int32} {a2 : Int32} {a3 : Int32} {a4 : Int32} {a5 : Int32} {a6 : Int32} {a7 : Int32} {Q : Option Value → am_H → Prop}  (wp : am_R E mX10_isLawful 0 [some (.ref 48), none, none] [] (hp I J b) 64 64 (fun r h' => am_R E mX10_odds 70 [some (.ref 48), some (.int a1), some (.int a2), some (.int a3), some (.int a4), some (.int a5), some (.int a6), some (.int a7)] (r.toList ++ []) h' 64 64 Q)) : am_R E mX10_odds 66 [some (.ref 48), some (.int a1), some (.int a2), some (.int a3), some (.int a4), some (.int a5), some (.int a6), some (.int a7)] [] (hp I J b) 64 64 Q := by
  refine am_aload_n rfl rfl dX10_odds_66 ?_
  refine am_invV (ci := 8) (As := []) (lsZ := [some (.ref 48), none, none]) (st := []) dX10_odds_67 hX10_isLawful lkX10_180 ⟨by decide, by decide⟩ (by decide) rfl (by decide) rfl rfl rfl (Nat.le_of_ble_eq_true rfl) rfl (Nat.le_of_ble_eq_true rfl) ⟨Nat.le_refl _, Nat.le_refl _⟩ (am_R.mono wp (fun r h' q => am_R.forget q ⟨rfl, ⟨rfl, ⟨rfl, ⟨rfl, ⟨rfl, ⟨rfl, ⟨rfl, ⟨rfl, trivial⟩⟩⟩⟩⟩⟩⟩⟩))
theorem bX10_odds_70 {E : Nat × (Nat → Int32)} {I : Nat → Nat → Int32} {J : Nat → Nat → Int64} {b : Bool} {a1 : Int32} {a2 : Int32} {a3 : Int32} {a4 : Int32} {a5 : Int32} {a6 : Int32} {a7 : Int32} {x0 : Int32} {Q : Option Value → am_H → Prop}  (wp : ((x0 = 0 → am_R E mX10_odds 48 [some (.ref 48), some (.int a1), some (.int a2), some (.int a3), some (.int a4), some (.int a5), some (.int a6), some (.int (a7 + 1))] [] (hp I J b) 64 64 Q) ∧ (¬ x0 = 0 → am_R E mX10_settleBy 0 [some (.ref 48), some (.int a3), none, none] [] (hp I J b) 64 64 (fun r h' => am_R E mX10_odds 78 [some (.ref 48), some (.int a1), some (.int a2), some (.int a3), some (.int a4), some (.int a5), some (.int a6), some (.int a7)] (r.toList ++ []) h' 64 64 Q)))) : am_R E mX10_odds 70 [some (.ref 48), some (.int a1), some (.int a2), some (.int a3), some (.int a4), some (.int a5), some (.int a6), some (.int a7)] [.int x0] (hp I J b) 64 64 Q := by
  refine am_if_eq dX10_odds_70 (tgt := 102) rfl (fun hc1 => ?_) (fun hc1 => ?_)
  · have wp := wp.1 hc1
    refine am_iinc (ls' := [some (.ref 48), some (.int a1), some (.int a2), some (.int a3), some (.int a4), some (.int a5), some (.int a6), some (.int (a7 + 1))]) (by decide) rfl rfl rfl dX10_odds_102 ?_
    refine am_goto dX10_odds_105 (tgt := 48) rfl ?_
    exact am_R.forget wp ⟨rfl, ⟨rfl, ⟨rfl, ⟨rfl, ⟨rfl, ⟨rfl, ⟨rfl, ⟨rfl, trivial⟩⟩⟩⟩⟩⟩⟩⟩
  · have wp := wp.2 hc1
    refine am_aload_n rfl rfl dX10_odds_73 ?_
    refine am_iload_n rfl rfl dX10_odds_74 ?_
    refine am_invV (ci := 8) (As := [.int a3]) (lsZ := [some (.ref 48), some (.int a3), none, none]) (st := []) dX10_odds_75 hX10_settleBy lkX10_221 ⟨by decide, by decide⟩ (by decide) rfl (by decide) rfl rfl rfl (Nat.le_of_ble_eq_true rfl) rfl (Nat.le_of_ble_eq_true rfl) ⟨Nat.le_refl _, Nat.le_refl _⟩ (am_R.mono wp (fun r h' q => am_R.forget q ⟨rfl, ⟨rfl, ⟨rfl, ⟨rfl, ⟨rfl, ⟨rfl, ⟨rfl, ⟨rfl, trivial⟩⟩⟩⟩⟩⟩⟩⟩))
theorem bX10_odds_78 {E : Nat × (Nat → Int32)} {I : Nat → Nat → Int32} {J : Nat → Nat → Int64} {b : Bool} {a1 : Int32} {a2 : Int32} {a3 : Int32} {a4 : Int32} {a5 : Int32} {a6 : Int32} {a7 : Int32} {x0 : Int32} {Q : Option Value → am_H → Prop}  (wp : ∃ j1, a1 = nI j1 ∧ j1 < 7 ∧ ((¬ (I 58 j1) = a2 → am_R E mX10_odds 48 [some (.ref 48), some (.int a1), some (.int a2), some (.int a3), some (.int a4), some (.int (a5 + 0)), some (.int (a6 + 1)), some (.int (a7 + 1))] [] (hp I J b) 64 64 Q) ∧ ((I 58 j1) = a2 → am_R E mX10_odds 48 [some (.ref 48), some (.int a1), some (.int a2), some (.int a3), some (.int a4), some (.int (a5 + 1)), some (.int (a6 + 1)), some (.int (a7 + 1))] [] (hp I J b) 64 64 Q))) : am_R E mX10_odds 78 [some (.ref 48), some (.int a1), some (.int a2), some (.int a3), some (.int a4), some (.int a5), some (.int a6), some (.int a7)] [.int x0] (hp I J b) 64 64 Q := by
  refine am_pop rfl dX10_odds_78 ?_
  refine am_iload rfl dX10_odds_79 ?_
  refine am_aload_n rfl rfl dX10_odds_81 ?_
  refine am_getA (r := 58) dX10_odds_82 flX10_45 (Or.inr ⟨_, rfl⟩) rfl (by decide) rfl ?_
  refine am_iload_n rfl rfl dX10_odds_85 ?_
  obtain ⟨j1, e1, w1, wp⟩ := wp
  refine am_ialdN (j := j1) dX10_odds_86 rfl (by decide) e1 w1 (by decide) ?_
  refine am_iload_n rfl rfl dX10_odds_87 ?_
  refine am_icmp_ne dX10_odds_88 (tgt := 95) rfl (fun hc2 => ?_) (fun hc2 => ?_)
  · have wp := wp.1 hc2
    refine am_iconst 0 rfl dX10_odds_95 ?_
    refine am_iadd dX10_odds_96 ?_
    refine am_istore (ls' := [some (.ref 48), some (.int a1), some (.int a2), some (.int a3), some (.int a4), some (.int (a5 + 0)), some (.int a6), some (.int a7)]) (by decide) rfl rfl dX10_odds_97 ?_
    refine am_iinc (ls' := [some (.ref 48), some (.int a1), some (.int a2), some (.int a3), some (.int a4), some (.int (a5 + 0)), some (.int (a6 + 1)), some (.int a7)]) (by decide) rfl rfl rfl dX10_odds_99 ?_
    refine am_iinc (ls' := [some (.ref 48), some (.int a1), some (.int a2), some (.int a3), some (.int a4), some (.int (a5 + 0)), some (.int (a6 + 1)), some (.int (a7 + 1))]) (by decide) rfl rfl rfl dX10_odds_102 ?_
    refine am_goto dX10_odds_105 (tgt := 48) rfl ?_
    exact am_R.forget wp ⟨rfl, ⟨rfl, ⟨rfl, ⟨rfl, ⟨rfl, ⟨rfl, ⟨rfl, ⟨rfl, trivial⟩⟩⟩⟩⟩⟩⟩⟩
  · have wp := wp.2 hc2
    refine am_iconst 1 rfl dX10_odds_91 ?_
    refine am_goto dX10_odds_92 (tgt := 96) rfl ?_
    refine am_iadd dX10_odds_96 ?_
    refine am_istore (ls' := [some (.ref 48), some (.int a1), some (.int a2), some (.int a3), some (.int a4), some (.int (a5 + 1)), some (.int a6), some (.int a7)]) (by decide) rfl rfl dX10_odds_97 ?_
    refine am_iinc (ls' := [some (.ref 48), some (.int a1), some (.int a2), some (.int a3), some (.int a4), some (.int (a5 + 1)), some (.int (a6 + 1)), some (.int a7)]) (by decide) rfl rfl rfl dX10_odds_99 ?_
    refine am_iinc (ls' := [some (.ref 48), some (.int a1), some (.int a2), some (.int a3), some (.int a4), some (.int (a5 + 1)), some (.int (a6 + 1)), some (.int (a7 + 1))]) (by decide) rfl rfl rfl dX10_odds_102 ?_
    refine am_goto dX10_odds_105 (tgt := 48) rfl ?_
    exact am_R.forget wp ⟨rfl, ⟨rfl, ⟨rfl, ⟨rfl, ⟨rfl, ⟨rfl, ⟨rfl, ⟨rfl, trivial⟩⟩⟩⟩⟩⟩⟩⟩
theorem bX10_odds_137 {E : Nat × (Nat → Int32)} {I : Nat → Nat → Int32} {J : Nat → Nat → Int64} {b : Bool} {x0 : Int32} {x1 : Int32} {Q : Option Value → am_H → Prop}  (wp : ¬ x0 = 0 ∧ Q (some (.int (x1 / x0))) (hp I J b)) : am_R E mX10_odds 137 [none, none, none, none, none, none, none, none] [.int x0, .int x1] (hp I J b) 64 64 Q := by
  obtain ⟨w1, wp⟩ := wp
  refine am_idiv w1 dX10_odds_137 ?_
  exact am_iret dX10_odds_138 rfl rfl wp
theorem tX10_odds48 {by' S m d : Nat} {a1 a2 a3 a4 : Int32} (hN : Nn I n) (hY : Yw I n) (hL : Lk I) (hb : by' ≤ 3) (em : a1 = nI m) (hm : m < n) (ed : a2 = nI d) (hd : d < n) (eb : a3 = nI by') (hS : S < 2 ^ 31) (eS : sHad I n by' m d = nI S) (k : ∀ I2, Am I I2 → Q (some (.int (mval a4 S (fb_ct (lc I n) (fct n))))) (hp I2 J b)) : am_R E mX10_odds 48 [some (.ref 48), some (.int a1), some (.int a2), some (.int a3), some (.int a4), some (.int 0), some (.int 0), some (.int 0)] [] (hp I J b) 64 64 Q := by
  subst eb; subst em; subst ed
  have n7 := hN.2.2
  have hfl := fct_le n (by omega)
  have hM := fb_ct_le (lc I n) (fct n)
  have loop : ∀ j c, c + j = fct n → ∀ I1, Am I I1 → am_R E mX10_odds 48 [some (.ref 48), some (.int (nI m)), some (.int (nI d)), some (.int (nI by')), some (.int a4), some (.int (sI (lc I n) (fun c => if sr I n by' c m = d then 1 else 0) c)), some (.int (nI (fb_ct (lc I n) c))), some (.int (nI c))] [] (hp I1 J b) 64 64 Q := by
    intro j
    induction j with
    | zero =>
      intro c hc I1 hA
      have e : c = fct n := by omega
      subst e
      have kk := k I1 hA
      unfold mval at kk
      unfold sHad at eS
      rw [eS]
      refine bX10_odds_48 ⟨n, (hA.Nn hN).1, by omega, le_br rfl rfl (by omega) (by omega) (fun _ => ?_) (fun q => by omega)⟩
      refine ne_br (m := 0) rfl rfl (by omega) (by omega) (fun q => by rw [if_pos q] at kk; exact kk) (fun q => ?_)
      rw [if_neg q] at kk
      have hg : 0 < Nat.gcd S (fb_ct (lc I n) (fct n)) := Nat.gcd_pos_of_pos_right _ (by omega)
      have hg2 := Nat.gcd_le_right (n := fb_ct (lc I n) (fct n)) S (by omega)
      refine ⟨fun z => ?_, fun z => ?_⟩
      · rw [if_neg z] at kk
        refine tX10_divisor rfl rfl hS (by omega) (bX10_odds_137 ⟨nI_ne0 hg (by omega), ?_⟩)
        rw [pk_div (by omega) hg (by omega)]; exact kk
      · rw [if_pos z] at kk
        refine tX10_divisor rfl rfl hS (by omega) (bX10_odds_137 ⟨nI_ne0 hg (by omega), ?_⟩)
        rw [pk_div hS hg (by omega)]; exact kk
    | succ j ih =>
      intro c hc I1 hA
      refine bX10_odds_48 ⟨n, (hA.Nn hN).1, by omega, le_br rfl rfl (by omega) (by omega) (fun q => by omega) (fun _ => ?_)⟩
      refine tX10_takeDraw (n := n) (hA.Nn hN) rfl (by omega) (fun f hf => bX10_odds_66 ?_)
      have hA2 : Am I (u1 I1 58 f) := hA.u1
      refine tX10_isLawful (n := n) (p := ur n c) (hA2.Nn hN) (hA2.Yw hY) (by rw [u1_s]; exact hf) (fun q => bX10_odds_70 (z01 rfl ?_)) (fun q => bX10_odds_70 (z00 rfl ?_))
      · rw [hA2.my] at q
        have hl : lc I n c = true := decide_eq_true q
        refine tX10_settleBy (n := n) (by' := by') (p := ur n c) (hA2.Nn hN) (hA2.Yw hY) (hA2.Lk hL) (by rw [u1_s]; exact hf) rfl hb (fun f2 x y z hf2 => bX10_odds_78 ⟨m, rfl, by omega, ?_⟩)
        rw [hA2.stR] at hf2
        rw [u1_u1]
        have hA3 : Am I (rg (u1 I1 58 f2) x y z) := (hA.u1).rg
        have h58 : rg (u1 I1 58 f2) x y z 58 m = nI (sr I n by' c m) := (hf2 m hm).1
        have hlt : sr I n by' c m < n := (hf2 m hm).2
        have nxt := ih (c + 1) (by omega) _ hA3
        rw [fb_ct_succ, sI, hl] at nxt
        rw [n1, n1]
        refine ne_br (n := sr I n by' c m) (m := d) h58 rfl (by omega) (by omega) (fun z => ?_) (fun z => ?_)
        · rw [if_pos rfl, if_pos z] at nxt; exact nxt
        · rw [if_pos rfl, if_neg z] at nxt; exact nxt
      · rw [hA2.my] at q
        have hl : lc I n c = false := decide_eq_false q
        have nxt := ih (c + 1) (by omega) _ hA2
        rw [fb_ct_succ, sI, hl] at nxt
        rw [n1]; exact nxt
  exact loop (fct n) 0 (by omega) I (Am.rf I)
theorem bX9_oddsA_0 {E : Nat × (Nat → Int32)} {I : Nat → Nat → Int32} {J : Nat → Nat → Int64} {b : Bool} {a1 : Int32} {a2 : Int32} {a3 : Int32} {a4 : Int32} {Q : Option Value → am_H → Prop}  (wp : (((0 ≤ a1 ∧ a1 < (I 4 0)) → (((0 ≤ a2 ∧ a2 < (I 4 0)) → (((a3 = 0 ∨ a3 = 2 ∨ a3 = 3) → (((a4 = 0 ∨ a4 = 1) → am_R E mX9_tallyOf 0 [some (.ref 0), some (.int a3), none] [] (hp I J b) 64 64 (fun r h' => am_R E mX9_odds 42 [none, some (.int a1), some (.int a2), none, some (.int a4), none] (r.toList ++ []) h' 64 64 Q)) ∧ (¬ (a4 = 0 ∨ a4 = 1) → Q (some (.int (-3))) (hp I J b)))) ∧ (¬ (a3 = 0 ∨ a3 = 2 ∨ a3 = 3) → Q (some (.int (-3))) (hp I J b)))) ∧ (¬ (0 ≤ a2 ∧ a2 < (I 4 0)) → Q (some (.int (-2))) (hp I J b)))) ∧ (¬ (0 ≤ a1 ∧ a1 < (I 4 0)) → Q (some (.int (-2))) (hp I J b)))) : am_R E mX9_odds 0 [some (.ref 0), some (.int a1), some (.int a2), some (.int a3), some (.int a4), none] [] (hp I J b) 64 64 Q := by
  refine am_aload_n rfl rfl dX9_odds_0 ?_
  refine am_iload_n rfl rfl dX9_odds_1 ?_
  refine am_invV (ci := 7) (As := [.int a1]) (lsZ := [some (.ref 0), some (.int a1)]) (st := []) dX9_odds_2 hX9_isThere lkX9_122 ⟨by decide, by decide⟩ (by decide) rfl (by decide) rfl rfl rfl (Nat.le_of_ble_eq_true rfl) rfl (Nat.le_of_ble_eq_true rfl) ⟨Nat.le_refl _, Nat.le_refl _⟩ (tX9_isThere  (fun hc1 => ?_) (fun hc1 => ?_))
  · have wp := wp.1 hc1
    show am_R E mX9_odds 5 [some (.ref 0), some (.int a1), some (.int a2), some (.int a3), some (.int a4), none] [.int 1] (hp I J b) 64 64 Q
    refine am_if_eq dX9_odds_5 (tgt := 16) rfl (fun hc => absurd hc (by decide)) (fun _ => ?_)
    refine am_aload_n rfl rfl dX9_odds_8 ?_
    refine am_iload_n rfl rfl dX9_odds_9 ?_
    refine am_invV (ci := 7) (As := [.int a2]) (lsZ := [some (.ref 0), some (.int a2)]) (st := []) dX9_odds_10 hX9_isThere lkX9_122 ⟨by decide, by decide⟩ (by decide) rfl (by decide) rfl rfl rfl (Nat.le_of_ble_eq_true rfl) rfl (Nat.le_of_ble_eq_true rfl) ⟨Nat.le_refl _, Nat.le_refl _⟩ (tX9_isThere  (fun hc2 => ?_) (fun hc2 => ?_))
    · have wp := wp.1 hc2
      show am_R E mX9_odds 13 [some (.ref 0), some (.int a1), some (.int a2), some (.int a3), some (.int a4), none] [.int 1] (hp I J b) 64 64 Q
      refine am_if_ne dX9_odds_13 (tgt := 19) rfl (fun _ => ?_) (fun hc => absurd hc (by decide))
      refine am_iload_n rfl rfl dX9_odds_19 ?_
      refine am_invS (As := [.int a3]) (lsZ := [some (.int a3)]) (st := []) dX9_odds_20 hX9_isRing lkX9_221 ⟨by decide, by decide⟩ rfl rfl (Nat.le_of_ble_eq_true rfl) rfl (Nat.le_of_ble_eq_true rfl) ⟨Nat.le_refl _, Nat.le_refl _⟩ (tX9_isRing  (fun hc3 => ?_) (fun hc3 => ?_))
      · have wp := wp.1 hc3
        show am_R E mX9_odds 23 [some (.ref 0), some (.int a1), some (.int a2), some (.int a3), some (.int a4), none] [.int 1] (hp I J b) 64 64 Q
        refine am_if_eq dX9_odds_23 (tgt := 34) rfl (fun hc => absurd hc (by decide)) (fun _ => ?_)
        refine am_iload rfl dX9_odds_26 ?_
        refine am_invS (As := [.int a4]) (lsZ := [some (.int a4)]) (st := []) dX9_odds_28 hX9_isPart lkX9_224 ⟨by decide, by decide⟩ rfl rfl (Nat.le_of_ble_eq_true rfl) rfl (Nat.le_of_ble_eq_true rfl) ⟨Nat.le_refl _, Nat.le_refl _⟩ (tX9_isPart  (fun hc4 => ?_) (fun hc4 => ?_))
        · have wp := wp.1 hc4
          show am_R E mX9_odds 31 [some (.ref 0), some (.int a1), some (.int a2), some (.int a3), some (.int a4), none] [.int 1] (hp I J b) 64 64 Q
          refine am_if_ne dX9_odds_31 (tgt := 37) rfl (fun _ => ?_) (fun hc => absurd hc (by decide))
          refine am_aload_n rfl rfl dX9_odds_37 ?_
          refine am_iload_n rfl rfl dX9_odds_38 ?_
          refine am_invV (ci := 7) (As := [.int a3]) (lsZ := [some (.ref 0), some (.int a3), none]) (st := []) dX9_odds_39 hX9_tallyOf lkX9_214 ⟨by decide, by decide⟩ (by decide) rfl (by decide) rfl rfl rfl (Nat.le_of_ble_eq_true rfl) rfl (Nat.le_of_ble_eq_true rfl) ⟨Nat.le_refl _, Nat.le_refl _⟩ (am_R.mono wp (fun r h' q => am_R.forget q ⟨rfl, ⟨rfl, ⟨rfl, trivial⟩⟩⟩))
        · have wp := wp.2 hc4
          show am_R E mX9_odds 31 [some (.ref 0), some (.int a1), some (.int a2), some (.int a3), some (.int a4), none] [.int 0] (hp I J b) 64 64 Q
          refine am_if_ne dX9_odds_31 (tgt := 37) rfl (fun hc => absurd hc (by decide)) (fun _ => ?_)
          refine am_bipush (-3) rfl dX9_odds_34 ?_
          exact am_iret dX9_odds_36 rfl rfl wp
      · have wp := wp.2 hc3
        show am_R E mX9_odds 23 [some (.ref 0), some (.int a1), some (.int a2), some (.int a3), some (.int a4), none] [.int 0] (hp I J b) 64 64 Q
        refine am_if_eq dX9_odds_23 (tgt := 34) rfl (fun _ => ?_) (fun hc => absurd hc (by decide))
        refine am_bipush (-3) rfl dX9_odds_34 ?_
        exact am_iret dX9_odds_36 rfl rfl wp
    · have wp := wp.2 hc2
      show am_R E mX9_odds 13 [some (.ref 0), some (.int a1), some (.int a2), some (.int a3), some (.int a4), none] [.int 0] (hp I J b) 64 64 Q
      refine am_if_ne dX9_odds_13 (tgt := 19) rfl (fun hc => absurd hc (by decide)) (fun _ => ?_)
      refine am_bipush (-2) rfl dX9_odds_16 ?_
      exact am_iret dX9_odds_18 rfl rfl wp
  · have wp := wp.2 hc1
    show am_R E mX9_odds 5 [some (.ref 0), some (.int a1), some (.int a2), some (.int a3), some (.int a4), none] [.int 0] (hp I J b) 64 64 Q
    refine am_if_eq dX9_odds_5 (tgt := 16) rfl (fun _ => ?_) (fun hc => absurd hc (by decide))
    refine am_bipush (-2) rfl dX9_odds_16 ?_
    exact am_iret dX9_odds_18 rfl rfl wp
theorem bX9_oddsA_42 {E : Nat × (Nat → Int32)} {I : Nat → Nat → Int32} {J : Nat → Nat → Int64} {b : Bool} {a1 : Int32} {a2 : Int32} {a4 : Int32} {Q : Option Value → am_H → Prop}  (wp : ((¬ (I 27 4) = 0 → ∃ j2, ((a1 * 7) + a2) = nI j2 ∧ j2 < 49 ∧ am_R E mX0_lowest 0 [some (.long (Int32.toInt64 (I 29 j2))), none, some (.long (Int32.toInt64 (I 27 4))), none, some (.int a4), none, none, none, none, none, none, none] [] (hp I J b) 64 64 (fun r h' => am_R E mX9_odds 78 [none, none, none, none, none, none] (r.toList ++ []) h' 64 64 Q)) ∧ ((I 27 4) = 0 → Q (some (.int (-4))) (hp I J b)))) : am_R E mX9_odds 42 [none, some (.int a1), some (.int a2), none, some (.int a4), none] [.ref 27] (hp I J b) 64 64 Q := by
  refine am_astore (ls' := [none, some (.int a1), some (.int a2), none, some (.int a4), some (.ref 27)]) (by decide) rfl rfl dX9_odds_42 ?_
  refine am_aload rfl dX9_odds_44 ?_
  refine am_getI dX9_odds_46 flX9_218 (Or.inl rfl) rfl (by decide) ?_
  refine am_if_ne dX9_odds_49 (tgt := 55) rfl (fun hc1 => ?_) (fun hc1 => ?_)
  · have wp := wp.1 hc1
    refine am_aload rfl dX9_odds_55 ?_
    refine am_getA (r := 29) dX9_odds_57 flX9_237 (Or.inr ⟨_, rfl⟩) rfl (by decide) rfl ?_
    refine am_iload_n rfl rfl dX9_odds_60 ?_
    refine am_iload_n rfl rfl dX9_odds_61 ?_
    refine am_invS (As := [.int a1, .int a2]) (lsZ := [some (.int a1), some (.int a2)]) (st := [.ref 29]) dX9_odds_62 hX2_cell lkX9_240 ⟨by decide, by decide⟩ rfl rfl (Nat.le_of_ble_eq_true rfl) rfl (Nat.le_of_ble_eq_true rfl) ⟨Nat.le_refl _, Nat.le_refl _⟩ (tX2_cell (by decide)  ?_)
    show am_R E mX9_odds 65 [none, some (.int a1), some (.int a2), none, some (.int a4), some (.ref 27)] [.int ((a1 * 7) + a2), .ref 29] (hp I J b) 64 64 Q
    obtain ⟨j2, e2, w2, wp⟩ := wp
    refine am_ialdN (j := j2) dX9_odds_65 rfl (by decide) e2 w2 (by decide) ?_
    refine am_i2l dX9_odds_66 ?_
    refine am_aload rfl dX9_odds_67 ?_
    refine am_getI dX9_odds_69 flX9_218 (Or.inl rfl) rfl (by decide) ?_
    refine am_i2l dX9_odds_72 ?_
    refine am_iload rfl dX9_odds_73 ?_
    refine am_invS (As := [.long (Int32.toInt64 (I 29 j2)), .long (Int32.toInt64 (I 27 4)), .int a4]) (lsZ := [some (.long (Int32.toInt64 (I 29 j2))), none, some (.long (Int32.toInt64 (I 27 4))), none, some (.int a4), none, none, none, none, none, none, none]) (st := []) dX9_odds_75 hX0_lowest lkX9_231 ⟨by decide, by decide⟩ rfl rfl (Nat.le_of_ble_eq_true rfl) rfl (Nat.le_of_ble_eq_true rfl) ⟨Nat.le_refl _, Nat.le_refl _⟩ (am_R.mono wp (fun r h' q => am_R.forget q trivial))
  · have wp := wp.2 hc1
    refine am_bipush (-4) rfl dX9_odds_52 ?_
    exact am_iret dX9_odds_54 rfl rfl wp
theorem bX9_oddsA_78 {E : Nat × (Nat → Int32)} {I : Nat → Nat → Int32} {J : Nat → Nat → Int64} {b : Bool} {x0 : Int64} {Q : Option Value → am_H → Prop}  (wp : Q (some (.int (Int64.toInt32 x0))) (hp I J b)) : am_R E mX9_odds 78 [none, none, none, none, none, none] [.long x0] (hp I J b) 64 64 Q := by
  refine am_l2i dX9_odds_78 ?_
  exact am_iret dX9_odds_79 rfl rfl wp
theorem p_odds0 (hI : Inv I n) (m d : Nat) (hm : m < n) (hd : d < n) (h1 : 0 ≤ nI m ∧ nI m < nI n) (h2 : 0 ≤ nI d ∧ nI d < nI n) (a4 : Int32) (hp' : a4 = 0 ∨ a4 = 1) : Pair E mX9_odds mX10_odds [some (.ref 0), some (.int (nI m)), some (.int (nI d)), some (.int 0), some (.int a4), none] [some (.ref 48), some (.int (nI m)), some (.int (nI d)), some (.int 0), some (.int a4), none, none, none] I J b := by
  have hN := hI.1.1
  have n7 := hN.2.2
  have hY : Yw I n := hI.1.2.2.2.2.2.2.1.2.2.1
  have hL := hI.1.2.2.2.1
  have e0 : I 4 0 = nI n := hI.2.1.1
  have hfl := fct_le n (by omega)
  have hM := fb_ct_le (lc I n) (fct n)
  obtain ⟨S, hS, eS⟩ := had_ex (I := I) (n := n) (by' := 0) (m := m) (d := d) n7
  refine ⟨.int (mval a4 S (fb_ct (lc I n) (fct n))), fun I1 => Ag (tS 27 28 29) I I1 ∧ I1 27 1 = nI 0 ∧ I1 27 3 = 1 ∧ Tl I n 0 (I1 27) (I1 29), fun Q h => ?_, fun I1 J1 b1 e Q h => ?_⟩
  · refine bX9_oddsA_0 ?_
    rw [e0]
    refine ⟨fun _ => ⟨fun _ => ⟨fun _ => ⟨fun _ => ?_, fun q => absurd hp' q⟩, fun q => absurd (Or.inl rfl) q⟩, fun q => absurd h2 q⟩, fun q => absurd h1 q⟩
    refine tX9_tallyOf0 hI rfl (fun I1 a1 a2' a3' a4' => bX9_oddsA_42 ?_)
    have kk := h I1 J b ⟨a1, a2', a3', a4'⟩
    unfold mval at kk
    rw [a4'.1]
    refine ne_br (m := 0) rfl rfl (by omega) (by omega) (fun q => by rw [if_pos q] at kk; exact kk) (fun q => ⟨7 * m + d, k7' m d, by omega, ?_⟩)
    rw [if_neg q] at kk
    have e5 : Int32.toInt64 (I1 29 (7 * m + d)) = lN S := by rw [a4'.2.2.2 m hm d hd, eS]; exact nI_l hS
    have e4 : Int32.toInt64 (nI (fb_ct (lc I n) (fct n))) = lN (fb_ct (lc I n) (fct n)) := nI_l (by omega)
    refine tX0_lowest e5 e4 (by omega) (by omega) hp' (fun z => bX9_oddsA_78 ?_) (fun z => bX9_oddsA_78 ?_) (by omega)
    · rw [lN_i]; rw [if_pos z] at kk; exact kk
    · rw [lN_i]; rw [if_neg (by rw [z]; decide)] at kk; exact kk
  · obtain ⟨a1, a2', a3', a4'⟩ := e
    obtain ⟨q1, q2, q3, q4, q5, q6, q7⟩ := a1.m (n := n) (Or.inl ⟨rfl, rfl, rfl⟩) hN hY hL
    refine bX10_odds_0 ?_
    rw [q1.1]
    refine ⟨fun _ => ⟨fun _ => ⟨fun _ => ⟨fun _ => ?_, fun q => absurd (in_01i.mpr hp') q⟩, fun q => absurd (Or.inl rfl) q⟩, fun q => absurd ((in_mod (by omega) n7).mpr h2) q⟩, fun q => absurd ((in_mod (by omega) n7).mpr h1) q⟩
    refine tX10_odds48 (n := n) (by' := 0) (S := S) (m := m) (d := d) q1 q2 q3 (by omega) rfl hm rfl hd rfl hS (by unfold sHad; rw [q4, q5]; exact eS) (fun I2 hm2 => ?_)
    rw [q4]
    exact h I2 J1 b1 n (Inv.t0 hI a1 a2' a3' a4' hm2)
theorem bX9_oddsB_0 {E : Nat × (Nat → Int32)} {I : Nat → Nat → Int32} {J : Nat → Nat → Int64} {b : Bool} {a1 : Int32} {a2 : Int32} {a3 : Int32} {a4 : Int32} {Q : Option Value → am_H → Prop}  (wp : (((0 ≤ a1 ∧ a1 < (I 4 0)) → (((0 ≤ a2 ∧ a2 < (I 4 0)) → (((a3 = 0 ∨ a3 = 2 ∨ a3 = 3) → (((a4 = 0 ∨ a4 = 1) → am_R E mX9_tallyOf 0 [some (.ref 0), some (.int a3), none] [] (hp I J b) 64 64 (fun r h' => am_R E mX9_odds 42 [none, some (.int a1), some (.int a2), none, some (.int a4), none] (r.toList ++ []) h' 64 64 Q)) ∧ (¬ (a4 = 0 ∨ a4 = 1) → Q (some (.int (-3))) (hp I J b)))) ∧ (¬ (a3 = 0 ∨ a3 = 2 ∨ a3 = 3) → Q (some (.int (-3))) (hp I J b)))) ∧ (¬ (0 ≤ a2 ∧ a2 < (I 4 0)) → Q (some (.int (-2))) (hp I J b)))) ∧ (¬ (0 ≤ a1 ∧ a1 < (I 4 0)) → Q (some (.int (-2))) (hp I J b)))) : am_R E mX9_odds 0 [some (.ref 0), some (.int a1), some (.int a2), some (.int a3), some (.int a4), none] [] (hp I J b) 64 64 Q := by
  refine am_aload_n rfl rfl dX9_odds_0 ?_
  refine am_iload_n rfl rfl dX9_odds_1 ?_
  refine am_invV (ci := 7) (As := [.int a1]) (lsZ := [some (.ref 0), some (.int a1)]) (st := []) dX9_odds_2 hX9_isThere lkX9_122 ⟨by decide, by decide⟩ (by decide) rfl (by decide) rfl rfl rfl (Nat.le_of_ble_eq_true rfl) rfl (Nat.le_of_ble_eq_true rfl) ⟨Nat.le_refl _, Nat.le_refl _⟩ (tX9_isThere  (fun hc1 => ?_) (fun hc1 => ?_))
  · have wp := wp.1 hc1
    show am_R E mX9_odds 5 [some (.ref 0), some (.int a1), some (.int a2), some (.int a3), some (.int a4), none] [.int 1] (hp I J b) 64 64 Q
    refine am_if_eq dX9_odds_5 (tgt := 16) rfl (fun hc => absurd hc (by decide)) (fun _ => ?_)
    refine am_aload_n rfl rfl dX9_odds_8 ?_
    refine am_iload_n rfl rfl dX9_odds_9 ?_
    refine am_invV (ci := 7) (As := [.int a2]) (lsZ := [some (.ref 0), some (.int a2)]) (st := []) dX9_odds_10 hX9_isThere lkX9_122 ⟨by decide, by decide⟩ (by decide) rfl (by decide) rfl rfl rfl (Nat.le_of_ble_eq_true rfl) rfl (Nat.le_of_ble_eq_true rfl) ⟨Nat.le_refl _, Nat.le_refl _⟩ (tX9_isThere  (fun hc2 => ?_) (fun hc2 => ?_))
    · have wp := wp.1 hc2
      show am_R E mX9_odds 13 [some (.ref 0), some (.int a1), some (.int a2), some (.int a3), some (.int a4), none] [.int 1] (hp I J b) 64 64 Q
      refine am_if_ne dX9_odds_13 (tgt := 19) rfl (fun _ => ?_) (fun hc => absurd hc (by decide))
      refine am_iload_n rfl rfl dX9_odds_19 ?_
      refine am_invS (As := [.int a3]) (lsZ := [some (.int a3)]) (st := []) dX9_odds_20 hX9_isRing lkX9_221 ⟨by decide, by decide⟩ rfl rfl (Nat.le_of_ble_eq_true rfl) rfl (Nat.le_of_ble_eq_true rfl) ⟨Nat.le_refl _, Nat.le_refl _⟩ (tX9_isRing  (fun hc3 => ?_) (fun hc3 => ?_))
      · have wp := wp.1 hc3
        show am_R E mX9_odds 23 [some (.ref 0), some (.int a1), some (.int a2), some (.int a3), some (.int a4), none] [.int 1] (hp I J b) 64 64 Q
        refine am_if_eq dX9_odds_23 (tgt := 34) rfl (fun hc => absurd hc (by decide)) (fun _ => ?_)
        refine am_iload rfl dX9_odds_26 ?_
        refine am_invS (As := [.int a4]) (lsZ := [some (.int a4)]) (st := []) dX9_odds_28 hX9_isPart lkX9_224 ⟨by decide, by decide⟩ rfl rfl (Nat.le_of_ble_eq_true rfl) rfl (Nat.le_of_ble_eq_true rfl) ⟨Nat.le_refl _, Nat.le_refl _⟩ (tX9_isPart  (fun hc4 => ?_) (fun hc4 => ?_))
        · have wp := wp.1 hc4
          show am_R E mX9_odds 31 [some (.ref 0), some (.int a1), some (.int a2), some (.int a3), some (.int a4), none] [.int 1] (hp I J b) 64 64 Q
          refine am_if_ne dX9_odds_31 (tgt := 37) rfl (fun _ => ?_) (fun hc => absurd hc (by decide))
          refine am_aload_n rfl rfl dX9_odds_37 ?_
          refine am_iload_n rfl rfl dX9_odds_38 ?_
          refine am_invV (ci := 7) (As := [.int a3]) (lsZ := [some (.ref 0), some (.int a3), none]) (st := []) dX9_odds_39 hX9_tallyOf lkX9_214 ⟨by decide, by decide⟩ (by decide) rfl (by decide) rfl rfl rfl (Nat.le_of_ble_eq_true rfl) rfl (Nat.le_of_ble_eq_true rfl) ⟨Nat.le_refl _, Nat.le_refl _⟩ (am_R.mono wp (fun r h' q => am_R.forget q ⟨rfl, ⟨rfl, ⟨rfl, trivial⟩⟩⟩))
        · have wp := wp.2 hc4
          show am_R E mX9_odds 31 [some (.ref 0), some (.int a1), some (.int a2), some (.int a3), some (.int a4), none] [.int 0] (hp I J b) 64 64 Q
          refine am_if_ne dX9_odds_31 (tgt := 37) rfl (fun hc => absurd hc (by decide)) (fun _ => ?_)
          refine am_bipush (-3) rfl dX9_odds_34 ?_
          exact am_iret dX9_odds_36 rfl rfl wp
      · have wp := wp.2 hc3
        show am_R E mX9_odds 23 [some (.ref 0), some (.int a1), some (.int a2), some (.int a3), some (.int a4), none] [.int 0] (hp I J b) 64 64 Q
        refine am_if_eq dX9_odds_23 (tgt := 34) rfl (fun _ => ?_) (fun hc => absurd hc (by decide))
        refine am_bipush (-3) rfl dX9_odds_34 ?_
        exact am_iret dX9_odds_36 rfl rfl wp
    · have wp := wp.2 hc2
      show am_R E mX9_odds 13 [some (.ref 0), some (.int a1), some (.int a2), some (.int a3), some (.int a4), none] [.int 0] (hp I J b) 64 64 Q
      refine am_if_ne dX9_odds_13 (tgt := 19) rfl (fun hc => absurd hc (by decide)) (fun _ => ?_)
      refine am_bipush (-2) rfl dX9_odds_16 ?_
      exact am_iret dX9_odds_18 rfl rfl wp
  · have wp := wp.2 hc1
    show am_R E mX9_odds 5 [some (.ref 0), some (.int a1), some (.int a2), some (.int a3), some (.int a4), none] [.int 0] (hp I J b) 64 64 Q
    refine am_if_eq dX9_odds_5 (tgt := 16) rfl (fun _ => ?_) (fun hc => absurd hc (by decide))
    refine am_bipush (-2) rfl dX9_odds_16 ?_
    exact am_iret dX9_odds_18 rfl rfl wp
theorem bX9_oddsB_42 {E : Nat × (Nat → Int32)} {I : Nat → Nat → Int32} {J : Nat → Nat → Int64} {b : Bool} {a1 : Int32} {a2 : Int32} {a4 : Int32} {Q : Option Value → am_H → Prop}  (wp : ((¬ (I 30 4) = 0 → ∃ j2, ((a1 * 7) + a2) = nI j2 ∧ j2 < 49 ∧ am_R E mX0_lowest 0 [some (.long (Int32.toInt64 (I 32 j2))), none, some (.long (Int32.toInt64 (I 30 4))), none, some (.int a4), none, none, none, none, none, none, none] [] (hp I J b) 64 64 (fun r h' => am_R E mX9_odds 78 [none, none, none, none, none, none] (r.toList ++ []) h' 64 64 Q)) ∧ ((I 30 4) = 0 → Q (some (.int (-4))) (hp I J b)))) : am_R E mX9_odds 42 [none, some (.int a1), some (.int a2), none, some (.int a4), none] [.ref 30] (hp I J b) 64 64 Q := by
  refine am_astore (ls' := [none, some (.int a1), some (.int a2), none, some (.int a4), some (.ref 30)]) (by decide) rfl rfl dX9_odds_42 ?_
  refine am_aload rfl dX9_odds_44 ?_
  refine am_getI dX9_odds_46 flX9_218 (Or.inl rfl) rfl (by decide) ?_
  refine am_if_ne dX9_odds_49 (tgt := 55) rfl (fun hc1 => ?_) (fun hc1 => ?_)
  · have wp := wp.1 hc1
    refine am_aload rfl dX9_odds_55 ?_
    refine am_getA (r := 32) dX9_odds_57 flX9_237 (Or.inr ⟨_, rfl⟩) rfl (by decide) rfl ?_
    refine am_iload_n rfl rfl dX9_odds_60 ?_
    refine am_iload_n rfl rfl dX9_odds_61 ?_
    refine am_invS (As := [.int a1, .int a2]) (lsZ := [some (.int a1), some (.int a2)]) (st := [.ref 32]) dX9_odds_62 hX2_cell lkX9_240 ⟨by decide, by decide⟩ rfl rfl (Nat.le_of_ble_eq_true rfl) rfl (Nat.le_of_ble_eq_true rfl) ⟨Nat.le_refl _, Nat.le_refl _⟩ (tX2_cell (by decide)  ?_)
    show am_R E mX9_odds 65 [none, some (.int a1), some (.int a2), none, some (.int a4), some (.ref 30)] [.int ((a1 * 7) + a2), .ref 32] (hp I J b) 64 64 Q
    obtain ⟨j2, e2, w2, wp⟩ := wp
    refine am_ialdN (j := j2) dX9_odds_65 rfl (by decide) e2 w2 (by decide) ?_
    refine am_i2l dX9_odds_66 ?_
    refine am_aload rfl dX9_odds_67 ?_
    refine am_getI dX9_odds_69 flX9_218 (Or.inl rfl) rfl (by decide) ?_
    refine am_i2l dX9_odds_72 ?_
    refine am_iload rfl dX9_odds_73 ?_
    refine am_invS (As := [.long (Int32.toInt64 (I 32 j2)), .long (Int32.toInt64 (I 30 4)), .int a4]) (lsZ := [some (.long (Int32.toInt64 (I 32 j2))), none, some (.long (Int32.toInt64 (I 30 4))), none, some (.int a4), none, none, none, none, none, none, none]) (st := []) dX9_odds_75 hX0_lowest lkX9_231 ⟨by decide, by decide⟩ rfl rfl (Nat.le_of_ble_eq_true rfl) rfl (Nat.le_of_ble_eq_true rfl) ⟨Nat.le_refl _, Nat.le_refl _⟩ (am_R.mono wp (fun r h' q => am_R.forget q trivial))
  · have wp := wp.2 hc1
    refine am_bipush (-4) rfl dX9_odds_52 ?_
    exact am_iret dX9_odds_54 rfl rfl wp
theorem bX9_oddsB_78 {E : Nat × (Nat → Int32)} {I : Nat → Nat → Int32} {J : Nat → Nat → Int64} {b : Bool} {x0 : Int64} {Q : Option Value → am_H → Prop}  (wp : Q (some (.int (Int64.toInt32 x0))) (hp I J b)) : am_R E mX9_odds 78 [none, none, none, none, none, none] [.long x0] (hp I J b) 64 64 Q := by
  refine am_l2i dX9_odds_78 ?_
  exact am_iret dX9_odds_79 rfl rfl wp
theorem p_odds2 (hI : Inv I n) (m d : Nat) (hm : m < n) (hd : d < n) (h1 : 0 ≤ nI m ∧ nI m < nI n) (h2 : 0 ≤ nI d ∧ nI d < nI n) (a4 : Int32) (hp' : a4 = 0 ∨ a4 = 1) : Pair E mX9_odds mX10_odds [some (.ref 0), some (.int (nI m)), some (.int (nI d)), some (.int 2), some (.int a4), none] [some (.ref 48), some (.int (nI m)), some (.int (nI d)), some (.int 2), some (.int a4), none, none, none] I J b := by
  have hN := hI.1.1
  have n7 := hN.2.2
  have hY : Yw I n := hI.1.2.2.2.2.2.2.1.2.2.1
  have hL := hI.1.2.2.2.1
  have e0 : I 4 0 = nI n := hI.2.1.1
  have hfl := fct_le n (by omega)
  have hM := fb_ct_le (lc I n) (fct n)
  obtain ⟨S, hS, eS⟩ := had_ex (I := I) (n := n) (by' := 2) (m := m) (d := d) n7
  refine ⟨.int (mval a4 S (fb_ct (lc I n) (fct n))), fun I1 => Ag (tS 30 31 32) I I1 ∧ I1 30 1 = nI 2 ∧ I1 30 3 = 1 ∧ Tl I n 2 (I1 30) (I1 32), fun Q h => ?_, fun I1 J1 b1 e Q h => ?_⟩
  · refine bX9_oddsB_0 ?_
    rw [e0]
    refine ⟨fun _ => ⟨fun _ => ⟨fun _ => ⟨fun _ => ?_, fun q => absurd hp' q⟩, fun q => absurd (Or.inr (Or.inl rfl)) q⟩, fun q => absurd h2 q⟩, fun q => absurd h1 q⟩
    refine tX9_tallyOf2 hI rfl (fun I1 a1 a2' a3' a4' => bX9_oddsB_42 ?_)
    have kk := h I1 J b ⟨a1, a2', a3', a4'⟩
    unfold mval at kk
    rw [a4'.1]
    refine ne_br (m := 0) rfl rfl (by omega) (by omega) (fun q => by rw [if_pos q] at kk; exact kk) (fun q => ⟨7 * m + d, k7' m d, by omega, ?_⟩)
    rw [if_neg q] at kk
    have e5 : Int32.toInt64 (I1 32 (7 * m + d)) = lN S := by rw [a4'.2.2.2 m hm d hd, eS]; exact nI_l hS
    have e4 : Int32.toInt64 (nI (fb_ct (lc I n) (fct n))) = lN (fb_ct (lc I n) (fct n)) := nI_l (by omega)
    refine tX0_lowest e5 e4 (by omega) (by omega) hp' (fun z => bX9_oddsB_78 ?_) (fun z => bX9_oddsB_78 ?_) (by omega)
    · rw [lN_i]; rw [if_pos z] at kk; exact kk
    · rw [lN_i]; rw [if_neg (by rw [z]; decide)] at kk; exact kk
  · obtain ⟨a1, a2', a3', a4'⟩ := e
    obtain ⟨q1, q2, q3, q4, q5, q6, q7⟩ := a1.m (n := n) (Or.inr (Or.inl ⟨rfl, rfl, rfl⟩)) hN hY hL
    refine bX10_odds_0 ?_
    rw [q1.1]
    refine ⟨fun _ => ⟨fun _ => ⟨fun _ => ⟨fun _ => ?_, fun q => absurd (in_01i.mpr hp') q⟩, fun q => absurd (Or.inr (Or.inl rfl)) q⟩, fun q => absurd ((in_mod (by omega) n7).mpr h2) q⟩, fun q => absurd ((in_mod (by omega) n7).mpr h1) q⟩
    refine tX10_odds48 (n := n) (by' := 2) (S := S) (m := m) (d := d) q1 q2 q3 (by omega) rfl hm rfl hd rfl hS (by unfold sHad; rw [q4, q5]; exact eS) (fun I2 hm2 => ?_)
    rw [q4]
    exact h I2 J1 b1 n (Inv.t2 hI a1 a2' a3' a4' hm2)
theorem bX9_oddsC_0 {E : Nat × (Nat → Int32)} {I : Nat → Nat → Int32} {J : Nat → Nat → Int64} {b : Bool} {a1 : Int32} {a2 : Int32} {a3 : Int32} {a4 : Int32} {Q : Option Value → am_H → Prop}  (wp : (((0 ≤ a1 ∧ a1 < (I 4 0)) → (((0 ≤ a2 ∧ a2 < (I 4 0)) → (((a3 = 0 ∨ a3 = 2 ∨ a3 = 3) → (((a4 = 0 ∨ a4 = 1) → am_R E mX9_tallyOf 0 [some (.ref 0), some (.int a3), none] [] (hp I J b) 64 64 (fun r h' => am_R E mX9_odds 42 [none, some (.int a1), some (.int a2), none, some (.int a4), none] (r.toList ++ []) h' 64 64 Q)) ∧ (¬ (a4 = 0 ∨ a4 = 1) → Q (some (.int (-3))) (hp I J b)))) ∧ (¬ (a3 = 0 ∨ a3 = 2 ∨ a3 = 3) → Q (some (.int (-3))) (hp I J b)))) ∧ (¬ (0 ≤ a2 ∧ a2 < (I 4 0)) → Q (some (.int (-2))) (hp I J b)))) ∧ (¬ (0 ≤ a1 ∧ a1 < (I 4 0)) → Q (some (.int (-2))) (hp I J b)))) : am_R E mX9_odds 0 [some (.ref 0), some (.int a1), some (.int a2), some (.int a3), some (.int a4), none] [] (hp I J b) 64 64 Q := by
  refine am_aload_n rfl rfl dX9_odds_0 ?_
  refine am_iload_n rfl rfl dX9_odds_1 ?_
  refine am_invV (ci := 7) (As := [.int a1]) (lsZ := [some (.ref 0), some (.int a1)]) (st := []) dX9_odds_2 hX9_isThere lkX9_122 ⟨by decide, by decide⟩ (by decide) rfl (by decide) rfl rfl rfl (Nat.le_of_ble_eq_true rfl) rfl (Nat.le_of_ble_eq_true rfl) ⟨Nat.le_refl _, Nat.le_refl _⟩ (tX9_isThere  (fun hc1 => ?_) (fun hc1 => ?_))
  · have wp := wp.1 hc1
    show am_R E mX9_odds 5 [some (.ref 0), some (.int a1), some (.int a2), some (.int a3), some (.int a4), none] [.int 1] (hp I J b) 64 64 Q
    refine am_if_eq dX9_odds_5 (tgt := 16) rfl (fun hc => absurd hc (by decide)) (fun _ => ?_)
    refine am_aload_n rfl rfl dX9_odds_8 ?_
    refine am_iload_n rfl rfl dX9_odds_9 ?_
    refine am_invV (ci := 7) (As := [.int a2]) (lsZ := [some (.ref 0), some (.int a2)]) (st := []) dX9_odds_10 hX9_isThere lkX9_122 ⟨by decide, by decide⟩ (by decide) rfl (by decide) rfl rfl rfl (Nat.le_of_ble_eq_true rfl) rfl (Nat.le_of_ble_eq_true rfl) ⟨Nat.le_refl _, Nat.le_refl _⟩ (tX9_isThere  (fun hc2 => ?_) (fun hc2 => ?_))
    · have wp := wp.1 hc2
      show am_R E mX9_odds 13 [some (.ref 0), some (.int a1), some (.int a2), some (.int a3), some (.int a4), none] [.int 1] (hp I J b) 64 64 Q
      refine am_if_ne dX9_odds_13 (tgt := 19) rfl (fun _ => ?_) (fun hc => absurd hc (by decide))
      refine am_iload_n rfl rfl dX9_odds_19 ?_
      refine am_invS (As := [.int a3]) (lsZ := [some (.int a3)]) (st := []) dX9_odds_20 hX9_isRing lkX9_221 ⟨by decide, by decide⟩ rfl rfl (Nat.le_of_ble_eq_true rfl) rfl (Nat.le_of_ble_eq_true rfl) ⟨Nat.le_refl _, Nat.le_refl _⟩ (tX9_isRing  (fun hc3 => ?_) (fun hc3 => ?_))
      · have wp := wp.1 hc3
        show am_R E mX9_odds 23 [some (.ref 0), some (.int a1), some (.int a2), some (.int a3), some (.int a4), none] [.int 1] (hp I J b) 64 64 Q
        refine am_if_eq dX9_odds_23 (tgt := 34) rfl (fun hc => absurd hc (by decide)) (fun _ => ?_)
        refine am_iload rfl dX9_odds_26 ?_
        refine am_invS (As := [.int a4]) (lsZ := [some (.int a4)]) (st := []) dX9_odds_28 hX9_isPart lkX9_224 ⟨by decide, by decide⟩ rfl rfl (Nat.le_of_ble_eq_true rfl) rfl (Nat.le_of_ble_eq_true rfl) ⟨Nat.le_refl _, Nat.le_refl _⟩ (tX9_isPart  (fun hc4 => ?_) (fun hc4 => ?_))
        · have wp := wp.1 hc4
          show am_R E mX9_odds 31 [some (.ref 0), some (.int a1), some (.int a2), some (.int a3), some (.int a4), none] [.int 1] (hp I J b) 64 64 Q
          refine am_if_ne dX9_odds_31 (tgt := 37) rfl (fun _ => ?_) (fun hc => absurd hc (by decide))
          refine am_aload_n rfl rfl dX9_odds_37 ?_
          refine am_iload_n rfl rfl dX9_odds_38 ?_
          refine am_invV (ci := 7) (As := [.int a3]) (lsZ := [some (.ref 0), some (.int a3), none]) (st := []) dX9_odds_39 hX9_tallyOf lkX9_214 ⟨by decide, by decide⟩ (by decide) rfl (by decide) rfl rfl rfl (Nat.le_of_ble_eq_true rfl) rfl (Nat.le_of_ble_eq_true rfl) ⟨Nat.le_refl _, Nat.le_refl _⟩ (am_R.mono wp (fun r h' q => am_R.forget q ⟨rfl, ⟨rfl, ⟨rfl, trivial⟩⟩⟩))
        · have wp := wp.2 hc4
          show am_R E mX9_odds 31 [some (.ref 0), some (.int a1), some (.int a2), some (.int a3), some (.int a4), none] [.int 0] (hp I J b) 64 64 Q
          refine am_if_ne dX9_odds_31 (tgt := 37) rfl (fun hc => absurd hc (by decide)) (fun _ => ?_)
          refine am_bipush (-3) rfl dX9_odds_34 ?_
          exact am_iret dX9_odds_36 rfl rfl wp
      · have wp := wp.2 hc3
        show am_R E mX9_odds 23 [some (.ref 0), some (.int a1), some (.int a2), some (.int a3), some (.int a4), none] [.int 0] (hp I J b) 64 64 Q
        refine am_if_eq dX9_odds_23 (tgt := 34) rfl (fun _ => ?_) (fun hc => absurd hc (by decide))
        refine am_bipush (-3) rfl dX9_odds_34 ?_
        exact am_iret dX9_odds_36 rfl rfl wp
    · have wp := wp.2 hc2
      show am_R E mX9_odds 13 [some (.ref 0), some (.int a1), some (.int a2), some (.int a3), some (.int a4), none] [.int 0] (hp I J b) 64 64 Q
      refine am_if_ne dX9_odds_13 (tgt := 19) rfl (fun hc => absurd hc (by decide)) (fun _ => ?_)
      refine am_bipush (-2) rfl dX9_odds_16 ?_
      exact am_iret dX9_odds_18 rfl rfl wp
  · have wp := wp.2 hc1
    show am_R E mX9_odds 5 [some (.ref 0), some (.int a1), some (.int a2), some (.int a3), some (.int a4), none] [.int 0] (hp I J b) 64 64 Q
    refine am_if_eq dX9_odds_5 (tgt := 16) rfl (fun _ => ?_) (fun hc => absurd hc (by decide))
    refine am_bipush (-2) rfl dX9_odds_16 ?_
    exact am_iret dX9_odds_18 rfl rfl wp
theorem bX9_oddsC_42 {E : Nat × (Nat → Int32)} {I : Nat → Nat → Int32} {J : Nat → Nat → Int64} {b : Bool} {a1 : Int32} {a2 : Int32} {a4 : Int32} {Q : Option Value → am_H → Prop}  (wp : ((¬ (I 33 4) = 0 → ∃ j2, ((a1 * 7) + a2) = nI j2 ∧ j2 < 49 ∧ am_R E mX0_lowest 0 [some (.long (Int32.toInt64 (I 35 j2))), none, some (.long (Int32.toInt64 (I 33 4))), none, some (.int a4), none, none, none, none, none, none, none] [] (hp I J b) 64 64 (fun r h' => am_R E mX9_odds 78 [none, none, none, none, none, none] (r.toList ++ []) h' 64 64 Q)) ∧ ((I 33 4) = 0 → Q (some (.int (-4))) (hp I J b)))) : am_R E mX9_odds 42 [none, some (.int a1), some (.int a2), none, some (.int a4), none] [.ref 33] (hp I J b) 64 64 Q := by
  refine am_astore (ls' := [none, some (.int a1), some (.int a2), none, some (.int a4), some (.ref 33)]) (by decide) rfl rfl dX9_odds_42 ?_
  refine am_aload rfl dX9_odds_44 ?_
  refine am_getI dX9_odds_46 flX9_218 (Or.inl rfl) rfl (by decide) ?_
  refine am_if_ne dX9_odds_49 (tgt := 55) rfl (fun hc1 => ?_) (fun hc1 => ?_)
  · have wp := wp.1 hc1
    refine am_aload rfl dX9_odds_55 ?_
    refine am_getA (r := 35) dX9_odds_57 flX9_237 (Or.inr ⟨_, rfl⟩) rfl (by decide) rfl ?_
    refine am_iload_n rfl rfl dX9_odds_60 ?_
    refine am_iload_n rfl rfl dX9_odds_61 ?_
    refine am_invS (As := [.int a1, .int a2]) (lsZ := [some (.int a1), some (.int a2)]) (st := [.ref 35]) dX9_odds_62 hX2_cell lkX9_240 ⟨by decide, by decide⟩ rfl rfl (Nat.le_of_ble_eq_true rfl) rfl (Nat.le_of_ble_eq_true rfl) ⟨Nat.le_refl _, Nat.le_refl _⟩ (tX2_cell (by decide)  ?_)
    show am_R E mX9_odds 65 [none, some (.int a1), some (.int a2), none, some (.int a4), some (.ref 33)] [.int ((a1 * 7) + a2), .ref 35] (hp I J b) 64 64 Q
    obtain ⟨j2, e2, w2, wp⟩ := wp
    refine am_ialdN (j := j2) dX9_odds_65 rfl (by decide) e2 w2 (by decide) ?_
    refine am_i2l dX9_odds_66 ?_
    refine am_aload rfl dX9_odds_67 ?_
    refine am_getI dX9_odds_69 flX9_218 (Or.inl rfl) rfl (by decide) ?_
    refine am_i2l dX9_odds_72 ?_
    refine am_iload rfl dX9_odds_73 ?_
    refine am_invS (As := [.long (Int32.toInt64 (I 35 j2)), .long (Int32.toInt64 (I 33 4)), .int a4]) (lsZ := [some (.long (Int32.toInt64 (I 35 j2))), none, some (.long (Int32.toInt64 (I 33 4))), none, some (.int a4), none, none, none, none, none, none, none]) (st := []) dX9_odds_75 hX0_lowest lkX9_231 ⟨by decide, by decide⟩ rfl rfl (Nat.le_of_ble_eq_true rfl) rfl (Nat.le_of_ble_eq_true rfl) ⟨Nat.le_refl _, Nat.le_refl _⟩ (am_R.mono wp (fun r h' q => am_R.forget q trivial))
  · have wp := wp.2 hc1
    refine am_bipush (-4) rfl dX9_odds_52 ?_
    exact am_iret dX9_odds_54 rfl rfl wp
theorem bX9_oddsC_78 {E : Nat × (Nat → Int32)} {I : Nat → Nat → Int32} {J : Nat → Nat → Int64} {b : Bool} {x0 : Int64} {Q : Option Value → am_H → Prop}  (wp : Q (some (.int (Int64.toInt32 x0))) (hp I J b)) : am_R E mX9_odds 78 [none, none, none, none, none, none] [.long x0] (hp I J b) 64 64 Q := by
  refine am_l2i dX9_odds_78 ?_
  exact am_iret dX9_odds_79 rfl rfl wp
theorem p_odds3 (hI : Inv I n) (m d : Nat) (hm : m < n) (hd : d < n) (h1 : 0 ≤ nI m ∧ nI m < nI n) (h2 : 0 ≤ nI d ∧ nI d < nI n) (a4 : Int32) (hp' : a4 = 0 ∨ a4 = 1) : Pair E mX9_odds mX10_odds [some (.ref 0), some (.int (nI m)), some (.int (nI d)), some (.int 3), some (.int a4), none] [some (.ref 48), some (.int (nI m)), some (.int (nI d)), some (.int 3), some (.int a4), none, none, none] I J b := by
  have hN := hI.1.1
  have n7 := hN.2.2
  have hY : Yw I n := hI.1.2.2.2.2.2.2.1.2.2.1
  have hL := hI.1.2.2.2.1
  have e0 : I 4 0 = nI n := hI.2.1.1
  have hfl := fct_le n (by omega)
  have hM := fb_ct_le (lc I n) (fct n)
  obtain ⟨S, hS, eS⟩ := had_ex (I := I) (n := n) (by' := 3) (m := m) (d := d) n7
  refine ⟨.int (mval a4 S (fb_ct (lc I n) (fct n))), fun I1 => Ag (tS 33 34 35) I I1 ∧ I1 33 1 = nI 3 ∧ I1 33 3 = 1 ∧ Tl I n 3 (I1 33) (I1 35), fun Q h => ?_, fun I1 J1 b1 e Q h => ?_⟩
  · refine bX9_oddsC_0 ?_
    rw [e0]
    refine ⟨fun _ => ⟨fun _ => ⟨fun _ => ⟨fun _ => ?_, fun q => absurd hp' q⟩, fun q => absurd (Or.inr (Or.inr rfl)) q⟩, fun q => absurd h2 q⟩, fun q => absurd h1 q⟩
    refine tX9_tallyOf3 hI rfl (fun I1 a1 a2' a3' a4' => bX9_oddsC_42 ?_)
    have kk := h I1 J b ⟨a1, a2', a3', a4'⟩
    unfold mval at kk
    rw [a4'.1]
    refine ne_br (m := 0) rfl rfl (by omega) (by omega) (fun q => by rw [if_pos q] at kk; exact kk) (fun q => ⟨7 * m + d, k7' m d, by omega, ?_⟩)
    rw [if_neg q] at kk
    have e5 : Int32.toInt64 (I1 35 (7 * m + d)) = lN S := by rw [a4'.2.2.2 m hm d hd, eS]; exact nI_l hS
    have e4 : Int32.toInt64 (nI (fb_ct (lc I n) (fct n))) = lN (fb_ct (lc I n) (fct n)) := nI_l (by omega)
    refine tX0_lowest e5 e4 (by omega) (by omega) hp' (fun z => bX9_oddsC_78 ?_) (fun z => bX9_oddsC_78 ?_) (by omega)
    · rw [lN_i]; rw [if_pos z] at kk; exact kk
    · rw [lN_i]; rw [if_neg (by rw [z]; decide)] at kk; exact kk
  · obtain ⟨a1, a2', a3', a4'⟩ := e
    obtain ⟨q1, q2, q3, q4, q5, q6, q7⟩ := a1.m (n := n) (Or.inr (Or.inr ⟨rfl, rfl, rfl⟩)) hN hY hL
    refine bX10_odds_0 ?_
    rw [q1.1]
    refine ⟨fun _ => ⟨fun _ => ⟨fun _ => ⟨fun _ => ?_, fun q => absurd (in_01i.mpr hp') q⟩, fun q => absurd (Or.inr (Or.inr rfl)) q⟩, fun q => absurd ((in_mod (by omega) n7).mpr h2) q⟩, fun q => absurd ((in_mod (by omega) n7).mpr h1) q⟩
    refine tX10_odds48 (n := n) (by' := 3) (S := S) (m := m) (d := d) q1 q2 q3 (by omega) rfl hm rfl hd rfl hS (by unfold sHad; rw [q4, q5]; exact eS) (fun I2 hm2 => ?_)
    rw [q4]
    exact h I2 J1 b1 n (Inv.t3 hI a1 a2' a3' a4' hm2)
theorem p_odds (hI : Inv I n) (a1 a2 a3 a4 : Int32) : Pair E mX9_odds mX10_odds [some (.ref 0), some (.int a1), some (.int a2), some (.int a3), some (.int a4), none] [some (.ref 48), some (.int a1), some (.int a2), some (.int a3), some (.int a4), none, none, none] I J b := by
  have n0 := hI.1.1.1
  have n2 := hI.1.1.2.1
  have n7 := hI.1.1.2.2
  have e0 : I 4 0 = nI n := hI.2.1.1
  have im : ∀ a : Int32, (0 ≤ a ∧ a ≤ nI n - 1) = (0 ≤ a ∧ a < nI n) := fun a => propext (in_mod (by omega) n7)
  have ip : (0 ≤ a4 ∧ a4 ≤ 1) = (a4 = 0 ∨ a4 = 1) := propext in_01i
  by_cases h1 : 0 ≤ a1 ∧ a1 < nI n
  case neg => exact Pair.same hI (.int (-2)) (fun Q h => bX9_oddsA_0 (by rw [e0]; (repeat' (first | exact h | contradiction | apply And.intro | intro _)))) (fun J b Q h => bX10_odds_0 (by rw [n0, im, im, ip]; (repeat' (first | exact h | contradiction | apply And.intro | intro _))))
  by_cases h2 : 0 ≤ a2 ∧ a2 < nI n
  case neg => exact Pair.same hI (.int (-2)) (fun Q h => bX9_oddsA_0 (by rw [e0]; (repeat' (first | exact h | contradiction | apply And.intro | intro _)))) (fun J b Q h => bX10_odds_0 (by rw [n0, im, im, ip]; (repeat' (first | exact h | contradiction | apply And.intro | intro _))))
  by_cases hr : a3 = 0 ∨ a3 = 2 ∨ a3 = 3
  case neg => exact Pair.same hI (.int (-3)) (fun Q h => bX9_oddsA_0 (by rw [e0]; (repeat' (first | exact h | contradiction | apply And.intro | intro _)))) (fun J b Q h => bX10_odds_0 (by rw [n0, im, im, ip]; (repeat' (first | exact h | contradiction | apply And.intro | intro _))))
  by_cases hp' : a4 = 0 ∨ a4 = 1
  case neg => exact Pair.same hI (.int (-3)) (fun Q h => bX9_oddsA_0 (by rw [e0]; (repeat' (first | exact h | contradiction | apply And.intro | intro _)))) (fun J b Q h => bX10_odds_0 (by rw [n0, im, im, ip]; (repeat' (first | exact h | contradiction | apply And.intro | intro _))))
  obtain ⟨m, hm, rfl⟩ := in_cls n7 h1
  obtain ⟨d, hd, rfl⟩ := in_cls n7 h2
  rcases hr with rfl | rfl | rfl
  · exact p_odds0 hI m d hm hd h1 h2 a4 hp'
  · exact p_odds2 hI m d hm hd h1 h2 a4 hp'
  · exact p_odds3 hI m d hm hd h1 h2 a4 hp'
end P11
