/-! ===== the reference: wanted rings, settling ===== -/
section M3
variable {E : Nat × (Nat → Int32)} {I : Nat → Nat → Int32} {J : Nat → Nat → Int64} {b : Bool} {Q : Option Value → am_H → Prop}
theorem bX10_isWanted_0 {E : Nat × (Nat → Int32)} {I : Nat → Nat → Int32} {J : Nat → Nat → Int64} {b : Bool} {a1 : Int32} {a2 : Int32} {a3 : Int32} {Q : Option Value → am_H → Prop}  (wp : ∃ j1, a2 = nI j1 ∧ j1 < 7 ∧ am_R E mX10_likesMore 0 [some (.ref 48), some (.int a1), some (.int (I 58 j1))] [] (hp I J b) 64 64 (fun r h' => am_R E mX10_isWanted 11 [some (.ref 48), some (.int a1), some (.int a2), some (.int a3)] (r.toList ++ []) h' 64 64 Q)) : am_R E mX10_isWanted 0 [some (.ref 48), some (.int a1), some (.int a2), some (.int a3)] [] (hp I J b) 64 64 Q := by
  refine am_aload_n rfl rfl dX10_isWanted_0 ?_
  refine am_iload_n rfl rfl dX10_isWanted_1 ?_
  refine am_aload_n rfl rfl dX10_isWanted_2 ?_
  refine am_getA (r := 58) dX10_isWanted_3 flX10_45 (Or.inr ⟨_, rfl⟩) rfl (by decide) rfl ?_
  refine am_iload_n rfl rfl dX10_isWanted_6 ?_
  obtain ⟨j1, e1, w1, wp⟩ := wp
  refine am_ialdN (j := j1) dX10_isWanted_7 rfl (by decide) e1 w1 (by decide) ?_
  refine am_invV (ci := 8) (As := [.int a1, .int (I 58 j1)]) (lsZ := [some (.ref 48), some (.int a1), some (.int (I 58 j1))]) (st := []) dX10_isWanted_8 hX10_likesMore lkX10_187 ⟨by decide, by decide⟩ (by decide) rfl (by decide) rfl rfl rfl (Nat.le_of_ble_eq_true rfl) rfl (Nat.le_of_ble_eq_true rfl) ⟨Nat.le_refl _, Nat.le_refl _⟩ (am_R.mono wp (fun r h' q => am_R.forget q ⟨rfl, ⟨rfl, ⟨rfl, ⟨rfl, trivial⟩⟩⟩⟩))
theorem bX10_isWanted_11 {E : Nat × (Nat → Int32)} {I : Nat → Nat → Int32} {J : Nat → Nat → Int64} {b : Bool} {a1 : Int32} {a2 : Int32} {a3 : Int32} {x0 : Int32} {Q : Option Value → am_H → Prop}  (wp : ((x0 = 0 → Q (some (.int 0)) (hp I J b)) ∧ (¬ x0 = 0 → ((¬ a3 = (-1) → ∃ j3, a3 = nI j3 ∧ j3 < 7 ∧ am_R E mX10_likesMore 0 [some (.ref 48), some (.int a2), some (.int (I 58 j3))] [] (hp I J b) 64 64 (fun r h' => am_R E mX10_isWanted 47 [some (.ref 48), some (.int a1), none, some (.int a3)] (r.toList ++ []) h' 64 64 Q)) ∧ (a3 = (-1) → ∃ j4, a1 = nI j4 ∧ j4 < 7 ∧ am_R E mX10_likesMore 0 [some (.ref 48), some (.int a2), some (.int (I 58 j4))] [] (hp I J b) 64 64 (fun r h' => am_R E mX10_isWanted 30 [none, none, none, none] (r.toList ++ []) h' 64 64 Q)))))) : am_R E mX10_isWanted 11 [some (.ref 48), some (.int a1), some (.int a2), some (.int a3)] [.int x0] (hp I J b) 64 64 Q := by
  refine am_if_eq dX10_isWanted_11 (tgt := 68) rfl (fun hc1 => ?_) (fun hc1 => ?_)
  · have wp := wp.1 hc1
    refine am_iconst 0 rfl dX10_isWanted_68 ?_
    exact am_iret dX10_isWanted_69 rfl (by decide) wp
  · have wp := wp.2 hc1
    refine am_iload_n rfl rfl dX10_isWanted_14 ?_
    refine am_iconst (-1) rfl dX10_isWanted_15 ?_
    refine am_icmp_ne dX10_isWanted_16 (tgt := 36) rfl (fun hc2 => ?_) (fun hc2 => ?_)
    · have wp := wp.1 hc2
      refine am_aload_n rfl rfl dX10_isWanted_36 ?_
      refine am_iload_n rfl rfl dX10_isWanted_37 ?_
      refine am_aload_n rfl rfl dX10_isWanted_38 ?_
      refine am_getA (r := 58) dX10_isWanted_39 flX10_45 (Or.inr ⟨_, rfl⟩) rfl (by decide) rfl ?_
      refine am_iload_n rfl rfl dX10_isWanted_42 ?_
      obtain ⟨j3, e3, w3, wp⟩ := wp
      refine am_ialdN (j := j3) dX10_isWanted_43 rfl (by decide) e3 w3 (by decide) ?_
      refine am_invV (ci := 8) (As := [.int a2, .int (I 58 j3)]) (lsZ := [some (.ref 48), some (.int a2), some (.int (I 58 j3))]) (st := []) dX10_isWanted_44 hX10_likesMore lkX10_187 ⟨by decide, by decide⟩ (by decide) rfl (by decide) rfl rfl rfl (Nat.le_of_ble_eq_true rfl) rfl (Nat.le_of_ble_eq_true rfl) ⟨Nat.le_refl _, Nat.le_refl _⟩ (am_R.mono wp (fun r h' q => am_R.forget q ⟨rfl, ⟨rfl, ⟨rfl, trivial⟩⟩⟩))
    · have wp := wp.2 hc2
      refine am_aload_n rfl rfl dX10_isWanted_19 ?_
      refine am_iload_n rfl rfl dX10_isWanted_20 ?_
      refine am_aload_n rfl rfl dX10_isWanted_21 ?_
      refine am_getA (r := 58) dX10_isWanted_22 flX10_45 (Or.inr ⟨_, rfl⟩) rfl (by decide) rfl ?_
      refine am_iload_n rfl rfl dX10_isWanted_25 ?_
      obtain ⟨j4, e4, w4, wp⟩ := wp
      refine am_ialdN (j := j4) dX10_isWanted_26 rfl (by decide) e4 w4 (by decide) ?_
      refine am_invV (ci := 8) (As := [.int a2, .int (I 58 j4)]) (lsZ := [some (.ref 48), some (.int a2), some (.int (I 58 j4))]) (st := []) dX10_isWanted_27 hX10_likesMore lkX10_187 ⟨by decide, by decide⟩ (by decide) rfl (by decide) rfl rfl rfl (Nat.le_of_ble_eq_true rfl) rfl (Nat.le_of_ble_eq_true rfl) ⟨Nat.le_refl _, Nat.le_refl _⟩ (am_R.mono wp (fun r h' q => am_R.forget q trivial))
theorem bX10_isWanted_30 {E : Nat × (Nat → Int32)} {I : Nat → Nat → Int32} {J : Nat → Nat → Int64} {b : Bool} {x0 : Int32} {Q : Option Value → am_H → Prop}  (wp : ((x0 = 0 → Q (some (.int 0)) (hp I J b)) ∧ (¬ x0 = 0 → Q (some (.int 1)) (hp I J b)))) : am_R E mX10_isWanted 30 [none, none, none, none] [.int x0] (hp I J b) 64 64 Q := by
  refine am_if_eq dX10_isWanted_30 (tgt := 68) rfl (fun hc1 => ?_) (fun hc1 => ?_)
  · have wp := wp.1 hc1
    refine am_iconst 0 rfl dX10_isWanted_68 ?_
    exact am_iret dX10_isWanted_69 rfl (by decide) wp
  · have wp := wp.2 hc1
    refine am_goto dX10_isWanted_33 (tgt := 64) rfl ?_
    refine am_iconst 1 rfl dX10_isWanted_64 ?_
    refine am_goto dX10_isWanted_65 (tgt := 69) rfl ?_
    exact am_iret dX10_isWanted_69 rfl (by decide) wp
theorem bX10_isWanted_47 {E : Nat × (Nat → Int32)} {I : Nat → Nat → Int32} {J : Nat → Nat → Int64} {b : Bool} {a1 : Int32} {a3 : Int32} {x0 : Int32} {Q : Option Value → am_H → Prop}  (wp : ((x0 = 0 → Q (some (.int 0)) (hp I J b)) ∧ (¬ x0 = 0 → ∃ j2, a1 = nI j2 ∧ j2 < 7 ∧ am_R E mX10_likesMore 0 [some (.ref 48), some (.int a3), some (.int (I 58 j2))] [] (hp I J b) 64 64 (fun r h' => am_R E mX10_isWanted 61 [none, none, none, none] (r.toList ++ []) h' 64 64 Q)))) : am_R E mX10_isWanted 47 [some (.ref 48), some (.int a1), none, some (.int a3)] [.int x0] (hp I J b) 64 64 Q := by
  refine am_if_eq dX10_isWanted_47 (tgt := 68) rfl (fun hc1 => ?_) (fun hc1 => ?_)
  · have wp := wp.1 hc1
    refine am_iconst 0 rfl dX10_isWanted_68 ?_
    exact am_iret dX10_isWanted_69 rfl (by decide) wp
  · have wp := wp.2 hc1
    refine am_aload_n rfl rfl dX10_isWanted_50 ?_
    refine am_iload_n rfl rfl dX10_isWanted_51 ?_
    refine am_aload_n rfl rfl dX10_isWanted_52 ?_
    refine am_getA (r := 58) dX10_isWanted_53 flX10_45 (Or.inr ⟨_, rfl⟩) rfl (by decide) rfl ?_
    refine am_iload_n rfl rfl dX10_isWanted_56 ?_
    obtain ⟨j2, e2, w2, wp⟩ := wp
    refine am_ialdN (j := j2) dX10_isWanted_57 rfl (by decide) e2 w2 (by decide) ?_
    refine am_invV (ci := 8) (As := [.int a3, .int (I 58 j2)]) (lsZ := [some (.ref 48), some (.int a3), some (.int (I 58 j2))]) (st := []) dX10_isWanted_58 hX10_likesMore lkX10_187 ⟨by decide, by decide⟩ (by decide) rfl (by decide) rfl rfl rfl (Nat.le_of_ble_eq_true rfl) rfl (Nat.le_of_ble_eq_true rfl) ⟨Nat.le_refl _, Nat.le_refl _⟩ (am_R.mono wp (fun r h' q => am_R.forget q trivial))
theorem bX10_isWanted_61 {E : Nat × (Nat → Int32)} {I : Nat → Nat → Int32} {J : Nat → Nat → Int64} {b : Bool} {x0 : Int32} {Q : Option Value → am_H → Prop}  (wp : ((x0 = 0 → Q (some (.int 0)) (hp I J b)) ∧ (¬ x0 = 0 → Q (some (.int 1)) (hp I J b)))) : am_R E mX10_isWanted 61 [none, none, none, none] [.int x0] (hp I J b) 64 64 Q := by
  refine am_if_eq dX10_isWanted_61 (tgt := 68) rfl (fun hc1 => ?_) (fun hc1 => ?_)
  · have wp := wp.1 hc1
    refine am_iconst 0 rfl dX10_isWanted_68 ?_
    exact am_iret dX10_isWanted_69 rfl (by decide) wp
  · have wp := wp.2 hc1
    refine am_iconst 1 rfl dX10_isWanted_64 ?_
    refine am_goto dX10_isWanted_65 (tgt := 69) rfl ?_
    exact am_iret dX10_isWanted_69 rfl (by decide) wp
theorem z01 {x : Int32} {A B : Prop} (h : x = 1) (f : B) : (x = 0 → A) ∧ (¬ x = 0 → B) := ⟨fun q => by rw [h] at q; exact absurd q (by decide), fun _ => f⟩
theorem z00 {x : Int32} {A B : Prop} (h : x = 0) (f : A) : (x = 0 → A) ∧ (¬ x = 0 → B) := ⟨fun _ => f, fun q => absurd h q⟩
abbrev wt2 (I : Nat → Nat → Int32) (p : Nat → Nat) (x y : Nat) : Prop := lm I p x (p y) ∧ lm I p y (p x)
abbrev wt3 (I : Nat → Nat → Int32) (p : Nat → Nat) (x y z : Nat) : Prop := lm I p x (p y) ∧ lm I p y (p z) ∧ lm I p z (p x)
theorem tX10_isWanted2 {a1 a2 a3 : Int32} {n x y : Nat} {p : Nat → Nat} (ex : a1 = nI x) (ey : a2 = nI y) (ez : a3 = -1) (hn : n ≤ 7) (hx : x < n) (hy : y < n) (hY : Yw I n) (hR : Rw (I 58) p n) (k1 : wt2 I p x y → Q (some (.int 1)) (hp I J b)) (k0 : ¬ wt2 I p x y → Q (some (.int 0)) (hp I J b)) : am_R E mX10_isWanted 0 [some (.ref 48), some (.int a1), some (.int a2), some (.int a3)] [] (hp I J b) 64 64 Q := by
  refine bX10_isWanted_0 ⟨y, ey, by omega, tX10_likesMore (p := p) ex (hR y hy).1 hn hx (hR y hy).2 hY hR (fun q => ?_) (fun q => ?_)⟩
  · refine bX10_isWanted_11 (z01 rfl ⟨fun h => absurd ez h, fun _ => ⟨x, ex, by omega, tX10_likesMore (p := p) ey (hR x hx).1 hn hy (hR x hx).2 hY hR (fun q2 => ?_) (fun q2 => ?_)⟩⟩)
    · exact bX10_isWanted_30 (z01 rfl (k1 ⟨q, q2⟩))
    · exact bX10_isWanted_30 (z00 rfl (k0 (fun z => q2 z.2)))
  · exact bX10_isWanted_11 (z00 rfl (k0 (fun z => q z.1)))
theorem tX10_isWanted3 {a1 a2 a3 : Int32} {n x y z : Nat} {p : Nat → Nat} (ex : a1 = nI x) (ey : a2 = nI y) (ez : a3 = nI z) (hn : n ≤ 7) (hx : x < n) (hy : y < n) (hz : z < n) (hY : Yw I n) (hR : Rw (I 58) p n) (k1 : wt3 I p x y z → Q (some (.int 1)) (hp I J b)) (k0 : ¬ wt3 I p x y z → Q (some (.int 0)) (hp I J b)) : am_R E mX10_isWanted 0 [some (.ref 48), some (.int a1), some (.int a2), some (.int a3)] [] (hp I J b) 64 64 Q := by
  have hm1 : ∀ e : Nat, e < 7 → ¬ nI e = (-1 : Int32) := by decide
  refine bX10_isWanted_0 ⟨y, ey, by omega, tX10_likesMore (p := p) ex (hR y hy).1 hn hx (hR y hy).2 hY hR (fun q => ?_) (fun q => ?_)⟩
  · refine bX10_isWanted_11 (z01 rfl ⟨fun _ => ⟨z, ez, by omega, tX10_likesMore (p := p) ey (hR z hz).1 hn hy (hR z hz).2 hY hR (fun q2 => ?_) (fun q2 => ?_)⟩, fun h => absurd h (by rw [ez]; exact hm1 z (by omega))⟩)
    · refine bX10_isWanted_47 (z01 rfl ⟨x, ex, by omega, tX10_likesMore (p := p) ez (hR x hx).1 hn hz (hR x hx).2 hY hR (fun q3 => ?_) (fun q3 => ?_)⟩)
      · exact bX10_isWanted_61 (z01 rfl (k1 ⟨q, q2, q3⟩))
      · exact bX10_isWanted_61 (z00 rfl (k0 (fun z => q3 z.2.2)))
    · exact bX10_isWanted_47 (z00 rfl (k0 (fun z => q2 z.2.1)))
  · exact bX10_isWanted_11 (z00 rfl (k0 (fun z => q z.1)))
/-- the heap with other ring fields -/
def rg (I : Nat → Nat → Int32) (x y z : Int32) : Nat → Nat → Int32 := u1 I 48 (upd (upd (upd (I 48) 26 x) 27 y) 28 z)
theorem rg_rg (I : Nat → Nat → Int32) (x y z x' y' z' : Int32) : rg (rg I x y z) x' y' z' = rg I x' y' z' := by
  unfold rg
  rw [u1_u1]
  congr 1
  funext j
  simp only [u1_s, upd]
  by_cases h1 : j = 28 <;> by_cases h2 : j = 27 <;> by_cases h3 : j = 26 <;> simp [h1, h2, h3]
theorem rg_self (I : Nat → Nat → Int32) : rg I (I 48 26) (I 48 27) (I 48 28) = I := by
  unfold rg
  have e : upd (upd (upd (I 48) 26 (I 48 26)) 27 (I 48 27)) 28 (I 48 28) = I 48 := by
    funext j
    simp only [upd]
    by_cases h1 : j = 28 <;> by_cases h2 : j = 27 <;> by_cases h3 : j = 26 <;> simp [h1, h2, h3]
  rw [e, u1_self]
theorem rg_u1 (I : Nat → Nat → Int32) (x y z : Int32) (f : Nat → Int32) : u1 (rg I x y z) 58 f = rg (u1 I 58 f) x y z := by
  funext a
  unfold rg
  by_cases e : a = 58
  · subst e; rw [u1_s, u1_n _ _ (by decide), u1_s]
  · rw [u1_n _ _ e]
    by_cases e2 : a = 48
    · subst e2; rw [u1_s, u1_s, u1_n _ _ (by decide)]
    · rw [u1_n _ _ e2, u1_n _ _ e2, u1_n _ _ e]
theorem bX10_takeRing_0 {E : Nat × (Nat → Int32)} {I : Nat → Nat → Int32} {J : Nat → Nat → Int64} {b : Bool} {a1 : Int32} {a2 : Int32} {Q : Option Value → am_H → Prop}  (wp : ((¬ a2 = 2 → Q none (hp (u2 (u2 (u2 I 48 26 (a1 / 64)) 48 27 ((a1 / 8) - (a1 / 8) / 8 * 8)) 48 28 (a1 - a1 / 8 * 8)) J b)) ∧ (a2 = 2 → Q none (hp (u2 (u2 (u2 I 48 26 (a1 / 64)) 48 27 ((a1 / 8) - (a1 / 8) / 8 * 8)) 48 28 (-1)) J b)))) : am_R E mX10_takeRing 0 [some (.ref 48), some (.int a1), some (.int a2)] [] (hp I J b) 64 64 Q := by
  refine am_aload_n rfl rfl dX10_takeRing_0 ?_
  refine am_iload_n rfl rfl dX10_takeRing_1 ?_
  refine am_bipush 64 rfl dX10_takeRing_2 ?_
  refine am_idiv (by decide) dX10_takeRing_4 ?_
  refine am_putI dX10_takeRing_5 flX10_204 (Or.inl rfl) rfl rfl (by decide) ?_
  refine am_aload_n rfl rfl dX10_takeRing_8 ?_
  refine am_iload_n rfl rfl dX10_takeRing_9 ?_
  refine am_bipush 8 rfl dX10_takeRing_10 ?_
  refine am_idiv (by decide) dX10_takeRing_12 ?_
  refine am_bipush 8 rfl dX10_takeRing_13 ?_
  refine am_irem (by decide) dX10_takeRing_15 ?_
  refine am_putI dX10_takeRing_16 flX10_207 (Or.inl rfl) rfl rfl (by decide) ?_
  refine am_aload_n rfl rfl dX10_takeRing_19 ?_
  refine am_iload_n rfl rfl dX10_takeRing_20 ?_
  refine am_iconst 2 rfl dX10_takeRing_21 ?_
  refine am_icmp_ne dX10_takeRing_22 (tgt := 29) rfl (fun hc1 => ?_) (fun hc1 => ?_)
  · have wp := wp.1 hc1
    refine am_iload_n rfl rfl dX10_takeRing_29 ?_
    refine am_bipush 8 rfl dX10_takeRing_30 ?_
    refine am_irem (by decide) dX10_takeRing_32 ?_
    refine am_putI dX10_takeRing_33 flX10_210 (Or.inl rfl) rfl rfl (by decide) ?_
    exact am_vret dX10_takeRing_36 rfl wp
  · have wp := wp.2 hc1
    refine am_iconst (-1) rfl dX10_takeRing_25 ?_
    refine am_goto dX10_takeRing_26 (tgt := 33) rfl ?_
    refine am_putI dX10_takeRing_33 flX10_210 (Or.inl rfl) rfl rfl (by decide) ?_
    exact am_vret dX10_takeRing_36 rfl wp
theorem tX10_takeRing {a1 a2 : Int32} {c : Nat} (ec : a1 = nI c) (hc : c < 448) (k : Q none (hp (rg I (nI (c / 64)) (nI (c / 8 % 8)) (if a2 = 2 then -1 else nI (c % 8))) J b)) : am_R E mX10_takeRing 0 [some (.ref 48), some (.int a1), some (.int a2)] [] (hp I J b) 64 64 Q := by
  subst ec
  have e1 : nI c / 64 = nI (c / 64) := by rw [show (64 : Int32) = nI 64 from rfl, pk_div (by omega) (by omega) (by omega)]
  have e2 : nI c / 8 = nI (c / 8) := by rw [show (8 : Int32) = nI 8 from rfl, pk_div (by omega) (by omega) (by omega)]
  have e3 : nI (c / 8) - nI (c / 8) / 8 * 8 = nI (c / 8 % 8) := by rw [show (8 : Int32) = nI 8 from rfl, pk_rem (by omega) (by omega) (by omega)]
  have e4 : nI c - nI c / 8 * 8 = nI (c % 8) := by rw [show (8 : Int32) = nI 8 from rfl, pk_rem (by omega) (by omega) (by omega)]
  refine bX10_takeRing_0 ⟨fun h => ?_, fun h => ?_⟩
  · rw [if_neg h] at k
    rw [e4, e2, e3, e1, u2_eq I, u2_u1, u2_u1]
    exact k
  · rw [if_pos h] at k
    rw [e2, e3, e1, u2_eq I, u2_u1, u2_u1]
    exact k
/-- the ring of a code is wanted -/
abbrev wc (I : Nat → Nat → Int32) (n by' : Nat) (p : Nat → Nat) (c : Nat) : Prop := by' ≠ 0 ∧ (c / 64 < c / 8 % 8 ∧ c / 64 < n ∧ c / 8 % 8 < n) ∧ ((by' = 2 ∧ c % 8 = 0 ∧ wt2 I p (c / 64) (c / 8 % 8)) ∨ (by' ≠ 2 ∧ (c / 64 < c % 8 ∧ c % 8 ≠ c / 8 % 8 ∧ c % 8 < n) ∧ wt3 I p (c / 64) (c / 8 % 8) (c % 8)))
theorem bX10_nextWanted_0 {E : Nat × (Nat → Int32)} {I : Nat → Nat → Int32} {J : Nat → Nat → Int64} {b : Bool} {a1 : Int32} {a2 : Int32} {Q : Option Value → am_H → Prop}  (wp : am_R E mX10_nextWanted 2 [some (.ref 48), none, some (.int a2), some (.int a1), none] [] (hp I J b) 64 64 Q) : am_R E mX10_nextWanted 0 [some (.ref 48), some (.int a1), some (.int a2), none, none] [] (hp I J b) 64 64 Q := by
  refine am_iload_n rfl rfl dX10_nextWanted_0 ?_
  refine am_istore_n (ls' := [some (.ref 48), some (.int a1), some (.int a2), some (.int a1), none]) rfl (by decide) rfl rfl dX10_nextWanted_1 ?_
  exact am_R.forget wp ⟨rfl, ⟨rfl, ⟨rfl, trivial⟩⟩⟩
theorem bX10_nextWanted_2 {E : Nat × (Nat → Int32)} {I : Nat → Nat → Int32} {J : Nat → Nat → Int64} {b : Bool} {a2 : Int32} {a3 : Int32} {Q : Option Value → am_H → Prop}  (wp : ((448 ≤ a3 → Q (some (.int (-1))) (hp I J b)) ∧ (¬ 448 ≤ a3 → ((a2 ≤ 0 → Q (some (.int (-1))) (hp I J b)) ∧ (¬ a2 ≤ 0 → am_R E mX10_takeRing 0 [some (.ref 48), some (.int a3), some (.int a2)] [] (hp I J b) 64 64 (fun r h' => am_R E mX10_nextWanted 19 [some (.ref 48), none, some (.int a2), some (.int a3), none] (r.toList ++ []) h' 64 64 Q)))))) : am_R E mX10_nextWanted 2 [some (.ref 48), none, some (.int a2), some (.int a3), none] [] (hp I J b) 64 64 Q := by
  refine am_iload_n rfl rfl dX10_nextWanted_2 ?_
  refine am_sipush 448 rfl dX10_nextWanted_3 ?_
  refine am_icmp_ge dX10_nextWanted_6 (tgt := 139) rfl (fun hc1 => ?_) (fun hc1 => ?_)
  · have wp := wp.1 hc1
    refine am_iconst (-1) rfl dX10_nextWanted_139 ?_
    exact am_iret dX10_nextWanted_140 rfl rfl wp
  · have wp := wp.2 hc1
    refine am_iload_n rfl rfl dX10_nextWanted_9 ?_
    refine am_if_le dX10_nextWanted_10 (tgt := 139) rfl (fun hc2 => ?_) (fun hc2 => ?_)
    · have wp := wp.1 hc2
      refine am_iconst (-1) rfl dX10_nextWanted_139 ?_
      exact am_iret dX10_nextWanted_140 rfl rfl wp
    · have wp := wp.2 hc2
      refine am_aload_n rfl rfl dX10_nextWanted_13 ?_
      refine am_iload_n rfl rfl dX10_nextWanted_14 ?_
      refine am_iload_n rfl rfl dX10_nextWanted_15 ?_
      refine am_invV (ci := 8) (As := [.int a3, .int a2]) (lsZ := [some (.ref 48), some (.int a3), some (.int a2)]) (st := []) dX10_nextWanted_16 hX10_takeRing lkX10_213 ⟨by decide, by decide⟩ (by decide) rfl (by decide) rfl rfl rfl (Nat.le_of_ble_eq_true rfl) rfl (Nat.le_of_ble_eq_true rfl) ⟨Nat.le_refl _, Nat.le_refl _⟩ (am_R.mono wp (fun r h' q => am_R.forget q ⟨rfl, ⟨rfl, ⟨rfl, trivial⟩⟩⟩))
theorem bX10_nextWanted_19 {E : Nat × (Nat → Int32)} {I : Nat → Nat → Int32} {J : Nat → Nat → Int64} {b : Bool} {a2 : Int32} {a3 : Int32} {Q : Option Value → am_H → Prop}  (wp : (((I 48 27) ≤ (I 48 26) → am_R E mX10_nextWanted 2 [some (.ref 48), none, some (.int a2), some (.int (a3 + 1)), none] [] (hp I J b) 64 64 Q) ∧ (¬ (I 48 27) ≤ (I 48 26) → (((I 48 0) ≤ (I 48 26) → am_R E mX10_nextWanted 2 [some (.ref 48), none, some (.int a2), some (.int (a3 + 1)), none] [] (hp I J b) 64 64 Q) ∧ (¬ (I 48 0) ≤ (I 48 26) → (((I 48 0) ≤ (I 48 27) → am_R E mX10_nextWanted 2 [some (.ref 48), none, some (.int a2), some (.int (a3 + 1)), none] [] (hp I J b) 64 64 Q) ∧ (¬ (I 48 0) ≤ (I 48 27) → ((¬ a2 = 2 → (((I 48 28) ≤ (I 48 26) → am_R E mX10_nextWanted 2 [some (.ref 48), none, some (.int a2), some (.int (a3 + 1)), none] [] (hp I J b) 64 64 Q) ∧ (¬ (I 48 28) ≤ (I 48 26) → (((I 48 28) = (I 48 27) → am_R E mX10_nextWanted 2 [some (.ref 48), none, some (.int a2), some (.int (a3 + 1)), none] [] (hp I J b) 64 64 Q) ∧ (¬ (I 48 28) = (I 48 27) → (((I 48 0) ≤ (I 48 28) → am_R E mX10_nextWanted 2 [some (.ref 48), none, some (.int a2), some (.int (a3 + 1)), none] [] (hp I J b) 64 64 Q) ∧ (¬ (I 48 0) ≤ (I 48 28) → am_R E mX10_isWanted 0 [some (.ref 48), some (.int (I 48 26)), some (.int (I 48 27)), some (.int (I 48 28))] [] (hp I J b) 64 64 (fun r h' => am_R E mX10_nextWanted 128 [some (.ref 48), none, some (.int a2), some (.int a3), none] (r.toList ++ []) h' 64 64 Q)))))))) ∧ (a2 = 2 → ((¬ (a3 - a3 / 8 * 8) = 0 → am_R E mX10_nextWanted 2 [some (.ref 48), none, some (.int a2), some (.int (a3 + 1)), none] [] (hp I J b) 64 64 Q) ∧ ((a3 - a3 / 8 * 8) = 0 → am_R E mX10_isWanted 0 [some (.ref 48), some (.int (I 48 26)), some (.int (I 48 27)), some (.int (I 48 28))] [] (hp I J b) 64 64 (fun r h' => am_R E mX10_nextWanted 128 [some (.ref 48), none, some (.int a2), some (.int a3), none] (r.toList ++ []) h' 64 64 Q)))))))))))) : am_R E mX10_nextWanted 19 [some (.ref 48), none, some (.int a2), some (.int a3), none] [] (hp I J b) 64 64 Q := by
  refine am_aload_n rfl rfl dX10_nextWanted_19 ?_
  refine am_getI dX10_nextWanted_20 flX10_207 (Or.inl rfl) rfl (by decide) ?_
  refine am_aload_n rfl rfl dX10_nextWanted_23 ?_
  refine am_getI dX10_nextWanted_24 flX10_204 (Or.inl rfl) rfl (by decide) ?_
  refine am_icmp_le dX10_nextWanted_27 (tgt := 104) rfl (fun hc1 => ?_) (fun hc1 => ?_)
  · have wp := wp.1 hc1
    refine am_iconst 0 rfl dX10_nextWanted_104 ?_
    refine am_istore (ls' := [some (.ref 48), none, some (.int a2), some (.int a3), some (.int 0)]) (by decide) rfl rfl dX10_nextWanted_105 ?_
    refine am_iload rfl dX10_nextWanted_107 ?_
    refine am_if_eq dX10_nextWanted_109 (tgt := 133) rfl (fun _ => ?_) (fun hc => absurd hc (by decide))
    refine am_iinc (ls' := [some (.ref 48), none, some (.int a2), some (.int (a3 + 1)), some (.int 0)]) (by decide) rfl rfl rfl dX10_nextWanted_133 ?_
    refine am_goto dX10_nextWanted_136 (tgt := 2) rfl ?_
    exact am_R.forget wp ⟨rfl, ⟨rfl, ⟨rfl, trivial⟩⟩⟩
  · have wp := wp.2 hc1
    refine am_aload_n rfl rfl dX10_nextWanted_30 ?_
    refine am_getI dX10_nextWanted_31 flX10_204 (Or.inl rfl) rfl (by decide) ?_
    refine am_aload_n rfl rfl dX10_nextWanted_34 ?_
    refine am_getI dX10_nextWanted_35 flX10_7 (Or.inl rfl) rfl (by decide) ?_
    refine am_icmp_ge dX10_nextWanted_38 (tgt := 104) rfl (fun hc2 => ?_) (fun hc2 => ?_)
    · have wp := wp.1 hc2
      refine am_iconst 0 rfl dX10_nextWanted_104 ?_
      refine am_istore (ls' := [some (.ref 48), none, some (.int a2), some (.int a3), some (.int 0)]) (by decide) rfl rfl dX10_nextWanted_105 ?_
      refine am_iload rfl dX10_nextWanted_107 ?_
      refine am_if_eq dX10_nextWanted_109 (tgt := 133) rfl (fun _ => ?_) (fun hc => absurd hc (by decide))
      refine am_iinc (ls' := [some (.ref 48), none, some (.int a2), some (.int (a3 + 1)), some (.int 0)]) (by decide) rfl rfl rfl dX10_nextWanted_133 ?_
      refine am_goto dX10_nextWanted_136 (tgt := 2) rfl ?_
      exact am_R.forget wp ⟨rfl, ⟨rfl, ⟨rfl, trivial⟩⟩⟩
    · have wp := wp.2 hc2
      refine am_aload_n rfl rfl dX10_nextWanted_41 ?_
      refine am_getI dX10_nextWanted_42 flX10_207 (Or.inl rfl) rfl (by decide) ?_
      refine am_aload_n rfl rfl dX10_nextWanted_45 ?_
      refine am_getI dX10_nextWanted_46 flX10_7 (Or.inl rfl) rfl (by decide) ?_
      refine am_icmp_ge dX10_nextWanted_49 (tgt := 104) rfl (fun hc3 => ?_) (fun hc3 => ?_)
      · have wp := wp.1 hc3
        refine am_iconst 0 rfl dX10_nextWanted_104 ?_
        refine am_istore (ls' := [some (.ref 48), none, some (.int a2), some (.int a3), some (.int 0)]) (by decide) rfl rfl dX10_nextWanted_105 ?_
        refine am_iload rfl dX10_nextWanted_107 ?_
        refine am_if_eq dX10_nextWanted_109 (tgt := 133) rfl (fun _ => ?_) (fun hc => absurd hc (by decide))
        refine am_iinc (ls' := [some (.ref 48), none, some (.int a2), some (.int (a3 + 1)), some (.int 0)]) (by decide) rfl rfl rfl dX10_nextWanted_133 ?_
        refine am_goto dX10_nextWanted_136 (tgt := 2) rfl ?_
        exact am_R.forget wp ⟨rfl, ⟨rfl, ⟨rfl, trivial⟩⟩⟩
      · have wp := wp.2 hc3
        refine am_iload_n rfl rfl dX10_nextWanted_52 ?_
        refine am_iconst 2 rfl dX10_nextWanted_53 ?_
        refine am_icmp_ne dX10_nextWanted_54 (tgt := 67) rfl (fun hc4 => ?_) (fun hc4 => ?_)
        · have wp := wp.1 hc4
          refine am_aload_n rfl rfl dX10_nextWanted_67 ?_
          refine am_getI dX10_nextWanted_68 flX10_210 (Or.inl rfl) rfl (by decide) ?_
          refine am_aload_n rfl rfl dX10_nextWanted_71 ?_
          refine am_getI dX10_nextWanted_72 flX10_204 (Or.inl rfl) rfl (by decide) ?_
          refine am_icmp_le dX10_nextWanted_75 (tgt := 104) rfl (fun hc5 => ?_) (fun hc5 => ?_)
          · have wp := wp.1 hc5
            refine am_iconst 0 rfl dX10_nextWanted_104 ?_
            refine am_istore (ls' := [some (.ref 48), none, some (.int a2), some (.int a3), some (.int 0)]) (by decide) rfl rfl dX10_nextWanted_105 ?_
            refine am_iload rfl dX10_nextWanted_107 ?_
            refine am_if_eq dX10_nextWanted_109 (tgt := 133) rfl (fun _ => ?_) (fun hc => absurd hc (by decide))
            refine am_iinc (ls' := [some (.ref 48), none, some (.int a2), some (.int (a3 + 1)), some (.int 0)]) (by decide) rfl rfl rfl dX10_nextWanted_133 ?_
            refine am_goto dX10_nextWanted_136 (tgt := 2) rfl ?_
            exact am_R.forget wp ⟨rfl, ⟨rfl, ⟨rfl, trivial⟩⟩⟩
          · have wp := wp.2 hc5
            refine am_aload_n rfl rfl dX10_nextWanted_78 ?_
            refine am_getI dX10_nextWanted_79 flX10_210 (Or.inl rfl) rfl (by decide) ?_
            refine am_aload_n rfl rfl dX10_nextWanted_82 ?_
            refine am_getI dX10_nextWanted_83 flX10_207 (Or.inl rfl) rfl (by decide) ?_
            refine am_icmp_eq dX10_nextWanted_86 (tgt := 104) rfl (fun hc6 => ?_) (fun hc6 => ?_)
            · have wp := wp.1 hc6
              refine am_iconst 0 rfl dX10_nextWanted_104 ?_
              refine am_istore (ls' := [some (.ref 48), none, some (.int a2), some (.int a3), some (.int 0)]) (by decide) rfl rfl dX10_nextWanted_105 ?_
              refine am_iload rfl dX10_nextWanted_107 ?_
              refine am_if_eq dX10_nextWanted_109 (tgt := 133) rfl (fun _ => ?_) (fun hc => absurd hc (by decide))
              refine am_iinc (ls' := [some (.ref 48), none, some (.int a2), some (.int (a3 + 1)), some (.int 0)]) (by decide) rfl rfl rfl dX10_nextWanted_133 ?_
              refine am_goto dX10_nextWanted_136 (tgt := 2) rfl ?_
              exact am_R.forget wp ⟨rfl, ⟨rfl, ⟨rfl, trivial⟩⟩⟩
            · have wp := wp.2 hc6
              refine am_aload_n rfl rfl dX10_nextWanted_89 ?_
              refine am_getI dX10_nextWanted_90 flX10_210 (Or.inl rfl) rfl (by decide) ?_
              refine am_aload_n rfl rfl dX10_nextWanted_93 ?_
              refine am_getI dX10_nextWanted_94 flX10_7 (Or.inl rfl) rfl (by decide) ?_
              refine am_icmp_ge dX10_nextWanted_97 (tgt := 104) rfl (fun hc7 => ?_) (fun hc7 => ?_)
              · have wp := wp.1 hc7
                refine am_iconst 0 rfl dX10_nextWanted_104 ?_
                refine am_istore (ls' := [some (.ref 48), none, some (.int a2), some (.int a3), some (.int 0)]) (by decide) rfl rfl dX10_nextWanted_105 ?_
                refine am_iload rfl dX10_nextWanted_107 ?_
                refine am_if_eq dX10_nextWanted_109 (tgt := 133) rfl (fun _ => ?_) (fun hc => absurd hc (by decide))
                refine am_iinc (ls' := [some (.ref 48), none, some (.int a2), some (.int (a3 + 1)), some (.int 0)]) (by decide) rfl rfl rfl dX10_nextWanted_133 ?_
                refine am_goto dX10_nextWanted_136 (tgt := 2) rfl ?_
                exact am_R.forget wp ⟨rfl, ⟨rfl, ⟨rfl, trivial⟩⟩⟩
              · have wp := wp.2 hc7
                refine am_iconst 1 rfl dX10_nextWanted_100 ?_
                refine am_goto dX10_nextWanted_101 (tgt := 105) rfl ?_
                refine am_istore (ls' := [some (.ref 48), none, some (.int a2), some (.int a3), some (.int 1)]) (by decide) rfl rfl dX10_nextWanted_105 ?_
                refine am_iload rfl dX10_nextWanted_107 ?_
                refine am_if_eq dX10_nextWanted_109 (tgt := 133) rfl (fun hc => absurd hc (by decide)) (fun _ => ?_)
                refine am_aload_n rfl rfl dX10_nextWanted_112 ?_
                refine am_aload_n rfl rfl dX10_nextWanted_113 ?_
                refine am_getI dX10_nextWanted_114 flX10_204 (Or.inl rfl) rfl (by decide) ?_
                refine am_aload_n rfl rfl dX10_nextWanted_117 ?_
                refine am_getI dX10_nextWanted_118 flX10_207 (Or.inl rfl) rfl (by decide) ?_
                refine am_aload_n rfl rfl dX10_nextWanted_121 ?_
                refine am_getI dX10_nextWanted_122 flX10_210 (Or.inl rfl) rfl (by decide) ?_
                refine am_invV (ci := 8) (As := [.int (I 48 26), .int (I 48 27), .int (I 48 28)]) (lsZ := [some (.ref 48), some (.int (I 48 26)), some (.int (I 48 27)), some (.int (I 48 28))]) (st := []) dX10_nextWanted_125 hX10_isWanted lkX10_193 ⟨by decide, by decide⟩ (by decide) rfl (by decide) rfl rfl rfl (Nat.le_of_ble_eq_true rfl) rfl (Nat.le_of_ble_eq_true rfl) ⟨Nat.le_refl _, Nat.le_refl _⟩ (am_R.mono wp (fun r h' q => am_R.forget q ⟨rfl, ⟨rfl, ⟨rfl, trivial⟩⟩⟩))
        · have wp := wp.2 hc4
          refine am_iload_n rfl rfl dX10_nextWanted_57 ?_
          refine am_bipush 8 rfl dX10_nextWanted_58 ?_
          refine am_irem (by decide) dX10_nextWanted_60 ?_
          refine am_if_ne dX10_nextWanted_61 (tgt := 104) rfl (fun hc8 => ?_) (fun hc8 => ?_)
          · have wp := wp.1 hc8
            refine am_iconst 0 rfl dX10_nextWanted_104 ?_
            refine am_istore (ls' := [some (.ref 48), none, some (.int a2), some (.int a3), some (.int 0)]) (by decide) rfl rfl dX10_nextWanted_105 ?_
            refine am_iload rfl dX10_nextWanted_107 ?_
            refine am_if_eq dX10_nextWanted_109 (tgt := 133) rfl (fun _ => ?_) (fun hc => absurd hc (by decide))
            refine am_iinc (ls' := [some (.ref 48), none, some (.int a2), some (.int (a3 + 1)), some (.int 0)]) (by decide) rfl rfl rfl dX10_nextWanted_133 ?_
            refine am_goto dX10_nextWanted_136 (tgt := 2) rfl ?_
            exact am_R.forget wp ⟨rfl, ⟨rfl, ⟨rfl, trivial⟩⟩⟩
          · have wp := wp.2 hc8
            refine am_goto dX10_nextWanted_64 (tgt := 100) rfl ?_
            refine am_iconst 1 rfl dX10_nextWanted_100 ?_
            refine am_goto dX10_nextWanted_101 (tgt := 105) rfl ?_
            refine am_istore (ls' := [some (.ref 48), none, some (.int a2), some (.int a3), some (.int 1)]) (by decide) rfl rfl dX10_nextWanted_105 ?_
            refine am_iload rfl dX10_nextWanted_107 ?_
            refine am_if_eq dX10_nextWanted_109 (tgt := 133) rfl (fun hc => absurd hc (by decide)) (fun _ => ?_)
            refine am_aload_n rfl rfl dX10_nextWanted_112 ?_
            refine am_aload_n rfl rfl dX10_nextWanted_113 ?_
            refine am_getI dX10_nextWanted_114 flX10_204 (Or.inl rfl) rfl (by decide) ?_
            refine am_aload_n rfl rfl dX10_nextWanted_117 ?_
            refine am_getI dX10_nextWanted_118 flX10_207 (Or.inl rfl) rfl (by decide) ?_
            refine am_aload_n rfl rfl dX10_nextWanted_121 ?_
            refine am_getI dX10_nextWanted_122 flX10_210 (Or.inl rfl) rfl (by decide) ?_
            refine am_invV (ci := 8) (As := [.int (I 48 26), .int (I 48 27), .int (I 48 28)]) (lsZ := [some (.ref 48), some (.int (I 48 26)), some (.int (I 48 27)), some (.int (I 48 28))]) (st := []) dX10_nextWanted_125 hX10_isWanted lkX10_193 ⟨by decide, by decide⟩ (by decide) rfl (by decide) rfl rfl rfl (Nat.le_of_ble_eq_true rfl) rfl (Nat.le_of_ble_eq_true rfl) ⟨Nat.le_refl _, Nat.le_refl _⟩ (am_R.mono wp (fun r h' q => am_R.forget q ⟨rfl, ⟨rfl, ⟨rfl, trivial⟩⟩⟩))
theorem bX10_nextWanted_128 {E : Nat × (Nat → Int32)} {I : Nat → Nat → Int32} {J : Nat → Nat → Int64} {b : Bool} {a2 : Int32} {a3 : Int32} {x0 : Int32} {Q : Option Value → am_H → Prop}  (wp : ((x0 = 0 → am_R E mX10_nextWanted 2 [some (.ref 48), none, some (.int a2), some (.int (a3 + 1)), none] [] (hp I J b) 64 64 Q) ∧ (¬ x0 = 0 → Q (some (.int a3)) (hp I J b)))) : am_R E mX10_nextWanted 128 [some (.ref 48), none, some (.int a2), some (.int a3), none] [.int x0] (hp I J b) 64 64 Q := by
  refine am_if_eq dX10_nextWanted_128 (tgt := 133) rfl (fun hc1 => ?_) (fun hc1 => ?_)
  · have wp := wp.1 hc1
    refine am_iinc (ls' := [some (.ref 48), none, some (.int a2), some (.int (a3 + 1)), none]) (by decide) rfl rfl rfl dX10_nextWanted_133 ?_
    refine am_goto dX10_nextWanted_136 (tgt := 2) rfl ?_
    exact am_R.forget wp ⟨rfl, ⟨rfl, ⟨rfl, trivial⟩⟩⟩
  · have wp := wp.2 hc1
    refine am_iload_n rfl rfl dX10_nextWanted_131 ?_
    exact am_iret dX10_nextWanted_132 rfl rfl wp
theorem eq_br {x y : Int32} {A B : Prop} {n m : Nat} (hx : x = nI n) (hy : y = nI m) (hn : n < 2 ^ 31) (hm : m < 2 ^ 31) (f : n = m → A) (g : n ≠ m → B) : (x = y → A) ∧ (¬ x = y → B) := by
  subst hx; subst hy
  exact ⟨fun h => f ((nI_eq hn hm).mp h), fun h => g (fun q => h ((nI_eq hn hm).mpr q))⟩
theorem ne_br {x y : Int32} {A B : Prop} {n m : Nat} (hx : x = nI n) (hy : y = nI m) (hn : n < 2 ^ 31) (hm : m < 2 ^ 31) (f : n = m → A) (g : n ≠ m → B) : (¬ x = y → B) ∧ (x = y → A) := (eq_br hx hy hn hm f g).symm
theorem tX10_nextWanted {a1 a2 : Int32} {n f by' : Nat} {p : Nat → Nat} (hN : Nn I n) (hY : Yw I n) (hR : Rw (I 58) p n) (ef : a1 = nI f) (hf : f ≤ 448) (eb : a2 = nI by') (hb : by' ≤ 3)
    (kN : (∀ c, f ≤ c → c < 448 → ¬ wc I n by' p c) → ∀ x y z, Q (some (.int (-1))) (hp (rg I x y z) J b))
    (kS : ∀ c, f ≤ c → c < 448 → wc I n by' p c → (∀ c', f ≤ c' → c' < c → ¬ wc I n by' p c') → Q (some (.int (nI c))) (hp (rg I (nI (c / 64)) (nI (c / 8 % 8)) (if by' = 2 then -1 else nI (c % 8))) J b)) :
    am_R E mX10_nextWanted 0 [some (.ref 48), some (.int a1), some (.int a2), none, none] [] (hp I J b) 64 64 Q := by
  subst ef; subst eb
  obtain ⟨h0, h2, h7⟩ := hN
  refine bX10_nextWanted_0 ?_
  have key : ∀ j c, c + j = 448 → f ≤ c → (∀ c', f ≤ c' → c' < c → ¬ wc I n by' p c') → ∀ x y z, am_R E mX10_nextWanted 2 [some (.ref 48), none, some (.int (nI by')), some (.int (nI c)), none] [] (hp (rg I x y z) J b) 64 64 Q := by
    intro j
    induction j with
    | zero =>
      intro c hc hfc hno x y z
      have e : c = 448 := by omega
      subst e
      exact bX10_nextWanted_2 (le_br (n := 448) rfl rfl (by omega) (by omega) (fun _ => kN hno x y z) (fun h => by omega))
    | succ j ih =>
      intro c hc hfc hno x y z
      refine bX10_nextWanted_2 (le_br (n := 448) rfl rfl (by omega) (by omega) (fun h => by omega) (fun _ => le_br (m := 0) rfl rfl (by omega) (by omega) (fun hz => ?_) (fun hz => ?_)))
      · refine kN (fun c' h1 h2 h3 => h3.1 (by omega)) x y z
      · have next : ¬ wc I n by' p c → am_R E mX10_nextWanted 2 [some (.ref 48), none, some (.int (nI by')), some (.int (nI c + 1)), none] [] (hp (rg I (nI (c / 64)) (nI (c / 8 % 8)) (if nI by' = 2 then -1 else nI (c % 8))) J b) 64 64 Q := by
          intro hw
          rw [n1]
          refine ih (c + 1) (by omega) (by omega) (fun c' q1 q2 => ?_) _ _ _
          rcases Nat.lt_or_ge c' c with q | q
          · exact hno c' q1 q
          · rw [show c' = c by omega]; exact hw
        have eb2 : (nI by' = 2) ↔ by' = 2 := by
          rw [show (2 : Int32) = nI 2 from rfl]; exact nI_eq (by omega) (by omega)
        have ei : (if nI by' = 2 then (-1 : Int32) else nI (c % 8)) = if by' = 2 then -1 else nI (c % 8) := by
          by_cases q : by' = 2
          · rw [if_pos q, if_pos (eb2.mpr q)]
          · rw [if_neg q, if_neg (fun z => q (eb2.mp z))]
        refine tX10_takeRing rfl (by omega) ?_
        rw [rg_rg]
        show am_R E mX10_nextWanted 19 [some (.ref 48), none, some (.int (nI by')), some (.int (nI c)), none] [] (hp (rg I (nI (c / 64)) (nI (c / 8 % 8)) (if nI by' = 2 then -1 else nI (c % 8))) J b) 64 64 Q
        refine bX10_nextWanted_19 (le_br (n := c / 8 % 8) (m := c / 64) rfl rfl (by omega) (by omega) (fun q1 => next (fun z => by omega)) (fun q1 => le_br (n := n) (m := c / 64) h0 rfl (by omega) (by omega) (fun q2 => next (fun z => by omega)) (fun q2 => le_br (n := n) (m := c / 8 % 8) h0 rfl (by omega) (by omega) (fun q3 => next (fun z => by omega)) (fun q3 => ⟨fun q4 => ?_, fun q4 => ?_⟩))))
        · have b2 : by' ≠ 2 := fun z => q4 (eb2.mpr z)
          have ec : (rg I (nI (c / 64)) (nI (c / 8 % 8)) (if nI by' = 2 then -1 else nI (c % 8))) 48 28 = nI (c % 8) := by
            show (if nI by' = 2 then (-1 : Int32) else nI (c % 8)) = _
            rw [if_neg q4]
          refine le_br (n := c % 8) (m := c / 64) ec rfl (by omega) (by omega) (fun q5 => next (fun z => ?_)) (fun q5 => eq_br (n := c % 8) (m := c / 8 % 8) ec rfl (by omega) (by omega) (fun q6 => next (fun z => ?_)) (fun q6 => le_br (n := n) (m := c % 8) h0 ec (by omega) (by omega) (fun q7 => next (fun z => ?_)) (fun q7 => ?_)))
          · rcases z.2.2 with ⟨w, -⟩ | ⟨-, w, -⟩
            · exact b2 w
            · omega
          · rcases z.2.2 with ⟨w, -⟩ | ⟨-, w, -⟩
            · exact b2 w
            · omega
          · rcases z.2.2 with ⟨w, -⟩ | ⟨-, w, -⟩
            · exact b2 w
            · omega
          · refine tX10_isWanted3 (I := rg I _ _ _) (n := n) (p := p) rfl rfl ec h7 (by omega) (by omega) (by omega) hY hR (fun w => ?_) (fun w => ?_)
            · refine bX10_nextWanted_128 (z01 rfl ?_)
              rw [ei]
              exact kS c hfc (by omega) ⟨by omega, ⟨by omega, by omega, by omega⟩, Or.inr ⟨b2, ⟨by omega, by omega, by omega⟩, w⟩⟩ hno
            · refine bX10_nextWanted_128 (z00 rfl (next (fun z => ?_)))
              rcases z.2.2 with ⟨v, -⟩ | ⟨-, -, v⟩
              · exact b2 v
              · exact w v
        · have b2 : by' = 2 := eb2.mp q4
          have e8 : nI c - nI c / 8 * 8 = nI (c % 8) := by rw [show (8 : Int32) = nI 8 from rfl, pk_rem (by omega) (by omega) (by omega)]
          refine ne_br (n := c % 8) (m := 0) e8 rfl (by omega) (by omega) (fun q5 => ?_) (fun q5 => next (fun z => ?_))
          · refine tX10_isWanted2 (I := rg I _ _ _) (n := n) (p := p) rfl rfl ?_ h7 (by omega) (by omega) hY hR (fun w => ?_) (fun w => ?_)
            · show (if nI by' = 2 then (-1 : Int32) else nI (c % 8)) = -1
              rw [if_pos q4]
            · refine bX10_nextWanted_128 (z01 rfl ?_)
              rw [ei]
              exact kS c hfc (by omega) ⟨by omega, ⟨by omega, by omega, by omega⟩, Or.inl ⟨b2, q5, w⟩⟩ hno
            · refine bX10_nextWanted_128 (z00 rfl (next (fun z => ?_)))
              rcases z.2.2 with ⟨-, -, v⟩ | ⟨v, -⟩
              · exact w v
              · exact v b2
          · rcases z.2.2 with ⟨-, v, -⟩ | ⟨v, -⟩
            · exact q5 v
            · exact v b2
  have := key (448 - f) f (by omega) (Nat.le_refl _) (fun c' q1 q2 => by omega) (I 48 26) (I 48 27) (I 48 28)
  rw [rg_self] at this
  exact this
end M3
