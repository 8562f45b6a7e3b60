/-! ===== pair: as ===== -/
section P3
variable {E : Nat × (Nat → Int32)} {I : Nat → Nat → Int32} {J : Nat → Nat → Int64} {b : Bool} {n : Nat} {Q : Option Value → am_H → Prop}
theorem nz (x : Nat) : nI x + 0 = nI x := by rw [show (0 : Int32) = nI 0 from rfl, nI_add, Nat.add_zero]
/-- is a duty of the kind kd one of the kind k -/
def isk (kd k : Nat) : Bool := k == 0 || (if k = 1 then decide (kd < 2) else if k = 2 then kd == 1 else if k = 3 then decide (1 < kd) else kd == 3)
theorem bX2_isA_0 {E : Nat × (Nat → Int32)} {I : Nat → Nat → Int32} {J : Nat → Nat → Int64} {b : Bool} {a1 : Int32} {a2 : Int32} {Q : Option Value → am_H → Prop}  (wp : ∃ j1, a1 = nI j1 ∧ j1 < 7 ∧ am_R E mX2_isA 10 [none, none, some (.int a2), some (.int (I 7 j1)), some (.int 0)] [] (hp I J b) 64 64 Q) : am_R E mX2_isA 0 [some (.ref 4), some (.int a1), some (.int a2), none, none] [] (hp I J b) 64 64 Q := by
  refine am_aload_n rfl rfl dX2_isA_0 ?_
  refine am_getA (r := 7) dX2_isA_1 flX2_18 (Or.inr ⟨_, rfl⟩) rfl (by decide) rfl ?_
  refine am_iload_n rfl rfl dX2_isA_4 ?_
  obtain ⟨j1, e1, w1, wp⟩ := wp
  refine am_ialdN (j := j1) dX2_isA_5 rfl (by decide) e1 w1 (by decide) ?_
  refine am_istore_n (ls' := [some (.ref 4), some (.int a1), some (.int a2), some (.int (I 7 j1)), none]) rfl (by decide) rfl rfl dX2_isA_6 ?_
  refine am_iconst 0 rfl dX2_isA_7 ?_
  refine am_istore (ls' := [some (.ref 4), some (.int a1), some (.int a2), some (.int (I 7 j1)), some (.int 0)]) (by decide) rfl rfl dX2_isA_8 ?_
  exact am_R.forget wp ⟨rfl, ⟨rfl, ⟨rfl, trivial⟩⟩⟩
theorem bX2_isA_10 {E : Nat × (Nat → Int32)} {I : Nat → Nat → Int32} {J : Nat → Nat → Int64} {b : Bool} {a2 : Int32} {a3 : Int32} {a4 : Int32} {Q : Option Value → am_H → Prop}  (wp : ((5 ≤ a4 → Q (some (.int 0)) (hp I J b)) ∧ (¬ 5 ≤ a4 → ((a3 = (-1) → Q (some (.int 0)) (hp I J b)) ∧ (¬ a3 = (-1) → ((¬ a3 = a2 → ∃ j4, a3 = nI j4 ∧ j4 < 5 ∧ am_R E mX2_isA 10 [none, none, some (.int a2), some (.int (am_ov j4)), some (.int (a4 + 1))] [] (hp I J b) 64 64 Q) ∧ (a3 = a2 → Q (some (.int 1)) (hp I J b)))))))) : am_R E mX2_isA 10 [none, none, some (.int a2), some (.int a3), some (.int a4)] [] (hp I J b) 64 64 Q := by
  refine am_iload rfl dX2_isA_10 ?_
  refine am_iconst 5 rfl dX2_isA_12 ?_
  refine am_icmp_ge dX2_isA_13 (tgt := 40) rfl (fun hc1 => ?_) (fun hc1 => ?_)
  · have wp := wp.1 hc1
    refine am_iconst 0 rfl dX2_isA_40 ?_
    exact am_iret dX2_isA_41 rfl (by decide) wp
  · have wp := wp.2 hc1
    refine am_iload_n rfl rfl dX2_isA_16 ?_
    refine am_iconst (-1) rfl dX2_isA_17 ?_
    refine am_icmp_eq dX2_isA_18 (tgt := 40) rfl (fun hc2 => ?_) (fun hc2 => ?_)
    · have wp := wp.1 hc2
      refine am_iconst 0 rfl dX2_isA_40 ?_
      exact am_iret dX2_isA_41 rfl (by decide) wp
    · have wp := wp.2 hc2
      refine am_iload_n rfl rfl dX2_isA_21 ?_
      refine am_iload_n rfl rfl dX2_isA_22 ?_
      refine am_icmp_ne dX2_isA_23 (tgt := 28) rfl (fun hc3 => ?_) (fun hc3 => ?_)
      · have wp := wp.1 hc3
        refine am_gsON dX2_isA_28 (by decide +kernel) ?_
        refine am_iload_n rfl rfl dX2_isA_31 ?_
        obtain ⟨j4, e4, w4, wp⟩ := wp
        refine am_ildON (j := j4) dX2_isA_32 e4 w4 ?_
        refine am_istore_n (ls' := [none, none, some (.int a2), some (.int (am_ov j4)), some (.int a4)]) rfl (by decide) rfl rfl dX2_isA_33 ?_
        refine am_iinc (ls' := [none, none, some (.int a2), some (.int (am_ov j4)), some (.int (a4 + 1))]) (by decide) rfl rfl rfl dX2_isA_34 ?_
        refine am_goto dX2_isA_37 (tgt := 10) rfl ?_
        exact am_R.forget wp ⟨rfl, ⟨rfl, ⟨rfl, trivial⟩⟩⟩
      · have wp := wp.2 hc3
        refine am_iconst 1 rfl dX2_isA_26 ?_
        exact am_iret dX2_isA_27 rfl (by decide) wp
theorem tX2_isA10 {kd k : Nat} (hkd : kd < 4) (hk : k < 5) (k1 : isk kd k = true → Q (some (.int 1)) (hp I J b)) (k0 : isk kd k = false → Q (some (.int 0)) (hp I J b)) : am_R E mX2_isA 10 [none, none, some (.int (nI k)), some (.int (nI (kd + 1))), some (.int 0)] [] (hp I J b) 64 64 Q := by
  rcases (show kd = 0 ∨ kd = 1 ∨ kd = 2 ∨ kd = 3 by omega) with rfl | rfl | rfl | rfl
  · rcases (show k = 0 ∨ k = 1 ∨ k = 2 ∨ k = 3 ∨ k = 4 by omega) with rfl | rfl | rfl | rfl | rfl
    · refine bX2_isA_10 ⟨fun h => absurd h (by decide), fun _ => ⟨fun h => absurd h (by decide), fun _ => ⟨fun _ => ⟨1, rfl, by decide, ?_⟩, fun h => absurd h (by decide)⟩⟩⟩
      exact bX2_isA_10 ⟨fun h => absurd h (by decide), fun _ => ⟨fun h => absurd h (by decide), fun _ => ⟨fun h => absurd rfl h, fun _ => k1 (by decide)⟩⟩⟩
    · exact bX2_isA_10 ⟨fun h => absurd h (by decide), fun _ => ⟨fun h => absurd h (by decide), fun _ => ⟨fun h => absurd rfl h, fun _ => k1 (by decide)⟩⟩⟩
    · refine bX2_isA_10 ⟨fun h => absurd h (by decide), fun _ => ⟨fun h => absurd h (by decide), fun _ => ⟨fun _ => ⟨1, rfl, by decide, ?_⟩, fun h => absurd h (by decide)⟩⟩⟩
      refine bX2_isA_10 ⟨fun h => absurd h (by decide), fun _ => ⟨fun h => absurd h (by decide), fun _ => ⟨fun _ => ⟨0, rfl, by decide, ?_⟩, fun h => absurd h (by decide)⟩⟩⟩
      exact bX2_isA_10 ⟨fun h => absurd h (by decide), fun _ => ⟨fun _ => k0 (by decide), fun h => absurd rfl h⟩⟩
    · refine bX2_isA_10 ⟨fun h => absurd h (by decide), fun _ => ⟨fun h => absurd h (by decide), fun _ => ⟨fun _ => ⟨1, rfl, by decide, ?_⟩, fun h => absurd h (by decide)⟩⟩⟩
      refine bX2_isA_10 ⟨fun h => absurd h (by decide), fun _ => ⟨fun h => absurd h (by decide), fun _ => ⟨fun _ => ⟨0, rfl, by decide, ?_⟩, fun h => absurd h (by decide)⟩⟩⟩
      exact bX2_isA_10 ⟨fun h => absurd h (by decide), fun _ => ⟨fun _ => k0 (by decide), fun h => absurd rfl h⟩⟩
    · refine bX2_isA_10 ⟨fun h => absurd h (by decide), fun _ => ⟨fun h => absurd h (by decide), fun _ => ⟨fun _ => ⟨1, rfl, by decide, ?_⟩, fun h => absurd h (by decide)⟩⟩⟩
      refine bX2_isA_10 ⟨fun h => absurd h (by decide), fun _ => ⟨fun h => absurd h (by decide), fun _ => ⟨fun _ => ⟨0, rfl, by decide, ?_⟩, fun h => absurd h (by decide)⟩⟩⟩
      exact bX2_isA_10 ⟨fun h => absurd h (by decide), fun _ => ⟨fun _ => k0 (by decide), fun h => absurd rfl h⟩⟩
  · rcases (show k = 0 ∨ k = 1 ∨ k = 2 ∨ k = 3 ∨ k = 4 by omega) with rfl | rfl | rfl | rfl | rfl
    · refine bX2_isA_10 ⟨fun h => absurd h (by decide), fun _ => ⟨fun h => absurd h (by decide), fun _ => ⟨fun _ => ⟨2, rfl, by decide, ?_⟩, fun h => absurd h (by decide)⟩⟩⟩
      refine bX2_isA_10 ⟨fun h => absurd h (by decide), fun _ => ⟨fun h => absurd h (by decide), fun _ => ⟨fun _ => ⟨1, rfl, by decide, ?_⟩, fun h => absurd h (by decide)⟩⟩⟩
      exact bX2_isA_10 ⟨fun h => absurd h (by decide), fun _ => ⟨fun h => absurd h (by decide), fun _ => ⟨fun h => absurd rfl h, fun _ => k1 (by decide)⟩⟩⟩
    · refine bX2_isA_10 ⟨fun h => absurd h (by decide), fun _ => ⟨fun h => absurd h (by decide), fun _ => ⟨fun _ => ⟨2, rfl, by decide, ?_⟩, fun h => absurd h (by decide)⟩⟩⟩
      exact bX2_isA_10 ⟨fun h => absurd h (by decide), fun _ => ⟨fun h => absurd h (by decide), fun _ => ⟨fun h => absurd rfl h, fun _ => k1 (by decide)⟩⟩⟩
    · exact bX2_isA_10 ⟨fun h => absurd h (by decide), fun _ => ⟨fun h => absurd h (by decide), fun _ => ⟨fun h => absurd rfl h, fun _ => k1 (by decide)⟩⟩⟩
    · refine bX2_isA_10 ⟨fun h => absurd h (by decide), fun _ => ⟨fun h => absurd h (by decide), fun _ => ⟨fun _ => ⟨2, rfl, by decide, ?_⟩, fun h => absurd h (by decide)⟩⟩⟩
      refine bX2_isA_10 ⟨fun h => absurd h (by decide), fun _ => ⟨fun h => absurd h (by decide), fun _ => ⟨fun _ => ⟨1, rfl, by decide, ?_⟩, fun h => absurd h (by decide)⟩⟩⟩
      refine bX2_isA_10 ⟨fun h => absurd h (by decide), fun _ => ⟨fun h => absurd h (by decide), fun _ => ⟨fun _ => ⟨0, rfl, by decide, ?_⟩, fun h => absurd h (by decide)⟩⟩⟩
      exact bX2_isA_10 ⟨fun h => absurd h (by decide), fun _ => ⟨fun _ => k0 (by decide), fun h => absurd rfl h⟩⟩
    · refine bX2_isA_10 ⟨fun h => absurd h (by decide), fun _ => ⟨fun h => absurd h (by decide), fun _ => ⟨fun _ => ⟨2, rfl, by decide, ?_⟩, fun h => absurd h (by decide)⟩⟩⟩
      refine bX2_isA_10 ⟨fun h => absurd h (by decide), fun _ => ⟨fun h => absurd h (by decide), fun _ => ⟨fun _ => ⟨1, rfl, by decide, ?_⟩, fun h => absurd h (by decide)⟩⟩⟩
      refine bX2_isA_10 ⟨fun h => absurd h (by decide), fun _ => ⟨fun h => absurd h (by decide), fun _ => ⟨fun _ => ⟨0, rfl, by decide, ?_⟩, fun h => absurd h (by decide)⟩⟩⟩
      exact bX2_isA_10 ⟨fun h => absurd h (by decide), fun _ => ⟨fun _ => k0 (by decide), fun h => absurd rfl h⟩⟩
  · rcases (show k = 0 ∨ k = 1 ∨ k = 2 ∨ k = 3 ∨ k = 4 by omega) with rfl | rfl | rfl | rfl | rfl
    · refine bX2_isA_10 ⟨fun h => absurd h (by decide), fun _ => ⟨fun h => absurd h (by decide), fun _ => ⟨fun _ => ⟨3, rfl, by decide, ?_⟩, fun h => absurd h (by decide)⟩⟩⟩
      exact bX2_isA_10 ⟨fun h => absurd h (by decide), fun _ => ⟨fun h => absurd h (by decide), fun _ => ⟨fun h => absurd rfl h, fun _ => k1 (by decide)⟩⟩⟩
    · refine bX2_isA_10 ⟨fun h => absurd h (by decide), fun _ => ⟨fun h => absurd h (by decide), fun _ => ⟨fun _ => ⟨3, rfl, by decide, ?_⟩, fun h => absurd h (by decide)⟩⟩⟩
      refine bX2_isA_10 ⟨fun h => absurd h (by decide), fun _ => ⟨fun h => absurd h (by decide), fun _ => ⟨fun _ => ⟨0, rfl, by decide, ?_⟩, fun h => absurd h (by decide)⟩⟩⟩
      exact bX2_isA_10 ⟨fun h => absurd h (by decide), fun _ => ⟨fun _ => k0 (by decide), fun h => absurd rfl h⟩⟩
    · refine bX2_isA_10 ⟨fun h => absurd h (by decide), fun _ => ⟨fun h => absurd h (by decide), fun _ => ⟨fun _ => ⟨3, rfl, by decide, ?_⟩, fun h => absurd h (by decide)⟩⟩⟩
      refine bX2_isA_10 ⟨fun h => absurd h (by decide), fun _ => ⟨fun h => absurd h (by decide), fun _ => ⟨fun _ => ⟨0, rfl, by decide, ?_⟩, fun h => absurd h (by decide)⟩⟩⟩
      exact bX2_isA_10 ⟨fun h => absurd h (by decide), fun _ => ⟨fun _ => k0 (by decide), fun h => absurd rfl h⟩⟩
    · exact bX2_isA_10 ⟨fun h => absurd h (by decide), fun _ => ⟨fun h => absurd h (by decide), fun _ => ⟨fun h => absurd rfl h, fun _ => k1 (by decide)⟩⟩⟩
    · refine bX2_isA_10 ⟨fun h => absurd h (by decide), fun _ => ⟨fun h => absurd h (by decide), fun _ => ⟨fun _ => ⟨3, rfl, by decide, ?_⟩, fun h => absurd h (by decide)⟩⟩⟩
      refine bX2_isA_10 ⟨fun h => absurd h (by decide), fun _ => ⟨fun h => absurd h (by decide), fun _ => ⟨fun _ => ⟨0, rfl, by decide, ?_⟩, fun h => absurd h (by decide)⟩⟩⟩
      exact bX2_isA_10 ⟨fun h => absurd h (by decide), fun _ => ⟨fun _ => k0 (by decide), fun h => absurd rfl h⟩⟩
  · rcases (show k = 0 ∨ k = 1 ∨ k = 2 ∨ k = 3 ∨ k = 4 by omega) with rfl | rfl | rfl | rfl | rfl
    · refine bX2_isA_10 ⟨fun h => absurd h (by decide), fun _ => ⟨fun h => absurd h (by decide), fun _ => ⟨fun _ => ⟨4, rfl, by decide, ?_⟩, fun h => absurd h (by decide)⟩⟩⟩
      refine bX2_isA_10 ⟨fun h => absurd h (by decide), fun _ => ⟨fun h => absurd h (by decide), fun _ => ⟨fun _ => ⟨3, rfl, by decide, ?_⟩, fun h => absurd h (by decide)⟩⟩⟩
      exact bX2_isA_10 ⟨fun h => absurd h (by decide), fun _ => ⟨fun h => absurd h (by decide), fun _ => ⟨fun h => absurd rfl h, fun _ => k1 (by decide)⟩⟩⟩
    · refine bX2_isA_10 ⟨fun h => absurd h (by decide), fun _ => ⟨fun h => absurd h (by decide), fun _ => ⟨fun _ => ⟨4, rfl, by decide, ?_⟩, fun h => absurd h (by decide)⟩⟩⟩
      refine bX2_isA_10 ⟨fun h => absurd h (by decide), fun _ => ⟨fun h => absurd h (by decide), fun _ => ⟨fun _ => ⟨3, rfl, by decide, ?_⟩, fun h => absurd h (by decide)⟩⟩⟩
      refine bX2_isA_10 ⟨fun h => absurd h (by decide), fun _ => ⟨fun h => absurd h (by decide), fun _ => ⟨fun _ => ⟨0, rfl, by decide, ?_⟩, fun h => absurd h (by decide)⟩⟩⟩
      exact bX2_isA_10 ⟨fun h => absurd h (by decide), fun _ => ⟨fun _ => k0 (by decide), fun h => absurd rfl h⟩⟩
    · refine bX2_isA_10 ⟨fun h => absurd h (by decide), fun _ => ⟨fun h => absurd h (by decide), fun _ => ⟨fun _ => ⟨4, rfl, by decide, ?_⟩, fun h => absurd h (by decide)⟩⟩⟩
      refine bX2_isA_10 ⟨fun h => absurd h (by decide), fun _ => ⟨fun h => absurd h (by decide), fun _ => ⟨fun _ => ⟨3, rfl, by decide, ?_⟩, fun h => absurd h (by decide)⟩⟩⟩
      refine bX2_isA_10 ⟨fun h => absurd h (by decide), fun _ => ⟨fun h => absurd h (by decide), fun _ => ⟨fun _ => ⟨0, rfl, by decide, ?_⟩, fun h => absurd h (by decide)⟩⟩⟩
      exact bX2_isA_10 ⟨fun h => absurd h (by decide), fun _ => ⟨fun _ => k0 (by decide), fun h => absurd rfl h⟩⟩
    · refine bX2_isA_10 ⟨fun h => absurd h (by decide), fun _ => ⟨fun h => absurd h (by decide), fun _ => ⟨fun _ => ⟨4, rfl, by decide, ?_⟩, fun h => absurd h (by decide)⟩⟩⟩
      exact bX2_isA_10 ⟨fun h => absurd h (by decide), fun _ => ⟨fun h => absurd h (by decide), fun _ => ⟨fun h => absurd rfl h, fun _ => k1 (by decide)⟩⟩⟩
    · exact bX2_isA_10 ⟨fun h => absurd h (by decide), fun _ => ⟨fun h => absurd h (by decide), fun _ => ⟨fun h => absurd rfl h, fun _ => k1 (by decide)⟩⟩⟩
theorem tX2_isA {a1 a2 : Int32} {d kd k : Nat} (ed : a1 = nI d) (hd : d < 7) (e7 : I 7 d = nI (kd + 1)) (hkd : kd < 4) (ek : a2 = nI k) (hk : k < 5) (k1 : isk kd k = true → Q (some (.int 1)) (hp I J b)) (k0 : isk kd k = false → Q (some (.int 0)) (hp I J b)) : am_R E mX2_isA 0 [some (.ref 4), some (.int a1), some (.int a2), none, none] [] (hp I J b) 64 64 Q := by
  subst ed; subst ek
  refine bX2_isA_0 ⟨d, rfl, hd, ?_⟩
  rw [e7]
  exact tX2_isA10 hkd hk k1 k0
theorem bX9_as_0 {E : Nat × (Nat → Int32)} {I : Nat → Nat → Int32} {J : Nat → Nat → Int64} {b : Bool} {a1 : Int32} {a2 : Int32} {Q : Option Value → am_H → Prop}  (wp : (((0 ≤ a1 ∧ a1 < (I 4 0)) → ((a2 < 0 → Q (some (.int (-3))) (hp I J b)) ∧ (¬ a2 < 0 → ((a2 < 5 → am_R E mX2_isA 0 [some (.ref 4), some (.int a1), some (.int a2), none, none] [] (hp I J b) 64 64 (fun r h' => am_R E mX9_as 32 [some (.ref 0), some (.int a1), none, none, none] (r.toList ++ []) h' 64 64 Q)) ∧ (¬ a2 < 5 → Q (some (.int (-3))) (hp I J b)))))) ∧ (¬ (0 ≤ a1 ∧ a1 < (I 4 0)) → Q (some (.int (-2))) (hp I J b)))) : am_R E mX9_as 0 [some (.ref 0), some (.int a1), some (.int a2), none, none] [] (hp I J b) 64 64 Q := by
  refine am_aload_n rfl rfl dX9_as_0 ?_
  refine am_iload_n rfl rfl dX9_as_1 ?_
  refine am_invV (ci := 7) (As := [.int a1]) (lsZ := [some (.ref 0), some (.int a1)]) (st := []) dX9_as_2 hX9_isThere lkX9_122 ⟨by decide, by decide⟩ (by decide) rfl (by decide) rfl rfl rfl (Nat.le_of_ble_eq_true rfl) rfl (Nat.le_of_ble_eq_true rfl) ⟨Nat.le_refl _, Nat.le_refl _⟩ (tX9_isThere  (fun hc1 => ?_) (fun hc1 => ?_))
  · have wp := wp.1 hc1
    show am_R E mX9_as 5 [some (.ref 0), some (.int a1), some (.int a2), none, none] [.int 1] (hp I J b) 64 64 Q
    refine am_if_ne dX9_as_5 (tgt := 11) rfl (fun _ => ?_) (fun hc => absurd hc (by decide))
    refine am_iload_n rfl rfl dX9_as_11 ?_
    refine am_if_lt dX9_as_12 (tgt := 20) rfl (fun hc2 => ?_) (fun hc2 => ?_)
    · have wp := wp.1 hc2
      refine am_bipush (-3) rfl dX9_as_20 ?_
      exact am_iret dX9_as_22 rfl rfl wp
    · have wp := wp.2 hc2
      refine am_iload_n rfl rfl dX9_as_15 ?_
      refine am_iconst 5 rfl dX9_as_16 ?_
      refine am_icmp_lt dX9_as_17 (tgt := 23) rfl (fun hc3 => ?_) (fun hc3 => ?_)
      · have wp := wp.1 hc3
        refine am_aload_n rfl rfl dX9_as_23 ?_
        refine am_getA (r := 4) dX9_as_24 flX9_19 (Or.inl ⟨_, rfl⟩) rfl (by decide) rfl ?_
        refine am_iload_n rfl rfl dX9_as_27 ?_
        refine am_iload_n rfl rfl dX9_as_28 ?_
        refine am_invV (ci := 1) (As := [.int a1, .int a2]) (lsZ := [some (.ref 4), some (.int a1), some (.int a2), none, none]) (st := []) dX9_as_29 hX2_isA lkX9_137 ⟨by decide, by decide⟩ (by decide) rfl (by decide) rfl rfl rfl (Nat.le_of_ble_eq_true rfl) rfl (Nat.le_of_ble_eq_true rfl) ⟨Nat.le_refl _, Nat.le_refl _⟩ (am_R.mono wp (fun r h' q => am_R.forget q ⟨rfl, ⟨rfl, trivial⟩⟩))
      · have wp := wp.2 hc3
        refine am_bipush (-3) rfl dX9_as_20 ?_
        exact am_iret dX9_as_22 rfl rfl wp
  · have wp := wp.2 hc1
    show am_R E mX9_as 5 [some (.ref 0), some (.int a1), some (.int a2), none, none] [.int 0] (hp I J b) 64 64 Q
    refine am_if_ne dX9_as_5 (tgt := 11) rfl (fun hc => absurd hc (by decide)) (fun _ => ?_)
    refine am_bipush (-2) rfl dX9_as_8 ?_
    exact am_iret dX9_as_10 rfl rfl wp
theorem bX9_as_32 {E : Nat × (Nat → Int32)} {I : Nat → Nat → Int32} {J : Nat → Nat → Int64} {b : Bool} {a1 : Int32} {x0 : Int32} {Q : Option Value → am_H → Prop}  (wp : ((¬ x0 = 0 → am_R E mX9_as 43 [some (.ref 0), some (.int a1), none, some (.int 0), some (.int 0)] [] (hp I J b) 64 64 Q) ∧ (x0 = 0 → Q (some (.int (-4))) (hp I J b)))) : am_R E mX9_as 32 [some (.ref 0), some (.int a1), none, none, none] [.int x0] (hp I J b) 64 64 Q := by
  refine am_if_ne dX9_as_32 (tgt := 38) rfl (fun hc1 => ?_) (fun hc1 => ?_)
  · have wp := wp.1 hc1
    refine am_iconst 0 rfl dX9_as_38 ?_
    refine am_istore_n (ls' := [some (.ref 0), some (.int a1), none, some (.int 0), none]) rfl (by decide) rfl rfl dX9_as_39 ?_
    refine am_iconst 0 rfl dX9_as_40 ?_
    refine am_istore (ls' := [some (.ref 0), some (.int a1), none, some (.int 0), some (.int 0)]) (by decide) rfl rfl dX9_as_41 ?_
    exact am_R.forget wp ⟨rfl, ⟨rfl, ⟨rfl, ⟨rfl, trivial⟩⟩⟩⟩
  · have wp := wp.2 hc1
    refine am_bipush (-4) rfl dX9_as_35 ?_
    exact am_iret dX9_as_37 rfl rfl wp
theorem bX9_as_43 {E : Nat × (Nat → Int32)} {I : Nat → Nat → Int32} {J : Nat → Nat → Int64} {b : Bool} {a1 : Int32} {a3 : Int32} {a4 : Int32} {Q : Option Value → am_H → Prop}  (wp : (((I 4 0) ≤ a4 → Q (some (.int a3)) (hp I J b)) ∧ (¬ (I 4 0) ≤ a4 → ∃ j2, a4 = nI j2 ∧ j2 < 7 ∧ ((((((I 24 j2) >>> (a1 &&& 31)) &&& 1) = 1) → am_R E mX9_as 43 [some (.ref 0), some (.int a1), none, some (.int (a3 + 1)), some (.int (a4 + 1))] [] (hp I J b) 64 64 Q) ∧ (¬ ((((I 24 j2) >>> (a1 &&& 31)) &&& 1) = 1) → am_R E mX9_as 43 [some (.ref 0), some (.int a1), none, some (.int a3), some (.int (a4 + 1))] [] (hp I J b) 64 64 Q))))) : am_R E mX9_as 43 [some (.ref 0), some (.int a1), none, some (.int a3), some (.int a4)] [] (hp I J b) 64 64 Q := by
  refine am_iload rfl dX9_as_43 ?_
  refine am_aload_n rfl rfl dX9_as_45 ?_
  refine am_getA (r := 4) dX9_as_46 flX9_19 (Or.inl ⟨_, rfl⟩) rfl (by decide) rfl ?_
  refine am_getI dX9_as_49 flX9_102 (Or.inl rfl) rfl (by decide) ?_
  refine am_icmp_ge dX9_as_52 (tgt := 77) rfl (fun hc1 => ?_) (fun hc1 => ?_)
  · have wp := wp.1 hc1
    refine am_iload_n rfl rfl dX9_as_77 ?_
    exact am_iret dX9_as_78 rfl rfl wp
  · have wp := wp.2 hc1
    refine am_aload_n rfl rfl dX9_as_55 ?_
    refine am_getA (r := 23) dX9_as_56 flX9_43 (Or.inl ⟨_, rfl⟩) rfl (by decide) rfl ?_
    refine am_iload rfl dX9_as_59 ?_
    refine am_iload_n rfl rfl dX9_as_61 ?_
    obtain ⟨j2, e2, w2, wp⟩ := wp
    refine am_invV (ci := 3) (As := [.int a4, .int a1]) (lsZ := [some (.ref 23), some (.int a4), some (.int a1)]) (st := []) dX9_as_62 hX5_mayDo lkX9_133 ⟨by decide, by decide⟩ (by decide) rfl (by decide) rfl rfl rfl (Nat.le_of_ble_eq_true rfl) rfl (Nat.le_of_ble_eq_true rfl) ⟨Nat.le_refl _, Nat.le_refl _⟩ (tX5_mayDo (j := j2) e2 w2 (fun hc3 => ?_) (fun hc3 => ?_))
    · have wp := wp.1 hc3
      show am_R E mX9_as 65 [some (.ref 0), some (.int a1), none, some (.int a3), some (.int a4)] [.int 1] (hp I J b) 64 64 Q
      refine am_if_eq dX9_as_65 (tgt := 71) rfl (fun hc => absurd hc (by decide)) (fun _ => ?_)
      refine am_iinc (ls' := [some (.ref 0), some (.int a1), none, some (.int (a3 + 1)), some (.int a4)]) (by decide) rfl rfl rfl dX9_as_68 ?_
      refine am_iinc (ls' := [some (.ref 0), some (.int a1), none, some (.int (a3 + 1)), some (.int (a4 + 1))]) (by decide) rfl rfl rfl dX9_as_71 ?_
      refine am_goto dX9_as_74 (tgt := 43) rfl ?_
      exact am_R.forget wp ⟨rfl, ⟨rfl, ⟨rfl, ⟨rfl, trivial⟩⟩⟩⟩
    · have wp := wp.2 hc3
      show am_R E mX9_as 65 [some (.ref 0), some (.int a1), none, some (.int a3), some (.int a4)] [.int 0] (hp I J b) 64 64 Q
      refine am_if_eq dX9_as_65 (tgt := 71) rfl (fun _ => ?_) (fun hc => absurd hc (by decide))
      refine am_iinc (ls' := [some (.ref 0), some (.int a1), none, some (.int a3), some (.int (a4 + 1))]) (by decide) rfl rfl rfl dX9_as_71 ?_
      refine am_goto dX9_as_74 (tgt := 43) rfl ?_
      exact am_R.forget wp ⟨rfl, ⟨rfl, ⟨rfl, ⟨rfl, trivial⟩⟩⟩⟩
theorem bX10_as_0 {E : Nat × (Nat → Int32)} {I : Nat → Nat → Int32} {J : Nat → Nat → Int64} {b : Bool} {a1 : Int32} {a2 : Int32} {Q : Option Value → am_H → Prop}  (wp : (((0 ≤ a1 ∧ a1 ≤ (I 48 0) - 1) → (((0 ≤ a2 ∧ a2 ≤ 4) → ((a2 = 0 → am_R E mX10_as 103 [some (.ref 48), some (.int a1), none, some (.int 1), some (.int 0), some (.int 0)] [] (hp I J b) 64 64 Q) ∧ (¬ a2 = 0 → ((¬ a2 = 1 → ((¬ a2 = 2 → ((¬ a2 = 3 → ∃ j7, a1 = nI j7 ∧ j7 < 7 ∧ ((¬ (I 51 j7) = 3 → am_R E mX10_as 103 [some (.ref 48), some (.int a1), none, some (.int 0), some (.int 0), some (.int 0)] [] (hp I J b) 64 64 Q) ∧ ((I 51 j7) = 3 → am_R E mX10_as 103 [some (.ref 48), some (.int a1), none, some (.int 1), some (.int 0), some (.int 0)] [] (hp I J b) 64 64 Q))) ∧ (a2 = 3 → ∃ j9, a1 = nI j9 ∧ j9 < 7 ∧ (((I 51 j9) ≤ 1 → am_R E mX10_as 103 [some (.ref 48), some (.int a1), none, some (.int 0), some (.int 0), some (.int 0)] [] (hp I J b) 64 64 Q) ∧ (¬ (I 51 j9) ≤ 1 → am_R E mX10_as 103 [some (.ref 48), some (.int a1), none, some (.int 1), some (.int 0), some (.int 0)] [] (hp I J b) 64 64 Q))))) ∧ (a2 = 2 → ∃ j11, a1 = nI j11 ∧ j11 < 7 ∧ ((¬ (I 51 j11) = 1 → am_R E mX10_as 103 [some (.ref 48), some (.int a1), none, some (.int 0), some (.int 0), some (.int 0)] [] (hp I J b) 64 64 Q) ∧ ((I 51 j11) = 1 → am_R E mX10_as 103 [some (.ref 48), some (.int a1), none, some (.int 1), some (.int 0), some (.int 0)] [] (hp I J b) 64 64 Q))))) ∧ (a2 = 1 → ∃ j13, a1 = nI j13 ∧ j13 < 7 ∧ ((2 ≤ (I 51 j13) → am_R E mX10_as 103 [some (.ref 48), some (.int a1), none, some (.int 0), some (.int 0), some (.int 0)] [] (hp I J b) 64 64 Q) ∧ (¬ 2 ≤ (I 51 j13) → am_R E mX10_as 103 [some (.ref 48), some (.int a1), none, some (.int 1), some (.int 0), some (.int 0)] [] (hp I J b) 64 64 Q))))))) ∧ (¬ (0 ≤ a2 ∧ a2 ≤ 4) → Q (some (.int (-3))) (hp I J b)))) ∧ (¬ (0 ≤ a1 ∧ a1 ≤ (I 48 0) - 1) → Q (some (.int (-2))) (hp I J b)))) : am_R E mX10_as 0 [some (.ref 48), some (.int a1), some (.int a2), none, none, none] [] (hp I J b) 64 64 Q := by
  refine am_aload_n rfl rfl dX10_as_0 ?_
  refine am_iload_n rfl rfl dX10_as_1 ?_
  refine am_invV (ci := 8) (As := [.int a1]) (lsZ := [some (.ref 48), some (.int a1)]) (st := []) dX10_as_2 hX10_isMonk lkX10_166 ⟨by decide, by decide⟩ (by decide) rfl (by decide) rfl rfl rfl (Nat.le_of_ble_eq_true rfl) rfl (Nat.le_of_ble_eq_true rfl) ⟨Nat.le_refl _, Nat.le_refl _⟩ (tX10_isMonk  (fun hc1 => ?_) (fun hc1 => ?_))
  · have wp := wp.1 hc1
    show am_R E mX10_as 5 [some (.ref 48), some (.int a1), some (.int a2), none, none, none] [.int 1] (hp I J b) 64 64 Q
    refine am_if_ne dX10_as_5 (tgt := 11) rfl (fun _ => ?_) (fun hc => absurd hc (by decide))
    refine am_iload_n rfl rfl dX10_as_11 ?_
    refine am_iconst 0 rfl dX10_as_12 ?_
    refine am_iconst 4 rfl dX10_as_13 ?_
    refine am_invS (As := [.int a2, .int 0, .int 4]) (lsZ := [some (.int a2), some (.int 0), some (.int 4)]) (st := []) dX10_as_14 hX10_in lkX10_69 ⟨by decide, by decide⟩ rfl rfl (Nat.le_of_ble_eq_true rfl) rfl (Nat.le_of_ble_eq_true rfl) ⟨Nat.le_refl _, Nat.le_refl _⟩ (tX10_in  (fun hc2 => ?_) (fun hc2 => ?_))
    · have wp := wp.1 hc2
      show am_R E mX10_as 17 [some (.ref 48), some (.int a1), some (.int a2), none, none, none] [.int 1] (hp I J b) 64 64 Q
      refine am_if_ne dX10_as_17 (tgt := 23) rfl (fun _ => ?_) (fun hc => absurd hc (by decide))
      refine am_iload_n rfl rfl dX10_as_23 ?_
      refine am_if_eq dX10_as_24 (tgt := 91) rfl (fun hc3 => ?_) (fun hc3 => ?_)
      · have wp := wp.1 hc3
        refine am_iconst 1 rfl dX10_as_91 ?_
        refine am_goto dX10_as_92 (tgt := 96) rfl ?_
        refine am_istore_n (ls' := [some (.ref 48), some (.int a1), some (.int a2), some (.int 1), none, none]) rfl (by decide) rfl rfl dX10_as_96 ?_
        refine am_iconst 0 rfl dX10_as_97 ?_
        refine am_istore (ls' := [some (.ref 48), some (.int a1), some (.int a2), some (.int 1), some (.int 0), none]) (by decide) rfl rfl dX10_as_98 ?_
        refine am_iconst 0 rfl dX10_as_100 ?_
        refine am_istore (ls' := [some (.ref 48), some (.int a1), some (.int a2), some (.int 1), some (.int 0), some (.int 0)]) (by decide) rfl rfl dX10_as_101 ?_
        exact am_R.forget wp ⟨rfl, ⟨rfl, ⟨rfl, ⟨rfl, ⟨rfl, trivial⟩⟩⟩⟩⟩
      · have wp := wp.2 hc3
        refine am_iload_n rfl rfl dX10_as_27 ?_
        refine am_iconst 1 rfl dX10_as_28 ?_
        refine am_icmp_ne dX10_as_29 (tgt := 45) rfl (fun hc4 => ?_) (fun hc4 => ?_)
        · have wp := wp.1 hc4
          refine am_iload_n rfl rfl dX10_as_45 ?_
          refine am_iconst 2 rfl dX10_as_46 ?_
          refine am_icmp_ne dX10_as_47 (tgt := 63) rfl (fun hc5 => ?_) (fun hc5 => ?_)
          · have wp := wp.1 hc5
            refine am_iload_n rfl rfl dX10_as_63 ?_
            refine am_iconst 3 rfl dX10_as_64 ?_
            refine am_icmp_ne dX10_as_65 (tgt := 81) rfl (fun hc6 => ?_) (fun hc6 => ?_)
            · have wp := wp.1 hc6
              refine am_aload_n rfl rfl dX10_as_81 ?_
              refine am_getA (r := 51) dX10_as_82 flX10_23 (Or.inr ⟨_, rfl⟩) rfl (by decide) rfl ?_
              refine am_iload_n rfl rfl dX10_as_85 ?_
              obtain ⟨j7, e7, w7, wp⟩ := wp
              refine am_ialdN (j := j7) dX10_as_86 rfl (by decide) e7 w7 (by decide) ?_
              refine am_iconst 3 rfl dX10_as_87 ?_
              refine am_icmp_ne dX10_as_88 (tgt := 95) rfl (fun hc8 => ?_) (fun hc8 => ?_)
              · have wp := wp.1 hc8
                refine am_iconst 0 rfl dX10_as_95 ?_
                refine am_istore_n (ls' := [some (.ref 48), some (.int a1), some (.int a2), some (.int 0), none, none]) rfl (by decide) rfl rfl dX10_as_96 ?_
                refine am_iconst 0 rfl dX10_as_97 ?_
                refine am_istore (ls' := [some (.ref 48), some (.int a1), some (.int a2), some (.int 0), some (.int 0), none]) (by decide) rfl rfl dX10_as_98 ?_
                refine am_iconst 0 rfl dX10_as_100 ?_
                refine am_istore (ls' := [some (.ref 48), some (.int a1), some (.int a2), some (.int 0), some (.int 0), some (.int 0)]) (by decide) rfl rfl dX10_as_101 ?_
                exact am_R.forget wp ⟨rfl, ⟨rfl, ⟨rfl, ⟨rfl, ⟨rfl, trivial⟩⟩⟩⟩⟩
              · have wp := wp.2 hc8
                refine am_iconst 1 rfl dX10_as_91 ?_
                refine am_goto dX10_as_92 (tgt := 96) rfl ?_
                refine am_istore_n (ls' := [some (.ref 48), some (.int a1), some (.int a2), some (.int 1), none, none]) rfl (by decide) rfl rfl dX10_as_96 ?_
                refine am_iconst 0 rfl dX10_as_97 ?_
                refine am_istore (ls' := [some (.ref 48), some (.int a1), some (.int a2), some (.int 1), some (.int 0), none]) (by decide) rfl rfl dX10_as_98 ?_
                refine am_iconst 0 rfl dX10_as_100 ?_
                refine am_istore (ls' := [some (.ref 48), some (.int a1), some (.int a2), some (.int 1), some (.int 0), some (.int 0)]) (by decide) rfl rfl dX10_as_101 ?_
                exact am_R.forget wp ⟨rfl, ⟨rfl, ⟨rfl, ⟨rfl, ⟨rfl, trivial⟩⟩⟩⟩⟩
            · have wp := wp.2 hc6
              refine am_aload_n rfl rfl dX10_as_68 ?_
              refine am_getA (r := 51) dX10_as_69 flX10_23 (Or.inr ⟨_, rfl⟩) rfl (by decide) rfl ?_
              refine am_iload_n rfl rfl dX10_as_72 ?_
              obtain ⟨j9, e9, w9, wp⟩ := wp
              refine am_ialdN (j := j9) dX10_as_73 rfl (by decide) e9 w9 (by decide) ?_
              refine am_iconst 1 rfl dX10_as_74 ?_
              refine am_icmp_le dX10_as_75 (tgt := 95) rfl (fun hc10 => ?_) (fun hc10 => ?_)
              · have wp := wp.1 hc10
                refine am_iconst 0 rfl dX10_as_95 ?_
                refine am_istore_n (ls' := [some (.ref 48), some (.int a1), some (.int a2), some (.int 0), none, none]) rfl (by decide) rfl rfl dX10_as_96 ?_
                refine am_iconst 0 rfl dX10_as_97 ?_
                refine am_istore (ls' := [some (.ref 48), some (.int a1), some (.int a2), some (.int 0), some (.int 0), none]) (by decide) rfl rfl dX10_as_98 ?_
                refine am_iconst 0 rfl dX10_as_100 ?_
                refine am_istore (ls' := [some (.ref 48), some (.int a1), some (.int a2), some (.int 0), some (.int 0), some (.int 0)]) (by decide) rfl rfl dX10_as_101 ?_
                exact am_R.forget wp ⟨rfl, ⟨rfl, ⟨rfl, ⟨rfl, ⟨rfl, trivial⟩⟩⟩⟩⟩
              · have wp := wp.2 hc10
                refine am_goto dX10_as_78 (tgt := 91) rfl ?_
                refine am_iconst 1 rfl dX10_as_91 ?_
                refine am_goto dX10_as_92 (tgt := 96) rfl ?_
                refine am_istore_n (ls' := [some (.ref 48), some (.int a1), some (.int a2), some (.int 1), none, none]) rfl (by decide) rfl rfl dX10_as_96 ?_
                refine am_iconst 0 rfl dX10_as_97 ?_
                refine am_istore (ls' := [some (.ref 48), some (.int a1), some (.int a2), some (.int 1), some (.int 0), none]) (by decide) rfl rfl dX10_as_98 ?_
                refine am_iconst 0 rfl dX10_as_100 ?_
                refine am_istore (ls' := [some (.ref 48), some (.int a1), some (.int a2), some (.int 1), some (.int 0), some (.int 0)]) (by decide) rfl rfl dX10_as_101 ?_
                exact am_R.forget wp ⟨rfl, ⟨rfl, ⟨rfl, ⟨rfl, ⟨rfl, trivial⟩⟩⟩⟩⟩
          · have wp := wp.2 hc5
            refine am_aload_n rfl rfl dX10_as_50 ?_
            refine am_getA (r := 51) dX10_as_51 flX10_23 (Or.inr ⟨_, rfl⟩) rfl (by decide) rfl ?_
            refine am_iload_n rfl rfl dX10_as_54 ?_
            obtain ⟨j11, e11, w11, wp⟩ := wp
            refine am_ialdN (j := j11) dX10_as_55 rfl (by decide) e11 w11 (by decide) ?_
            refine am_iconst 1 rfl dX10_as_56 ?_
            refine am_icmp_ne dX10_as_57 (tgt := 95) rfl (fun hc12 => ?_) (fun hc12 => ?_)
            · have wp := wp.1 hc12
              refine am_iconst 0 rfl dX10_as_95 ?_
              refine am_istore_n (ls' := [some (.ref 48), some (.int a1), some (.int a2), some (.int 0), none, none]) rfl (by decide) rfl rfl dX10_as_96 ?_
              refine am_iconst 0 rfl dX10_as_97 ?_
              refine am_istore (ls' := [some (.ref 48), some (.int a1), some (.int a2), some (.int 0), some (.int 0), none]) (by decide) rfl rfl dX10_as_98 ?_
              refine am_iconst 0 rfl dX10_as_100 ?_
              refine am_istore (ls' := [some (.ref 48), some (.int a1), some (.int a2), some (.int 0), some (.int 0), some (.int 0)]) (by decide) rfl rfl dX10_as_101 ?_
              exact am_R.forget wp ⟨rfl, ⟨rfl, ⟨rfl, ⟨rfl, ⟨rfl, trivial⟩⟩⟩⟩⟩
            · have wp := wp.2 hc12
              refine am_goto dX10_as_60 (tgt := 91) rfl ?_
              refine am_iconst 1 rfl dX10_as_91 ?_
              refine am_goto dX10_as_92 (tgt := 96) rfl ?_
              refine am_istore_n (ls' := [some (.ref 48), some (.int a1), some (.int a2), some (.int 1), none, none]) rfl (by decide) rfl rfl dX10_as_96 ?_
              refine am_iconst 0 rfl dX10_as_97 ?_
              refine am_istore (ls' := [some (.ref 48), some (.int a1), some (.int a2), some (.int 1), some (.int 0), none]) (by decide) rfl rfl dX10_as_98 ?_
              refine am_iconst 0 rfl dX10_as_100 ?_
              refine am_istore (ls' := [some (.ref 48), some (.int a1), some (.int a2), some (.int 1), some (.int 0), some (.int 0)]) (by decide) rfl rfl dX10_as_101 ?_
              exact am_R.forget wp ⟨rfl, ⟨rfl, ⟨rfl, ⟨rfl, ⟨rfl, trivial⟩⟩⟩⟩⟩
        · have wp := wp.2 hc4
          refine am_aload_n rfl rfl dX10_as_32 ?_
          refine am_getA (r := 51) dX10_as_33 flX10_23 (Or.inr ⟨_, rfl⟩) rfl (by decide) rfl ?_
          refine am_iload_n rfl rfl dX10_as_36 ?_
          obtain ⟨j13, e13, w13, wp⟩ := wp
          refine am_ialdN (j := j13) dX10_as_37 rfl (by decide) e13 w13 (by decide) ?_
          refine am_iconst 2 rfl dX10_as_38 ?_
          refine am_icmp_ge dX10_as_39 (tgt := 95) rfl (fun hc14 => ?_) (fun hc14 => ?_)
          · have wp := wp.1 hc14
            refine am_iconst 0 rfl dX10_as_95 ?_
            refine am_istore_n (ls' := [some (.ref 48), some (.int a1), some (.int a2), some (.int 0), none, none]) rfl (by decide) rfl rfl dX10_as_96 ?_
            refine am_iconst 0 rfl dX10_as_97 ?_
            refine am_istore (ls' := [some (.ref 48), some (.int a1), some (.int a2), some (.int 0), some (.int 0), none]) (by decide) rfl rfl dX10_as_98 ?_
            refine am_iconst 0 rfl dX10_as_100 ?_
            refine am_istore (ls' := [some (.ref 48), some (.int a1), some (.int a2), some (.int 0), some (.int 0), some (.int 0)]) (by decide) rfl rfl dX10_as_101 ?_
            exact am_R.forget wp ⟨rfl, ⟨rfl, ⟨rfl, ⟨rfl, ⟨rfl, trivial⟩⟩⟩⟩⟩
          · have wp := wp.2 hc14
            refine am_goto dX10_as_42 (tgt := 91) rfl ?_
            refine am_iconst 1 rfl dX10_as_91 ?_
            refine am_goto dX10_as_92 (tgt := 96) rfl ?_
            refine am_istore_n (ls' := [some (.ref 48), some (.int a1), some (.int a2), some (.int 1), none, none]) rfl (by decide) rfl rfl dX10_as_96 ?_
            refine am_iconst 0 rfl dX10_as_97 ?_
            refine am_istore (ls' := [some (.ref 48), some (.int a1), some (.int a2), some (.int 1), some (.int 0), none]) (by decide) rfl rfl dX10_as_98 ?_
            refine am_iconst 0 rfl dX10_as_100 ?_
            refine am_istore (ls' := [some (.ref 48), some (.int a1), some (.int a2), some (.int 1), some (.int 0), some (.int 0)]) (by decide) rfl rfl dX10_as_101 ?_
            exact am_R.forget wp ⟨rfl, ⟨rfl, ⟨rfl, ⟨rfl, ⟨rfl, trivial⟩⟩⟩⟩⟩
    · have wp := wp.2 hc2
      show am_R E mX10_as 17 [some (.ref 48), some (.int a1), some (.int a2), none, none, none] [.int 0] (hp I J b) 64 64 Q
      refine am_if_ne dX10_as_17 (tgt := 23) rfl (fun hc => absurd hc (by decide)) (fun _ => ?_)
      refine am_bipush (-3) rfl dX10_as_20 ?_
      exact am_iret dX10_as_22 rfl rfl wp
  · have wp := wp.2 hc1
    show am_R E mX10_as 5 [some (.ref 48), some (.int a1), some (.int a2), none, none, none] [.int 0] (hp I J b) 64 64 Q
    refine am_if_ne dX10_as_5 (tgt := 11) rfl (fun hc => absurd hc (by decide)) (fun _ => ?_)
    refine am_bipush (-2) rfl dX10_as_8 ?_
    exact am_iret dX10_as_10 rfl rfl wp
theorem bX10_as_103 {E : Nat × (Nat → Int32)} {I : Nat → Nat → Int32} {J : Nat → Nat → Int64} {b : Bool} {a1 : Int32} {a3 : Int32} {a4 : Int32} {a5 : Int32} {Q : Option Value → am_H → Prop}  (wp : (((I 48 0) ≤ a5 → ((a3 = 0 → Q (some (.int (-4))) (hp I J b)) ∧ (¬ a3 = 0 → Q (some (.int a4)) (hp I J b)))) ∧ (¬ (I 48 0) ≤ a5 → ∃ j3, a5 = nI j3 ∧ j3 < 7 ∧ ∃ j4, a1 = nI j4 ∧ j4 < 7 ∧ ((I 55 (8 + j3)) = -1 ∨ ∃ e, e < 7 ∧ (I 55 (8 + j3)) = nI e) ∧ (((my I j3 j4) → am_R E mX10_as 103 [some (.ref 48), some (.int a1), none, some (.int a3), some (.int (a4 + 1)), some (.int (a5 + 1))] [] (hp I J b) 64 64 Q) ∧ (¬ (my I j3 j4) → am_R E mX10_as 103 [some (.ref 48), some (.int a1), none, some (.int a3), some (.int (a4 + 0)), some (.int (a5 + 1))] [] (hp I J b) 64 64 Q))))) : am_R E mX10_as 103 [some (.ref 48), some (.int a1), none, some (.int a3), some (.int a4), some (.int a5)] [] (hp I J b) 64 64 Q := by
  refine am_iload rfl dX10_as_103 ?_
  refine am_aload_n rfl rfl dX10_as_105 ?_
  refine am_getI dX10_as_106 flX10_7 (Or.inl rfl) rfl (by decide) ?_
  refine am_icmp_ge dX10_as_109 (tgt := 138) rfl (fun hc1 => ?_) (fun hc1 => ?_)
  · have wp := wp.1 hc1
    refine am_iload_n rfl rfl dX10_as_138 ?_
    refine am_if_eq dX10_as_139 (tgt := 147) rfl (fun hc2 => ?_) (fun hc2 => ?_)
    · have wp := wp.1 hc2
      refine am_bipush (-4) rfl dX10_as_147 ?_
      exact am_iret dX10_as_149 rfl rfl wp
    · have wp := wp.2 hc2
      refine am_iload rfl dX10_as_142 ?_
      refine am_goto dX10_as_144 (tgt := 149) rfl ?_
      exact am_iret dX10_as_149 rfl rfl wp
  · have wp := wp.2 hc1
    refine am_iload rfl dX10_as_112 ?_
    refine am_aload_n rfl rfl dX10_as_114 ?_
    refine am_iload rfl dX10_as_115 ?_
    refine am_iload_n rfl rfl dX10_as_117 ?_
    obtain ⟨j3, e3, w3, wp⟩ := wp
    obtain ⟨j4, e4, w4, wp⟩ := wp
    obtain ⟨w5, wp⟩ := wp
    refine am_invV (ci := 8) (As := [.int a5, .int a1]) (lsZ := [some (.ref 48), some (.int a5), some (.int a1)]) (st := [.int a4]) dX10_as_118 hX10_may lkX10_169 ⟨by decide, by decide⟩ (by decide) rfl (by decide) rfl rfl rfl (Nat.le_of_ble_eq_true rfl) rfl (Nat.le_of_ble_eq_true rfl) ⟨Nat.le_refl _, Nat.le_refl _⟩ (tX10_may (m := j3) (d := j4) e3 w3 e4 w4 w5 (fun hc6 => ?_) (fun hc6 => ?_))
    · have wp := wp.1 hc6
      show am_R E mX10_as 121 [some (.ref 48), some (.int a1), none, some (.int a3), some (.int a4), some (.int a5)] [.int 1, .int a4] (hp I J b) 64 64 Q
      refine am_if_eq dX10_as_121 (tgt := 128) rfl (fun hc => absurd hc (by decide)) (fun _ => ?_)
      refine am_iconst 1 rfl dX10_as_124 ?_
      refine am_goto dX10_as_125 (tgt := 129) rfl ?_
      refine am_iadd dX10_as_129 ?_
      refine am_istore (ls' := [some (.ref 48), some (.int a1), none, some (.int a3), some (.int (a4 + 1)), some (.int a5)]) (by decide) rfl rfl dX10_as_130 ?_
      refine am_iinc (ls' := [some (.ref 48), some (.int a1), none, some (.int a3), some (.int (a4 + 1)), some (.int (a5 + 1))]) (by decide) rfl rfl rfl dX10_as_132 ?_
      refine am_goto dX10_as_135 (tgt := 103) rfl ?_
      exact am_R.forget wp ⟨rfl, ⟨rfl, ⟨rfl, ⟨rfl, ⟨rfl, trivial⟩⟩⟩⟩⟩
    · have wp := wp.2 hc6
      show am_R E mX10_as 121 [some (.ref 48), some (.int a1), none, some (.int a3), some (.int a4), some (.int a5)] [.int 0, .int a4] (hp I J b) 64 64 Q
      refine am_if_eq dX10_as_121 (tgt := 128) rfl (fun _ => ?_) (fun hc => absurd hc (by decide))
      refine am_iconst 0 rfl dX10_as_128 ?_
      refine am_iadd dX10_as_129 ?_
      refine am_istore (ls' := [some (.ref 48), some (.int a1), none, some (.int a3), some (.int (a4 + 0)), some (.int a5)]) (by decide) rfl rfl dX10_as_130 ?_
      refine am_iinc (ls' := [some (.ref 48), some (.int a1), none, some (.int a3), some (.int (a4 + 0)), some (.int (a5 + 1))]) (by decide) rfl rfl rfl dX10_as_132 ?_
      refine am_goto dX10_as_135 (tgt := 103) rfl ?_
      exact am_R.forget wp ⟨rfl, ⟨rfl, ⟨rfl, ⟨rfl, ⟨rfl, trivial⟩⟩⟩⟩⟩
theorem p_as (hI : Inv I n) (a1 a2 : Int32) : Pair E mX9_as mX10_as [some (.ref 0), some (.int a1), some (.int a2), none, none] [some (.ref 48), some (.int a1), some (.int a2), none, none, none] I J b := by
  have hI0 := hI
  obtain ⟨hM, hC⟩ := hI
  obtain ⟨⟨n0, n2, n7⟩, -, -, -, hK, -, hD, -⟩ := hM
  obtain ⟨⟨e0, -, cs, cl, cm⟩, -, c7, -⟩ := hC
  have hY : Yw I n := hD.2.2.1
  by_cases hk : 0 ≤ a1 ∧ a1 < nI n
  · have hk' := (in_mod (by omega) n7).mpr hk
    obtain ⟨d, hd, rfl⟩ := in_cls n7 hk
    obtain ⟨kd, hkd, ekd⟩ := hK d (by omega)
    by_cases hj : 0 ≤ a2 ∧ a2 ≤ 4
    · obtain ⟨k, hk5, rfl⟩ := nI_of2 (x := a2) (M := 4) (n := 4) (by decide) (Int32.not_lt.mpr hj.1) hj.2
      have e7 : I 7 d = nI (kd + 1) := by rw [c7 d (by omega), ekd, n1]
      -- the reference's loop
      have loop : ∀ (J : Nat → Nat → Int64) (b : Bool) (Q : Option Value → am_H → Prop) (z : Int32), ((z = 0 → Q (some (.int (-4))) (hp I J b)) ∧ (¬ z = 0 → Q (some (.int (nI (fb_ct (fun m => decide (my I m d)) n)))) (hp I J b))) → am_R E mX10_as 103 [some (.ref 48), some (.int (nI d)), none, some (.int z), some (.int 0), some (.int 0)] [] (hp I J b) 64 64 Q := by
        intro J b Q z hz
        refine lp_up (n := n) (P := fun m => am_R E mX10_as 103 [some (.ref 48), some (.int (nI d)), none, some (.int z), some (.int (nI (fb_ct (fun m => decide (my I m d)) m))), some (.int (nI m))] [] (hp I J b) 64 64 Q) ?_ ?_
        · exact bX10_as_103 (le_br n0 rfl (by omega) (by omega) (fun _ => hz) (fun h => by omega))
        · intro m hm ih
          refine bX10_as_103 (le_br n0 rfl (by omega) (by omega) (fun h => by omega) (fun _ => ⟨m, rfl, by omega, d, rfl, by omega, hY.seven n7 hm, fun q => ?_, fun q => ?_⟩))
          · rw [fb_ct_succ, decide_eq_true q] at ih
            rw [n1, n1]; exact ih
          · rw [fb_ct_succ, decide_eq_false q] at ih
            rw [n1, nz]; exact ih
      have cloop : ∀ Q : Option Value → am_H → Prop, Q (some (.int (nI (fb_ct (fun m => decide (my I m d)) n)))) (hp I J b) → am_R E mX9_as 43 [some (.ref 0), some (.int (nI d)), none, some (.int 0), some (.int 0)] [] (hp I J b) 64 64 Q := by
        intro Q hQ
        refine lp_up (n := n) (P := fun m => am_R E mX9_as 43 [some (.ref 0), some (.int (nI d)), none, some (.int (nI (fb_ct (fun m => decide (my I m d)) m))), some (.int (nI m))] [] (hp I J b) 64 64 Q) ?_ ?_
        · exact bX9_as_43 (le_br e0 rfl (by omega) (by omega) (fun _ => hQ) (fun h => by omega))
        · intro m hm ih
          refine bX9_as_43 (le_br e0 rfl (by omega) (by omega) (fun h => by omega) (fun _ => ⟨m, rfl, by omega, fun q => ?_, fun q => ?_⟩))
          · rw [fb_ct_succ, decide_eq_true ((cm m hm d hd).mp q)] at ih
            rw [n1, n1]; exact ih
          · rw [fb_ct_succ, decide_eq_false (fun z => q ((cm m hm d hd).mpr z))] at ih
            rw [n1]; exact ih
      have mdl : ∀ (J : Nat → Nat → Int64) (b : Bool) (Q : Option Value → am_H → Prop), (isk kd k = true → Q (some (.int (nI (fb_ct (fun m => decide (my I m d)) n)))) (hp I J b)) → (isk kd k = false → Q (some (.int (-4))) (hp I J b)) → am_R E mX10_as 0 [some (.ref 48), some (.int (nI d)), some (.int (nI k)), none, none, none] [] (hp I J b) 64 64 Q := by
        intro J b Q h1 h0
        have l1 : isk kd k = true → am_R E mX10_as 103 [some (.ref 48), some (.int (nI d)), none, some (.int 1), some (.int 0), some (.int 0)] [] (hp I J b) 64 64 Q := fun q => loop J b Q 1 (z01 rfl (h1 q))
        have l0 : isk kd k = false → am_R E mX10_as 103 [some (.ref 48), some (.int (nI d)), none, some (.int 0), some (.int 0), some (.int 0)] [] (hp I J b) 64 64 Q := fun q => loop J b Q 0 (z00 rfl (h0 q))
        refine bX10_as_0 ⟨fun _ => ⟨fun _ => ?_, fun q => absurd hj q⟩, fun q => by rw [n0] at q; exact absurd hk' q⟩
        refine eq_br (n := k) (m := 0) rfl rfl (by omega) (by omega) (fun q => l1 (by subst q; rfl)) (fun q0 => ne_br (n := k) (m := 1) rfl rfl (by omega) (by omega) (fun q => ⟨d, rfl, by omega, le_br (n := 2) rfl ekd (by omega) (by omega) (fun z => l0 (by subst q; simp [isk]; omega)) (fun z => l1 (by subst q; simp [isk]; omega))⟩) (fun q1 => ne_br (n := k) (m := 2) rfl rfl (by omega) (by omega) (fun q => ⟨d, rfl, by omega, ne_br (n := kd) (m := 1) ekd rfl (by omega) (by omega) (fun z => l1 (by subst q; simp [isk, z])) (fun z => l0 (by subst q; simp [isk, z]))⟩) (fun q2 => ne_br (n := k) (m := 3) rfl rfl (by omega) (by omega) (fun q => ⟨d, rfl, by omega, le_br (m := 1) ekd rfl (by omega) (by omega) (fun z => l0 (by subst q; simp [isk]; omega)) (fun z => l1 (by subst q; simp [isk]; omega))⟩) (fun q3 => ⟨d, rfl, by omega, ne_br (n := kd) (m := 3) ekd rfl (by omega) (by omega) (fun z => l1 (by rw [show k = 4 by omega]; simp [isk, z])) (fun z => l0 (by rw [show k = 4 by omega]; simp [isk, z]))⟩))))
      cases hi : isk kd k with
      | true =>
        refine Pair.same hI0 (.int (nI (fb_ct (fun m => decide (my I m d)) n))) (fun Q h => bX9_as_0 (by
          rw [e0]
          refine ⟨fun _ => lt_br (n := k) (m := 0) rfl rfl (by omega) (by omega) (fun q => by omega) (fun _ => lt_br (m := 5) rfl rfl (by omega) (by omega) (fun _ => ?_) (fun q => by omega)), fun q => absurd hk q⟩
          exact tX2_isA rfl (by omega) e7 (by omega) rfl (by omega) (fun _ => bX9_as_32 ⟨fun _ => cloop Q h, fun q => absurd q (by decide)⟩) (fun q => by rw [hi] at q; cases q))) (fun J b Q h => mdl J b Q (fun _ => h) (fun q => by rw [hi] at q; cases q))
      | false =>
        refine Pair.same hI0 (.int (-4)) (fun Q h => bX9_as_0 (by
          rw [e0]
          refine ⟨fun _ => lt_br (n := k) (m := 0) rfl rfl (by omega) (by omega) (fun q => by omega) (fun _ => lt_br (m := 5) rfl rfl (by omega) (by omega) (fun _ => ?_) (fun q => by omega)), fun q => absurd hk q⟩
          exact tX2_isA rfl (by omega) e7 (by omega) rfl (by omega) (fun q => by rw [hi] at q; cases q) (fun _ => bX9_as_32 ⟨fun q => absurd rfl q, fun _ => h⟩))) (fun J b Q h => mdl J b Q (fun q => by rw [hi] at q; cases q) (fun _ => h))
    · refine Pair.same hI0 (.int (-3)) (fun Q h => bX9_as_0 (by
        rw [e0]
        refine ⟨fun _ => ⟨fun _ => h, fun q1 => ⟨fun q2 => ?_, fun _ => h⟩⟩, fun q => absurd hk q⟩
        exfalso
        apply hj
        refine ⟨nlt q1, ?_⟩
        have := Int32.lt_iff_toInt_lt.mp q2
        refine Int32.le_iff_toInt_le.mpr ?_
        simp at this ⊢; omega)) (fun J b Q h => bX10_as_0 (by rw [n0]; exact ⟨fun _ => ⟨fun q => absurd q hj, fun _ => h⟩, fun q => absurd hk' q⟩))
  · have hk' : ¬ (0 ≤ a1 ∧ a1 ≤ nI n - 1) := fun q => hk ((in_mod (by omega) n7).mp q)
    exact Pair.same hI0 (.int (-2)) (fun Q h => bX9_as_0 (by rw [e0]; exact ⟨fun q => absurd q hk, fun _ => h⟩)) (fun J b Q h => bX10_as_0 (by rw [n0]; exact ⟨fun q => absurd q hk', fun _ => h⟩))
end P3
