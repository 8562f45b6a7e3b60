/-! ===== tokens of the reference ===== -/
section P20
variable {E : Nat × (Nat → Int32)} {I I' : Nat → Nat → Int32} {J J' : Nat → Nat → Int64} {b : Bool} {n : Nat} {Q : Option Value → am_H → Prop}
variable {T : Nat → Int32} {L p : Nat}
/-- the reference's token -/
def tkv (T : Nat → Int32) (L p : Nat) : Int64 := if ts T L p < L then (if isL (T (ts T L p)) = true then (if te T L p - ts T L p ≤ 9 then lN (w27 (lt T (ts T L p) (te T L p - ts T L p))) else -4) else if isD (T (ts T L p)) = true then (if te T L p - ts T L p ≤ 2 then -1 else -4) else if T (ts T L p) = 59 then -3 else -4) else -2
/-- what the reference's tokens may change -/
def Mt (I I' : Nat → Nat → Int32) : Prop := (∀ a, a ≠ 48 → I' a = I a) ∧ ∀ j, j ≠ 8 → j ≠ 9 → j ≠ 11 → j ≠ 12 → I' 48 j = I 48 j
theorem Mt.rf (I : Nat → Nat → Int32) : Mt I I := ⟨fun _ _ => rfl, fun _ _ _ _ _ => rfl⟩
theorem Mt.u {j : Nat} {x : Int32} (h : Mt I I') (hj : j = 8 ∨ j = 9 ∨ j = 11 ∨ j = 12) : Mt I (u2 I' 48 j x) := ⟨fun a ha => by rw [u2_n _ _ _ ha]; exact h.1 a ha, fun i h1 h2 h3 h4 => by rw [u2_s]; unfold upd; rw [if_neg (by omega)]; exact h.2 i h1 h2 h3 h4⟩
theorem u2_at {I : Nat → Nat → Int32} {k j i : Nat} {x : Int32} : u2 I k j x k i = if i = j then x else I k i := by rw [u2_s]; rfl
theorem v2_at {J : Nat → Nat → Int64} {k j i : Nat} {x : Int64} : v2 J k j x k i = if i = j then x else J k i := by rw [v2_s]; rfl
theorem bX10_nextToken_0 {E : Nat × (Nat → Int32)} {I : Nat → Nat → Int32} {J : Nat → Nat → Int64} {b : Bool}  {Q : Option Value → am_H → Prop}  (wp : (((I 48 6) ≤ (I 48 8) → ((¬ (I 48 8) = (I 48 6) → ∃ j3, (I 48 8) = nI j3 ∧ j3 < 200 ∧ (((97 ≤ (I 53 j3) ∧ (I 53 j3) ≤ 122) → am_R E mX10_nextToken 101 [some (.ref 48)] [] (hp (u2 (u2 (u2 I 48 9 (I 48 8)) 48 11 0) 48 12 0) (v2 J 48 10 0) b) 64 64 Q) ∧ (¬ (97 ≤ (I 53 j3) ∧ (I 53 j3) ≤ 122) → (((48 ≤ (I 53 j3) ∧ (I 53 j3) ≤ 57) → am_R E mX10_nextToken 241 [some (.ref 48)] [] (hp (u2 (u2 (u2 I 48 9 (I 48 8)) 48 11 0) 48 12 0) J b) 64 64 Q) ∧ (¬ (48 ≤ (I 53 j3) ∧ (I 53 j3) ≤ 57) → ((¬ (I 53 j3) = 59 → Q none (hp (u2 (u2 (u2 (u2 I 48 9 (I 48 8)) 48 11 0) 48 12 0) 48 8 ((I 48 8) + 1)) (v2 J 48 10 (-4)) b)) ∧ ((I 53 j3) = 59 → Q none (hp (u2 (u2 (u2 (u2 I 48 9 (I 48 8)) 48 11 0) 48 12 0) 48 8 ((I 48 8) + 1)) (v2 J 48 10 (-3)) b)))))))) ∧ ((I 48 8) = (I 48 6) → Q none (hp (u2 (u2 (u2 I 48 9 (I 48 8)) 48 11 0) 48 12 0) (v2 J 48 10 (-2)) b)))) ∧ (¬ (I 48 6) ≤ (I 48 8) → ∃ j7, (I 48 8) = nI j7 ∧ j7 < 200 ∧ ((¬ (I 53 j7) = 32 → ((¬ (I 48 8) = (I 48 6) → (((97 ≤ (I 53 j7) ∧ (I 53 j7) ≤ 122) → am_R E mX10_nextToken 101 [some (.ref 48)] [] (hp (u2 (u2 (u2 I 48 9 (I 48 8)) 48 11 0) 48 12 0) (v2 J 48 10 0) b) 64 64 Q) ∧ (¬ (97 ≤ (I 53 j7) ∧ (I 53 j7) ≤ 122) → (((48 ≤ (I 53 j7) ∧ (I 53 j7) ≤ 57) → am_R E mX10_nextToken 241 [some (.ref 48)] [] (hp (u2 (u2 (u2 I 48 9 (I 48 8)) 48 11 0) 48 12 0) J b) 64 64 Q) ∧ (¬ (48 ≤ (I 53 j7) ∧ (I 53 j7) ≤ 57) → ((¬ (I 53 j7) = 59 → Q none (hp (u2 (u2 (u2 (u2 I 48 9 (I 48 8)) 48 11 0) 48 12 0) 48 8 ((I 48 8) + 1)) (v2 J 48 10 (-4)) b)) ∧ ((I 53 j7) = 59 → Q none (hp (u2 (u2 (u2 (u2 I 48 9 (I 48 8)) 48 11 0) 48 12 0) 48 8 ((I 48 8) + 1)) (v2 J 48 10 (-3)) b)))))))) ∧ ((I 48 8) = (I 48 6) → Q none (hp (u2 (u2 (u2 I 48 9 (I 48 8)) 48 11 0) 48 12 0) (v2 J 48 10 (-2)) b)))) ∧ ((I 53 j7) = 32 → am_R E mX10_nextToken 0 [some (.ref 48)] [] (hp (u2 I 48 8 ((I 48 8) + 1)) J b) 64 64 Q))))) : am_R E mX10_nextToken 0 [some (.ref 48)] [] (hp I J b) 64 64 Q := by
  refine am_aload_n rfl rfl dX10_nextToken_0 ?_
  refine am_getI dX10_nextToken_1 flX10_78 (Or.inl rfl) rfl (by decide) ?_
  refine am_aload_n rfl rfl dX10_nextToken_4 ?_
  refine am_getI dX10_nextToken_5 flX10_73 (Or.inl rfl) rfl (by decide) ?_
  refine am_icmp_ge dX10_nextToken_8 (tgt := 38) rfl (fun hc1 => ?_) (fun hc1 => ?_)
  · have wp := wp.1 hc1
    refine am_aload_n rfl rfl dX10_nextToken_38 ?_
    refine am_aload_n rfl rfl dX10_nextToken_39 ?_
    refine am_getI dX10_nextToken_40 flX10_78 (Or.inl rfl) rfl (by decide) ?_
    refine am_putI dX10_nextToken_43 flX10_81 (Or.inl rfl) rfl rfl (by decide) ?_
    refine am_aload_n rfl rfl dX10_nextToken_46 ?_
    refine am_iconst 0 rfl dX10_nextToken_47 ?_
    refine am_putI dX10_nextToken_48 flX10_84 (Or.inl rfl) rfl rfl (by decide) ?_
    refine am_aload_n rfl rfl dX10_nextToken_51 ?_
    refine am_iconst 0 rfl dX10_nextToken_52 ?_
    refine am_putI dX10_nextToken_53 flX10_87 (Or.inl rfl) rfl rfl (by decide) ?_
    refine am_aload_n rfl rfl dX10_nextToken_56 ?_
    refine am_getI dX10_nextToken_57 flX10_78 (Or.inl rfl) rfl (by decide) ?_
    show am_R E mX10_nextToken 60 [some (.ref 48)] [.int (I 48 8)] (hp (u2 (u2 (u2 I 48 9 (I 48 8)) 48 11 0) 48 12 0) J b) 64 64 Q
    refine am_aload_n rfl rfl dX10_nextToken_60 ?_
    refine am_getI dX10_nextToken_61 flX10_73 (Or.inl rfl) rfl (by decide) ?_
    show am_R E mX10_nextToken 64 [some (.ref 48)] [.int (I 48 6), .int (I 48 8)] (hp (u2 (u2 (u2 I 48 9 (I 48 8)) 48 11 0) 48 12 0) J b) 64 64 Q
    refine am_icmp_ne dX10_nextToken_64 (tgt := 77) rfl (fun hc2 => ?_) (fun hc2 => ?_)
    · have wp := wp.1 hc2
      refine am_aload_n rfl rfl dX10_nextToken_77 ?_
      refine am_getA (r := 53) dX10_nextToken_78 flX10_29 (Or.inr ⟨_, rfl⟩) rfl (by decide) rfl ?_
      refine am_aload_n rfl rfl dX10_nextToken_81 ?_
      refine am_getI dX10_nextToken_82 flX10_78 (Or.inl rfl) rfl (by decide) ?_
      show am_R E mX10_nextToken 85 [some (.ref 48)] [.int (I 48 8), .ref 53] (hp (u2 (u2 (u2 I 48 9 (I 48 8)) 48 11 0) 48 12 0) J b) 64 64 Q
      obtain ⟨j3, e3, w3, wp⟩ := wp
      refine am_ialdN (j := j3) dX10_nextToken_85 rfl (by decide) e3 w3 (by decide) ?_
      show am_R E mX10_nextToken 86 [some (.ref 48)] [.int (I 53 j3)] (hp (u2 (u2 (u2 I 48 9 (I 48 8)) 48 11 0) 48 12 0) J b) 64 64 Q
      refine am_bipush 97 rfl dX10_nextToken_86 ?_
      refine am_bipush 122 rfl dX10_nextToken_88 ?_
      refine am_invS (As := [.int (I 53 j3), .int 97, .int 122]) (lsZ := [some (.int (I 53 j3)), some (.int 97), some (.int 122)]) (st := []) dX10_nextToken_90 hX10_in lkX10_69 ⟨by decide, by decide⟩ rfl rfl (Nat.le_of_ble_eq_true rfl) rfl (Nat.le_of_ble_eq_true rfl) ⟨Nat.le_refl _, Nat.le_refl _⟩ (tX10_in  (fun hc4 => ?_) (fun hc4 => ?_))
      · have wp := wp.1 hc4
        show am_R E mX10_nextToken 93 [some (.ref 48)] [.int 1] (hp (u2 (u2 (u2 I 48 9 (I 48 8)) 48 11 0) 48 12 0) J b) 64 64 Q
        refine am_if_eq dX10_nextToken_93 (tgt := 222) rfl (fun hc => absurd hc (by decide)) (fun _ => ?_)
        refine am_aload_n rfl rfl dX10_nextToken_96 ?_
        refine am_lconst 0 rfl dX10_nextToken_97 ?_
        refine am_putJ dX10_nextToken_98 flX10_92 (Or.inl rfl) rfl rfl (by decide) ?_
        exact am_R.forget wp ⟨rfl, trivial⟩
      · have wp := wp.2 hc4
        show am_R E mX10_nextToken 93 [some (.ref 48)] [.int 0] (hp (u2 (u2 (u2 I 48 9 (I 48 8)) 48 11 0) 48 12 0) J b) 64 64 Q
        refine am_if_eq dX10_nextToken_93 (tgt := 222) rfl (fun _ => ?_) (fun hc => absurd hc (by decide))
        refine am_aload_n rfl rfl dX10_nextToken_222 ?_
        refine am_getA (r := 53) dX10_nextToken_223 flX10_29 (Or.inr ⟨_, rfl⟩) rfl (by decide) rfl ?_
        refine am_aload_n rfl rfl dX10_nextToken_226 ?_
        refine am_getI dX10_nextToken_227 flX10_78 (Or.inl rfl) rfl (by decide) ?_
        show am_R E mX10_nextToken 230 [some (.ref 48)] [.int (I 48 8), .ref 53] (hp (u2 (u2 (u2 I 48 9 (I 48 8)) 48 11 0) 48 12 0) J b) 64 64 Q
        refine am_ialdN (j := j3) dX10_nextToken_230 rfl (by decide) e3 w3 (by decide) ?_
        show am_R E mX10_nextToken 231 [some (.ref 48)] [.int (I 53 j3)] (hp (u2 (u2 (u2 I 48 9 (I 48 8)) 48 11 0) 48 12 0) J b) 64 64 Q
        refine am_bipush 48 rfl dX10_nextToken_231 ?_
        refine am_bipush 57 rfl dX10_nextToken_233 ?_
        refine am_invS (As := [.int (I 53 j3), .int 48, .int 57]) (lsZ := [some (.int (I 53 j3)), some (.int 48), some (.int 57)]) (st := []) dX10_nextToken_235 hX10_in lkX10_69 ⟨by decide, by decide⟩ rfl rfl (Nat.le_of_ble_eq_true rfl) rfl (Nat.le_of_ble_eq_true rfl) ⟨Nat.le_refl _, Nat.le_refl _⟩ (tX10_in  (fun hc5 => ?_) (fun hc5 => ?_))
        · have wp := wp.1 hc5
          show am_R E mX10_nextToken 238 [some (.ref 48)] [.int 1] (hp (u2 (u2 (u2 I 48 9 (I 48 8)) 48 11 0) 48 12 0) J b) 64 64 Q
          refine am_if_eq dX10_nextToken_238 (tgt := 357) rfl (fun hc => absurd hc (by decide)) (fun _ => ?_)
          exact am_R.forget wp ⟨rfl, trivial⟩
        · have wp := wp.2 hc5
          show am_R E mX10_nextToken 238 [some (.ref 48)] [.int 0] (hp (u2 (u2 (u2 I 48 9 (I 48 8)) 48 11 0) 48 12 0) J b) 64 64 Q
          refine am_if_eq dX10_nextToken_238 (tgt := 357) rfl (fun _ => ?_) (fun hc => absurd hc (by decide))
          refine am_aload_n rfl rfl dX10_nextToken_357 ?_
          refine am_aload_n rfl rfl dX10_nextToken_358 ?_
          refine am_getA (r := 53) dX10_nextToken_359 flX10_29 (Or.inr ⟨_, rfl⟩) rfl (by decide) rfl ?_
          refine am_aload_n rfl rfl dX10_nextToken_362 ?_
          refine am_getI dX10_nextToken_363 flX10_78 (Or.inl rfl) rfl (by decide) ?_
          show am_R E mX10_nextToken 366 [some (.ref 48)] [.int (I 48 8), .ref 53, .ref 48] (hp (u2 (u2 (u2 I 48 9 (I 48 8)) 48 11 0) 48 12 0) J b) 64 64 Q
          refine am_ialdN (j := j3) dX10_nextToken_366 rfl (by decide) e3 w3 (by decide) ?_
          show am_R E mX10_nextToken 367 [some (.ref 48)] [.int (I 53 j3), .ref 48] (hp (u2 (u2 (u2 I 48 9 (I 48 8)) 48 11 0) 48 12 0) J b) 64 64 Q
          refine am_bipush 59 rfl dX10_nextToken_367 ?_
          refine am_icmp_ne dX10_nextToken_369 (tgt := 378) rfl (fun hc6 => ?_) (fun hc6 => ?_)
          · have wp := wp.1 hc6
            refine am_ldc2 (-4) kcX10_100 dX10_nextToken_378 ?_
            refine am_putJ dX10_nextToken_381 flX10_92 (Or.inl rfl) rfl rfl (by decide) ?_
            refine am_aload_n rfl rfl dX10_nextToken_384 ?_
            refine am_dup rfl dX10_nextToken_385 ?_
            refine am_getI dX10_nextToken_386 flX10_78 (Or.inl rfl) rfl (by decide) ?_
            show am_R E mX10_nextToken 389 [some (.ref 48)] [.int (I 48 8), .ref 48] (hp (u2 (u2 (u2 I 48 9 (I 48 8)) 48 11 0) 48 12 0) (v2 J 48 10 (-4)) b) 64 64 Q
            refine am_iconst 1 rfl dX10_nextToken_389 ?_
            refine am_iadd dX10_nextToken_390 ?_
            refine am_putI dX10_nextToken_391 flX10_78 (Or.inl rfl) rfl rfl (by decide) ?_
            exact am_vret dX10_nextToken_394 rfl wp
          · have wp := wp.2 hc6
            refine am_ldc2 (-3) kcX10_104 dX10_nextToken_372 ?_
            refine am_goto dX10_nextToken_375 (tgt := 381) rfl ?_
            refine am_putJ dX10_nextToken_381 flX10_92 (Or.inl rfl) rfl rfl (by decide) ?_
            refine am_aload_n rfl rfl dX10_nextToken_384 ?_
            refine am_dup rfl dX10_nextToken_385 ?_
            refine am_getI dX10_nextToken_386 flX10_78 (Or.inl rfl) rfl (by decide) ?_
            show am_R E mX10_nextToken 389 [some (.ref 48)] [.int (I 48 8), .ref 48] (hp (u2 (u2 (u2 I 48 9 (I 48 8)) 48 11 0) 48 12 0) (v2 J 48 10 (-3)) b) 64 64 Q
            refine am_iconst 1 rfl dX10_nextToken_389 ?_
            refine am_iadd dX10_nextToken_390 ?_
            refine am_putI dX10_nextToken_391 flX10_78 (Or.inl rfl) rfl rfl (by decide) ?_
            exact am_vret dX10_nextToken_394 rfl wp
    · have wp := wp.2 hc2
      refine am_aload_n rfl rfl dX10_nextToken_67 ?_
      refine am_ldc2 (-2) kcX10_90 dX10_nextToken_68 ?_
      refine am_putJ dX10_nextToken_71 flX10_92 (Or.inl rfl) rfl rfl (by decide) ?_
      refine am_goto dX10_nextToken_74 (tgt := 394) rfl ?_
      exact am_vret dX10_nextToken_394 rfl wp
  · have wp := wp.2 hc1
    refine am_aload_n rfl rfl dX10_nextToken_11 ?_
    refine am_getA (r := 53) dX10_nextToken_12 flX10_29 (Or.inr ⟨_, rfl⟩) rfl (by decide) rfl ?_
    refine am_aload_n rfl rfl dX10_nextToken_15 ?_
    refine am_getI dX10_nextToken_16 flX10_78 (Or.inl rfl) rfl (by decide) ?_
    obtain ⟨j7, e7, w7, wp⟩ := wp
    refine am_ialdN (j := j7) dX10_nextToken_19 rfl (by decide) e7 w7 (by decide) ?_
    refine am_bipush 32 rfl dX10_nextToken_20 ?_
    refine am_icmp_ne dX10_nextToken_22 (tgt := 38) rfl (fun hc8 => ?_) (fun hc8 => ?_)
    · have wp := wp.1 hc8
      refine am_aload_n rfl rfl dX10_nextToken_38 ?_
      refine am_aload_n rfl rfl dX10_nextToken_39 ?_
      refine am_getI dX10_nextToken_40 flX10_78 (Or.inl rfl) rfl (by decide) ?_
      refine am_putI dX10_nextToken_43 flX10_81 (Or.inl rfl) rfl rfl (by decide) ?_
      refine am_aload_n rfl rfl dX10_nextToken_46 ?_
      refine am_iconst 0 rfl dX10_nextToken_47 ?_
      refine am_putI dX10_nextToken_48 flX10_84 (Or.inl rfl) rfl rfl (by decide) ?_
      refine am_aload_n rfl rfl dX10_nextToken_51 ?_
      refine am_iconst 0 rfl dX10_nextToken_52 ?_
      refine am_putI dX10_nextToken_53 flX10_87 (Or.inl rfl) rfl rfl (by decide) ?_
      refine am_aload_n rfl rfl dX10_nextToken_56 ?_
      refine am_getI dX10_nextToken_57 flX10_78 (Or.inl rfl) rfl (by decide) ?_
      show am_R E mX10_nextToken 60 [some (.ref 48)] [.int (I 48 8)] (hp (u2 (u2 (u2 I 48 9 (I 48 8)) 48 11 0) 48 12 0) J b) 64 64 Q
      refine am_aload_n rfl rfl dX10_nextToken_60 ?_
      refine am_getI dX10_nextToken_61 flX10_73 (Or.inl rfl) rfl (by decide) ?_
      show am_R E mX10_nextToken 64 [some (.ref 48)] [.int (I 48 6), .int (I 48 8)] (hp (u2 (u2 (u2 I 48 9 (I 48 8)) 48 11 0) 48 12 0) J b) 64 64 Q
      refine am_icmp_ne dX10_nextToken_64 (tgt := 77) rfl (fun hc9 => ?_) (fun hc9 => ?_)
      · have wp := wp.1 hc9
        refine am_aload_n rfl rfl dX10_nextToken_77 ?_
        refine am_getA (r := 53) dX10_nextToken_78 flX10_29 (Or.inr ⟨_, rfl⟩) rfl (by decide) rfl ?_
        refine am_aload_n rfl rfl dX10_nextToken_81 ?_
        refine am_getI dX10_nextToken_82 flX10_78 (Or.inl rfl) rfl (by decide) ?_
        show am_R E mX10_nextToken 85 [some (.ref 48)] [.int (I 48 8), .ref 53] (hp (u2 (u2 (u2 I 48 9 (I 48 8)) 48 11 0) 48 12 0) J b) 64 64 Q
        refine am_ialdN (j := j7) dX10_nextToken_85 rfl (by decide) e7 w7 (by decide) ?_
        show am_R E mX10_nextToken 86 [some (.ref 48)] [.int (I 53 j7)] (hp (u2 (u2 (u2 I 48 9 (I 48 8)) 48 11 0) 48 12 0) J b) 64 64 Q
        refine am_bipush 97 rfl dX10_nextToken_86 ?_
        refine am_bipush 122 rfl dX10_nextToken_88 ?_
        refine am_invS (As := [.int (I 53 j7), .int 97, .int 122]) (lsZ := [some (.int (I 53 j7)), some (.int 97), some (.int 122)]) (st := []) dX10_nextToken_90 hX10_in lkX10_69 ⟨by decide, by decide⟩ rfl rfl (Nat.le_of_ble_eq_true rfl) rfl (Nat.le_of_ble_eq_true rfl) ⟨Nat.le_refl _, Nat.le_refl _⟩ (tX10_in  (fun hc10 => ?_) (fun hc10 => ?_))
        · have wp := wp.1 hc10
          show am_R E mX10_nextToken 93 [some (.ref 48)] [.int 1] (hp (u2 (u2 (u2 I 48 9 (I 48 8)) 48 11 0) 48 12 0) J b) 64 64 Q
          refine am_if_eq dX10_nextToken_93 (tgt := 222) rfl (fun hc => absurd hc (by decide)) (fun _ => ?_)
          refine am_aload_n rfl rfl dX10_nextToken_96 ?_
          refine am_lconst 0 rfl dX10_nextToken_97 ?_
          refine am_putJ dX10_nextToken_98 flX10_92 (Or.inl rfl) rfl rfl (by decide) ?_
          exact am_R.forget wp ⟨rfl, trivial⟩
        · have wp := wp.2 hc10
          show am_R E mX10_nextToken 93 [some (.ref 48)] [.int 0] (hp (u2 (u2 (u2 I 48 9 (I 48 8)) 48 11 0) 48 12 0) J b) 64 64 Q
          refine am_if_eq dX10_nextToken_93 (tgt := 222) rfl (fun _ => ?_) (fun hc => absurd hc (by decide))
          refine am_aload_n rfl rfl dX10_nextToken_222 ?_
          refine am_getA (r := 53) dX10_nextToken_223 flX10_29 (Or.inr ⟨_, rfl⟩) rfl (by decide) rfl ?_
          refine am_aload_n rfl rfl dX10_nextToken_226 ?_
          refine am_getI dX10_nextToken_227 flX10_78 (Or.inl rfl) rfl (by decide) ?_
          show am_R E mX10_nextToken 230 [some (.ref 48)] [.int (I 48 8), .ref 53] (hp (u2 (u2 (u2 I 48 9 (I 48 8)) 48 11 0) 48 12 0) J b) 64 64 Q
          refine am_ialdN (j := j7) dX10_nextToken_230 rfl (by decide) e7 w7 (by decide) ?_
          show am_R E mX10_nextToken 231 [some (.ref 48)] [.int (I 53 j7)] (hp (u2 (u2 (u2 I 48 9 (I 48 8)) 48 11 0) 48 12 0) J b) 64 64 Q
          refine am_bipush 48 rfl dX10_nextToken_231 ?_
          refine am_bipush 57 rfl dX10_nextToken_233 ?_
          refine am_invS (As := [.int (I 53 j7), .int 48, .int 57]) (lsZ := [some (.int (I 53 j7)), some (.int 48), some (.int 57)]) (st := []) dX10_nextToken_235 hX10_in lkX10_69 ⟨by decide, by decide⟩ rfl rfl (Nat.le_of_ble_eq_true rfl) rfl (Nat.le_of_ble_eq_true rfl) ⟨Nat.le_refl _, Nat.le_refl _⟩ (tX10_in  (fun hc11 => ?_) (fun hc11 => ?_))
          · have wp := wp.1 hc11
            show am_R E mX10_nextToken 238 [some (.ref 48)] [.int 1] (hp (u2 (u2 (u2 I 48 9 (I 48 8)) 48 11 0) 48 12 0) J b) 64 64 Q
            refine am_if_eq dX10_nextToken_238 (tgt := 357) rfl (fun hc => absurd hc (by decide)) (fun _ => ?_)
            exact am_R.forget wp ⟨rfl, trivial⟩
          · have wp := wp.2 hc11
            show am_R E mX10_nextToken 238 [some (.ref 48)] [.int 0] (hp (u2 (u2 (u2 I 48 9 (I 48 8)) 48 11 0) 48 12 0) J b) 64 64 Q
            refine am_if_eq dX10_nextToken_238 (tgt := 357) rfl (fun _ => ?_) (fun hc => absurd hc (by decide))
            refine am_aload_n rfl rfl dX10_nextToken_357 ?_
            refine am_aload_n rfl rfl dX10_nextToken_358 ?_
            refine am_getA (r := 53) dX10_nextToken_359 flX10_29 (Or.inr ⟨_, rfl⟩) rfl (by decide) rfl ?_
            refine am_aload_n rfl rfl dX10_nextToken_362 ?_
            refine am_getI dX10_nextToken_363 flX10_78 (Or.inl rfl) rfl (by decide) ?_
            show am_R E mX10_nextToken 366 [some (.ref 48)] [.int (I 48 8), .ref 53, .ref 48] (hp (u2 (u2 (u2 I 48 9 (I 48 8)) 48 11 0) 48 12 0) J b) 64 64 Q
            refine am_ialdN (j := j7) dX10_nextToken_366 rfl (by decide) e7 w7 (by decide) ?_
            show am_R E mX10_nextToken 367 [some (.ref 48)] [.int (I 53 j7), .ref 48] (hp (u2 (u2 (u2 I 48 9 (I 48 8)) 48 11 0) 48 12 0) J b) 64 64 Q
            refine am_bipush 59 rfl dX10_nextToken_367 ?_
            refine am_icmp_ne dX10_nextToken_369 (tgt := 378) rfl (fun hc12 => ?_) (fun hc12 => ?_)
            · have wp := wp.1 hc12
              refine am_ldc2 (-4) kcX10_100 dX10_nextToken_378 ?_
              refine am_putJ dX10_nextToken_381 flX10_92 (Or.inl rfl) rfl rfl (by decide) ?_
              refine am_aload_n rfl rfl dX10_nextToken_384 ?_
              refine am_dup rfl dX10_nextToken_385 ?_
              refine am_getI dX10_nextToken_386 flX10_78 (Or.inl rfl) rfl (by decide) ?_
              show am_R E mX10_nextToken 389 [some (.ref 48)] [.int (I 48 8), .ref 48] (hp (u2 (u2 (u2 I 48 9 (I 48 8)) 48 11 0) 48 12 0) (v2 J 48 10 (-4)) b) 64 64 Q
              refine am_iconst 1 rfl dX10_nextToken_389 ?_
              refine am_iadd dX10_nextToken_390 ?_
              refine am_putI dX10_nextToken_391 flX10_78 (Or.inl rfl) rfl rfl (by decide) ?_
              exact am_vret dX10_nextToken_394 rfl wp
            · have wp := wp.2 hc12
              refine am_ldc2 (-3) kcX10_104 dX10_nextToken_372 ?_
              refine am_goto dX10_nextToken_375 (tgt := 381) rfl ?_
              refine am_putJ dX10_nextToken_381 flX10_92 (Or.inl rfl) rfl rfl (by decide) ?_
              refine am_aload_n rfl rfl dX10_nextToken_384 ?_
              refine am_dup rfl dX10_nextToken_385 ?_
              refine am_getI dX10_nextToken_386 flX10_78 (Or.inl rfl) rfl (by decide) ?_
              show am_R E mX10_nextToken 389 [some (.ref 48)] [.int (I 48 8), .ref 48] (hp (u2 (u2 (u2 I 48 9 (I 48 8)) 48 11 0) 48 12 0) (v2 J 48 10 (-3)) b) 64 64 Q
              refine am_iconst 1 rfl dX10_nextToken_389 ?_
              refine am_iadd dX10_nextToken_390 ?_
              refine am_putI dX10_nextToken_391 flX10_78 (Or.inl rfl) rfl rfl (by decide) ?_
              exact am_vret dX10_nextToken_394 rfl wp
      · have wp := wp.2 hc9
        refine am_aload_n rfl rfl dX10_nextToken_67 ?_
        refine am_ldc2 (-2) kcX10_90 dX10_nextToken_68 ?_
        refine am_putJ dX10_nextToken_71 flX10_92 (Or.inl rfl) rfl rfl (by decide) ?_
        refine am_goto dX10_nextToken_74 (tgt := 394) rfl ?_
        exact am_vret dX10_nextToken_394 rfl wp
    · have wp := wp.2 hc8
      refine am_aload_n rfl rfl dX10_nextToken_25 ?_
      refine am_dup rfl dX10_nextToken_26 ?_
      refine am_getI dX10_nextToken_27 flX10_78 (Or.inl rfl) rfl (by decide) ?_
      refine am_iconst 1 rfl dX10_nextToken_30 ?_
      refine am_iadd dX10_nextToken_31 ?_
      refine am_putI dX10_nextToken_32 flX10_78 (Or.inl rfl) rfl rfl (by decide) ?_
      refine am_goto dX10_nextToken_35 (tgt := 0) rfl ?_
      exact am_R.forget wp ⟨rfl, trivial⟩
theorem bX10_nextToken_101 {E : Nat × (Nat → Int32)} {I : Nat → Nat → Int32} {J : Nat → Nat → Int64} {b : Bool}  {Q : Option Value → am_H → Prop}  (wp : (((I 48 6) ≤ (I 48 8) → ((((I 48 8) - (I 48 9)) ≤ 9 → Q none (hp I (v2 J 48 10 (J 48 10)) b)) ∧ (¬ ((I 48 8) - (I 48 9)) ≤ 9 → Q none (hp I (v2 J 48 10 (-4)) b)))) ∧ (¬ (I 48 6) ≤ (I 48 8) → ∃ j3, (I 48 8) = nI j3 ∧ j3 < 200 ∧ (((97 ≤ (I 53 j3) ∧ (I 53 j3) ≤ 122) → ((9 ≤ ((I 48 8) - (I 48 9)) → am_R E mX10_nextToken 101 [some (.ref 48)] [] (hp (u2 I 48 8 ((I 48 8) + 1)) (v2 J 48 10 (-4)) b) 64 64 Q) ∧ (¬ 9 ≤ ((I 48 8) - (I 48 9)) → am_R E mX10_nextToken 101 [some (.ref 48)] [] (hp (u2 I 48 8 ((I 48 8) + 1)) (v2 J 48 10 (((27 * (J 48 10)) + (Int32.toInt64 (I 53 j3))) - 96)) b) 64 64 Q))) ∧ (¬ (97 ≤ (I 53 j3) ∧ (I 53 j3) ≤ 122) → ((((I 48 8) - (I 48 9)) ≤ 9 → Q none (hp I (v2 J 48 10 (J 48 10)) b)) ∧ (¬ ((I 48 8) - (I 48 9)) ≤ 9 → Q none (hp I (v2 J 48 10 (-4)) b)))))))) : am_R E mX10_nextToken 101 [some (.ref 48)] [] (hp I J b) 64 64 Q := by
  refine am_aload_n rfl rfl dX10_nextToken_101 ?_
  refine am_getI dX10_nextToken_102 flX10_78 (Or.inl rfl) rfl (by decide) ?_
  refine am_aload_n rfl rfl dX10_nextToken_105 ?_
  refine am_getI dX10_nextToken_106 flX10_73 (Or.inl rfl) rfl (by decide) ?_
  refine am_icmp_ge dX10_nextToken_109 (tgt := 191) rfl (fun hc1 => ?_) (fun hc1 => ?_)
  · have wp := wp.1 hc1
    refine am_aload_n rfl rfl dX10_nextToken_191 ?_
    refine am_aload_n rfl rfl dX10_nextToken_192 ?_
    refine am_getI dX10_nextToken_193 flX10_78 (Or.inl rfl) rfl (by decide) ?_
    refine am_aload_n rfl rfl dX10_nextToken_196 ?_
    refine am_getI dX10_nextToken_197 flX10_81 (Or.inl rfl) rfl (by decide) ?_
    refine am_isub dX10_nextToken_200 ?_
    refine am_bipush 9 rfl dX10_nextToken_201 ?_
    refine am_icmp_le dX10_nextToken_203 (tgt := 212) rfl (fun hc2 => ?_) (fun hc2 => ?_)
    · have wp := wp.1 hc2
      refine am_aload_n rfl rfl dX10_nextToken_212 ?_
      refine am_getJ dX10_nextToken_213 flX10_92 rfl rfl (by decide) ?_
      refine am_putJ dX10_nextToken_216 flX10_92 (Or.inl rfl) rfl rfl (by decide) ?_
      refine am_goto dX10_nextToken_219 (tgt := 394) rfl ?_
      exact am_vret dX10_nextToken_394 rfl wp
    · have wp := wp.2 hc2
      refine am_ldc2 (-4) kcX10_100 dX10_nextToken_206 ?_
      refine am_goto dX10_nextToken_209 (tgt := 216) rfl ?_
      refine am_putJ dX10_nextToken_216 flX10_92 (Or.inl rfl) rfl rfl (by decide) ?_
      refine am_goto dX10_nextToken_219 (tgt := 394) rfl ?_
      exact am_vret dX10_nextToken_394 rfl wp
  · have wp := wp.2 hc1
    refine am_aload_n rfl rfl dX10_nextToken_112 ?_
    refine am_getA (r := 53) dX10_nextToken_113 flX10_29 (Or.inr ⟨_, rfl⟩) rfl (by decide) rfl ?_
    refine am_aload_n rfl rfl dX10_nextToken_116 ?_
    refine am_getI dX10_nextToken_117 flX10_78 (Or.inl rfl) rfl (by decide) ?_
    obtain ⟨j3, e3, w3, wp⟩ := wp
    refine am_ialdN (j := j3) dX10_nextToken_120 rfl (by decide) e3 w3 (by decide) ?_
    refine am_bipush 97 rfl dX10_nextToken_121 ?_
    refine am_bipush 122 rfl dX10_nextToken_123 ?_
    refine am_invS (As := [.int (I 53 j3), .int 97, .int 122]) (lsZ := [some (.int (I 53 j3)), some (.int 97), some (.int 122)]) (st := []) dX10_nextToken_125 hX10_in lkX10_69 ⟨by decide, by decide⟩ rfl rfl (Nat.le_of_ble_eq_true rfl) rfl (Nat.le_of_ble_eq_true rfl) ⟨Nat.le_refl _, Nat.le_refl _⟩ (tX10_in  (fun hc4 => ?_) (fun hc4 => ?_))
    · have wp := wp.1 hc4
      show am_R E mX10_nextToken 128 [some (.ref 48)] [.int 1] (hp I J b) 64 64 Q
      refine am_if_eq dX10_nextToken_128 (tgt := 191) rfl (fun hc => absurd hc (by decide)) (fun _ => ?_)
      refine am_aload_n rfl rfl dX10_nextToken_131 ?_
      refine am_aload_n rfl rfl dX10_nextToken_132 ?_
      refine am_getI dX10_nextToken_133 flX10_78 (Or.inl rfl) rfl (by decide) ?_
      refine am_aload_n rfl rfl dX10_nextToken_136 ?_
      refine am_getI dX10_nextToken_137 flX10_81 (Or.inl rfl) rfl (by decide) ?_
      refine am_isub dX10_nextToken_140 ?_
      refine am_bipush 9 rfl dX10_nextToken_141 ?_
      refine am_icmp_ge dX10_nextToken_143 (tgt := 172) rfl (fun hc5 => ?_) (fun hc5 => ?_)
      · have wp := wp.1 hc5
        refine am_ldc2 (-4) kcX10_100 dX10_nextToken_172 ?_
        refine am_putJ dX10_nextToken_175 flX10_92 (Or.inl rfl) rfl rfl (by decide) ?_
        refine am_aload_n rfl rfl dX10_nextToken_178 ?_
        refine am_dup rfl dX10_nextToken_179 ?_
        refine am_getI dX10_nextToken_180 flX10_78 (Or.inl rfl) rfl (by decide) ?_
        show am_R E mX10_nextToken 183 [some (.ref 48)] [.int (I 48 8), .ref 48] (hp I (v2 J 48 10 (-4)) b) 64 64 Q
        refine am_iconst 1 rfl dX10_nextToken_183 ?_
        refine am_iadd dX10_nextToken_184 ?_
        refine am_putI dX10_nextToken_185 flX10_78 (Or.inl rfl) rfl rfl (by decide) ?_
        refine am_goto dX10_nextToken_188 (tgt := 101) rfl ?_
        exact am_R.forget wp ⟨rfl, trivial⟩
      · have wp := wp.2 hc5
        refine am_ldc2 27 kcX10_96 dX10_nextToken_146 ?_
        refine am_aload_n rfl rfl dX10_nextToken_149 ?_
        refine am_getJ dX10_nextToken_150 flX10_92 rfl rfl (by decide) ?_
        refine am_lmul dX10_nextToken_153 ?_
        refine am_aload_n rfl rfl dX10_nextToken_154 ?_
        refine am_getA (r := 53) dX10_nextToken_155 flX10_29 (Or.inr ⟨_, rfl⟩) rfl (by decide) rfl ?_
        refine am_aload_n rfl rfl dX10_nextToken_158 ?_
        refine am_getI dX10_nextToken_159 flX10_78 (Or.inl rfl) rfl (by decide) ?_
        refine am_ialdN (j := j3) dX10_nextToken_162 rfl (by decide) e3 w3 (by decide) ?_
        refine am_i2l dX10_nextToken_163 ?_
        refine am_ladd dX10_nextToken_164 ?_
        refine am_ldc2 96 kcX10_98 dX10_nextToken_165 ?_
        refine am_lsub dX10_nextToken_168 ?_
        refine am_goto dX10_nextToken_169 (tgt := 175) rfl ?_
        refine am_putJ dX10_nextToken_175 flX10_92 (Or.inl rfl) rfl rfl (by decide) ?_
        refine am_aload_n rfl rfl dX10_nextToken_178 ?_
        refine am_dup rfl dX10_nextToken_179 ?_
        refine am_getI dX10_nextToken_180 flX10_78 (Or.inl rfl) rfl (by decide) ?_
        show am_R E mX10_nextToken 183 [some (.ref 48)] [.int (I 48 8), .ref 48] (hp I (v2 J 48 10 (((27 * (J 48 10)) + (Int32.toInt64 (I 53 j3))) - 96)) b) 64 64 Q
        refine am_iconst 1 rfl dX10_nextToken_183 ?_
        refine am_iadd dX10_nextToken_184 ?_
        refine am_putI dX10_nextToken_185 flX10_78 (Or.inl rfl) rfl rfl (by decide) ?_
        refine am_goto dX10_nextToken_188 (tgt := 101) rfl ?_
        exact am_R.forget wp ⟨rfl, trivial⟩
    · have wp := wp.2 hc4
      show am_R E mX10_nextToken 128 [some (.ref 48)] [.int 0] (hp I J b) 64 64 Q
      refine am_if_eq dX10_nextToken_128 (tgt := 191) rfl (fun _ => ?_) (fun hc => absurd hc (by decide))
      refine am_aload_n rfl rfl dX10_nextToken_191 ?_
      refine am_aload_n rfl rfl dX10_nextToken_192 ?_
      refine am_getI dX10_nextToken_193 flX10_78 (Or.inl rfl) rfl (by decide) ?_
      refine am_aload_n rfl rfl dX10_nextToken_196 ?_
      refine am_getI dX10_nextToken_197 flX10_81 (Or.inl rfl) rfl (by decide) ?_
      refine am_isub dX10_nextToken_200 ?_
      refine am_bipush 9 rfl dX10_nextToken_201 ?_
      refine am_icmp_le dX10_nextToken_203 (tgt := 212) rfl (fun hc6 => ?_) (fun hc6 => ?_)
      · have wp := wp.1 hc6
        refine am_aload_n rfl rfl dX10_nextToken_212 ?_
        refine am_getJ dX10_nextToken_213 flX10_92 rfl rfl (by decide) ?_
        refine am_putJ dX10_nextToken_216 flX10_92 (Or.inl rfl) rfl rfl (by decide) ?_
        refine am_goto dX10_nextToken_219 (tgt := 394) rfl ?_
        exact am_vret dX10_nextToken_394 rfl wp
      · have wp := wp.2 hc6
        refine am_ldc2 (-4) kcX10_100 dX10_nextToken_206 ?_
        refine am_goto dX10_nextToken_209 (tgt := 216) rfl ?_
        refine am_putJ dX10_nextToken_216 flX10_92 (Or.inl rfl) rfl rfl (by decide) ?_
        refine am_goto dX10_nextToken_219 (tgt := 394) rfl ?_
        exact am_vret dX10_nextToken_394 rfl wp
theorem bX10_nextToken_241 {E : Nat × (Nat → Int32)} {I : Nat → Nat → Int32} {J : Nat → Nat → Int64} {b : Bool}  {Q : Option Value → am_H → Prop}  (wp : (((I 48 6) ≤ (I 48 8) → (((I 48 11) ≤ 2 → Q none (hp I (v2 J 48 10 (-1)) b)) ∧ (¬ (I 48 11) ≤ 2 → Q none (hp I (v2 J 48 10 (-4)) b)))) ∧ (¬ (I 48 6) ≤ (I 48 8) → ∃ j3, (I 48 8) = nI j3 ∧ j3 < 200 ∧ (((48 ≤ (I 53 j3) ∧ (I 53 j3) ≤ 57) → ((2 ≤ (I 48 11) → am_R E mX10_nextToken 241 [some (.ref 48)] [] (hp (u2 (u2 (u2 I 48 12 (I 48 12)) 48 11 ((I 48 11) + 1)) 48 8 ((I 48 8) + 1)) J b) 64 64 Q) ∧ (¬ 2 ≤ (I 48 11) → am_R E mX10_nextToken 241 [some (.ref 48)] [] (hp (u2 (u2 (u2 I 48 12 (((10 * (I 48 12)) + (I 53 j3)) - 48)) 48 11 ((I 48 11) + 1)) 48 8 ((I 48 8) + 1)) J b) 64 64 Q))) ∧ (¬ (48 ≤ (I 53 j3) ∧ (I 53 j3) ≤ 57) → (((I 48 11) ≤ 2 → Q none (hp I (v2 J 48 10 (-1)) b)) ∧ (¬ (I 48 11) ≤ 2 → Q none (hp I (v2 J 48 10 (-4)) b)))))))) : am_R E mX10_nextToken 241 [some (.ref 48)] [] (hp I J b) 64 64 Q := by
  refine am_aload_n rfl rfl dX10_nextToken_241 ?_
  refine am_getI dX10_nextToken_242 flX10_78 (Or.inl rfl) rfl (by decide) ?_
  refine am_aload_n rfl rfl dX10_nextToken_245 ?_
  refine am_getI dX10_nextToken_246 flX10_73 (Or.inl rfl) rfl (by decide) ?_
  refine am_icmp_ge dX10_nextToken_249 (tgt := 333) rfl (fun hc1 => ?_) (fun hc1 => ?_)
  · have wp := wp.1 hc1
    refine am_aload_n rfl rfl dX10_nextToken_333 ?_
    refine am_aload_n rfl rfl dX10_nextToken_334 ?_
    refine am_getI dX10_nextToken_335 flX10_84 (Or.inl rfl) rfl (by decide) ?_
    refine am_iconst 2 rfl dX10_nextToken_338 ?_
    refine am_icmp_le dX10_nextToken_339 (tgt := 348) rfl (fun hc2 => ?_) (fun hc2 => ?_)
    · have wp := wp.1 hc2
      refine am_ldc2 (-1) kcX10_102 dX10_nextToken_348 ?_
      refine am_putJ dX10_nextToken_351 flX10_92 (Or.inl rfl) rfl rfl (by decide) ?_
      refine am_goto dX10_nextToken_354 (tgt := 394) rfl ?_
      exact am_vret dX10_nextToken_394 rfl wp
    · have wp := wp.2 hc2
      refine am_ldc2 (-4) kcX10_100 dX10_nextToken_342 ?_
      refine am_goto dX10_nextToken_345 (tgt := 351) rfl ?_
      refine am_putJ dX10_nextToken_351 flX10_92 (Or.inl rfl) rfl rfl (by decide) ?_
      refine am_goto dX10_nextToken_354 (tgt := 394) rfl ?_
      exact am_vret dX10_nextToken_394 rfl wp
  · have wp := wp.2 hc1
    refine am_aload_n rfl rfl dX10_nextToken_252 ?_
    refine am_getA (r := 53) dX10_nextToken_253 flX10_29 (Or.inr ⟨_, rfl⟩) rfl (by decide) rfl ?_
    refine am_aload_n rfl rfl dX10_nextToken_256 ?_
    refine am_getI dX10_nextToken_257 flX10_78 (Or.inl rfl) rfl (by decide) ?_
    obtain ⟨j3, e3, w3, wp⟩ := wp
    refine am_ialdN (j := j3) dX10_nextToken_260 rfl (by decide) e3 w3 (by decide) ?_
    refine am_bipush 48 rfl dX10_nextToken_261 ?_
    refine am_bipush 57 rfl dX10_nextToken_263 ?_
    refine am_invS (As := [.int (I 53 j3), .int 48, .int 57]) (lsZ := [some (.int (I 53 j3)), some (.int 48), some (.int 57)]) (st := []) dX10_nextToken_265 hX10_in lkX10_69 ⟨by decide, by decide⟩ rfl rfl (Nat.le_of_ble_eq_true rfl) rfl (Nat.le_of_ble_eq_true rfl) ⟨Nat.le_refl _, Nat.le_refl _⟩ (tX10_in  (fun hc4 => ?_) (fun hc4 => ?_))
    · have wp := wp.1 hc4
      show am_R E mX10_nextToken 268 [some (.ref 48)] [.int 1] (hp I J b) 64 64 Q
      refine am_if_eq dX10_nextToken_268 (tgt := 333) rfl (fun hc => absurd hc (by decide)) (fun _ => ?_)
      refine am_aload_n rfl rfl dX10_nextToken_271 ?_
      refine am_aload_n rfl rfl dX10_nextToken_272 ?_
      refine am_getI dX10_nextToken_273 flX10_84 (Or.inl rfl) rfl (by decide) ?_
      refine am_iconst 2 rfl dX10_nextToken_276 ?_
      refine am_icmp_ge dX10_nextToken_277 (tgt := 303) rfl (fun hc5 => ?_) (fun hc5 => ?_)
      · have wp := wp.1 hc5
        refine am_aload_n rfl rfl dX10_nextToken_303 ?_
        refine am_getI dX10_nextToken_304 flX10_87 (Or.inl rfl) rfl (by decide) ?_
        refine am_putI dX10_nextToken_307 flX10_87 (Or.inl rfl) rfl rfl (by decide) ?_
        refine am_aload_n rfl rfl dX10_nextToken_310 ?_
        refine am_dup rfl dX10_nextToken_311 ?_
        refine am_getI dX10_nextToken_312 flX10_84 (Or.inl rfl) rfl (by decide) ?_
        show am_R E mX10_nextToken 315 [some (.ref 48)] [.int (I 48 11), .ref 48] (hp (u2 I 48 12 (I 48 12)) J b) 64 64 Q
        refine am_iconst 1 rfl dX10_nextToken_315 ?_
        refine am_iadd dX10_nextToken_316 ?_
        refine am_putI dX10_nextToken_317 flX10_84 (Or.inl rfl) rfl rfl (by decide) ?_
        refine am_aload_n rfl rfl dX10_nextToken_320 ?_
        refine am_dup rfl dX10_nextToken_321 ?_
        refine am_getI dX10_nextToken_322 flX10_78 (Or.inl rfl) rfl (by decide) ?_
        show am_R E mX10_nextToken 325 [some (.ref 48)] [.int (I 48 8), .ref 48] (hp (u2 (u2 I 48 12 (I 48 12)) 48 11 ((I 48 11) + 1)) J b) 64 64 Q
        refine am_iconst 1 rfl dX10_nextToken_325 ?_
        refine am_iadd dX10_nextToken_326 ?_
        refine am_putI dX10_nextToken_327 flX10_78 (Or.inl rfl) rfl rfl (by decide) ?_
        refine am_goto dX10_nextToken_330 (tgt := 241) rfl ?_
        exact am_R.forget wp ⟨rfl, trivial⟩
      · have wp := wp.2 hc5
        refine am_bipush 10 rfl dX10_nextToken_280 ?_
        refine am_aload_n rfl rfl dX10_nextToken_282 ?_
        refine am_getI dX10_nextToken_283 flX10_87 (Or.inl rfl) rfl (by decide) ?_
        refine am_imul dX10_nextToken_286 ?_
        refine am_aload_n rfl rfl dX10_nextToken_287 ?_
        refine am_getA (r := 53) dX10_nextToken_288 flX10_29 (Or.inr ⟨_, rfl⟩) rfl (by decide) rfl ?_
        refine am_aload_n rfl rfl dX10_nextToken_291 ?_
        refine am_getI dX10_nextToken_292 flX10_78 (Or.inl rfl) rfl (by decide) ?_
        refine am_ialdN (j := j3) dX10_nextToken_295 rfl (by decide) e3 w3 (by decide) ?_
        refine am_iadd dX10_nextToken_296 ?_
        refine am_bipush 48 rfl dX10_nextToken_297 ?_
        refine am_isub dX10_nextToken_299 ?_
        refine am_goto dX10_nextToken_300 (tgt := 307) rfl ?_
        refine am_putI dX10_nextToken_307 flX10_87 (Or.inl rfl) rfl rfl (by decide) ?_
        refine am_aload_n rfl rfl dX10_nextToken_310 ?_
        refine am_dup rfl dX10_nextToken_311 ?_
        refine am_getI dX10_nextToken_312 flX10_84 (Or.inl rfl) rfl (by decide) ?_
        show am_R E mX10_nextToken 315 [some (.ref 48)] [.int (I 48 11), .ref 48] (hp (u2 I 48 12 (((10 * (I 48 12)) + (I 53 j3)) - 48)) J b) 64 64 Q
        refine am_iconst 1 rfl dX10_nextToken_315 ?_
        refine am_iadd dX10_nextToken_316 ?_
        refine am_putI dX10_nextToken_317 flX10_84 (Or.inl rfl) rfl rfl (by decide) ?_
        refine am_aload_n rfl rfl dX10_nextToken_320 ?_
        refine am_dup rfl dX10_nextToken_321 ?_
        refine am_getI dX10_nextToken_322 flX10_78 (Or.inl rfl) rfl (by decide) ?_
        show am_R E mX10_nextToken 325 [some (.ref 48)] [.int (I 48 8), .ref 48] (hp (u2 (u2 I 48 12 (((10 * (I 48 12)) + (I 53 j3)) - 48)) 48 11 ((I 48 11) + 1)) J b) 64 64 Q
        refine am_iconst 1 rfl dX10_nextToken_325 ?_
        refine am_iadd dX10_nextToken_326 ?_
        refine am_putI dX10_nextToken_327 flX10_78 (Or.inl rfl) rfl rfl (by decide) ?_
        refine am_goto dX10_nextToken_330 (tgt := 241) rfl ?_
        exact am_R.forget wp ⟨rfl, trivial⟩
    · have wp := wp.2 hc4
      show am_R E mX10_nextToken 268 [some (.ref 48)] [.int 0] (hp I J b) 64 64 Q
      refine am_if_eq dX10_nextToken_268 (tgt := 333) rfl (fun _ => ?_) (fun hc => absurd hc (by decide))
      refine am_aload_n rfl rfl dX10_nextToken_333 ?_
      refine am_aload_n rfl rfl dX10_nextToken_334 ?_
      refine am_getI dX10_nextToken_335 flX10_84 (Or.inl rfl) rfl (by decide) ?_
      refine am_iconst 2 rfl dX10_nextToken_338 ?_
      refine am_icmp_le dX10_nextToken_339 (tgt := 348) rfl (fun hc6 => ?_) (fun hc6 => ?_)
      · have wp := wp.1 hc6
        refine am_ldc2 (-1) kcX10_102 dX10_nextToken_348 ?_
        refine am_putJ dX10_nextToken_351 flX10_92 (Or.inl rfl) rfl rfl (by decide) ?_
        refine am_goto dX10_nextToken_354 (tgt := 394) rfl ?_
        exact am_vret dX10_nextToken_394 rfl wp
      · have wp := wp.2 hc6
        refine am_ldc2 (-4) kcX10_100 dX10_nextToken_342 ?_
        refine am_goto dX10_nextToken_345 (tgt := 351) rfl ?_
        refine am_putJ dX10_nextToken_351 flX10_92 (Or.inl rfl) rfl rfl (by decide) ?_
        refine am_goto dX10_nextToken_354 (tgt := 394) rfl ?_
        exact am_vret dX10_nextToken_394 rfl wp
theorem tX10_nextToken (eL : I 48 6 = nI L) (hL : L ≤ 200) (e8 : I 48 8 = nI p) (hp' : p ≤ L) (hT : ∀ j, j < L → I 53 j = T j) (k : ∀ I1 J1, Mt I I1 → I1 48 8 = nI (te T L p) → I1 48 9 = nI (ts T L p) → J1 48 10 = tkv T L p → (∀ x, nv T L p = some x → I1 48 12 = nI x) → Q none (hp I1 J1 b)) : am_R E mX10_nextToken 0 [some (.ref 48)] [] (hp I J b) 64 64 Q := by
  obtain ⟨t1, t2, t3⟩ := te_ok (T := T) hp'
  obtain ⟨s1, s2⟩ := ts_ok (T := T) hp'
  -- letters
  have lpL : ∀ (r q : Nat) (I1 : Nat → Nat → Int32) (J1 : Nat → Nat → Int64), q + r = L → ts T L p < L → isL (T (ts T L p)) = true → ts T L p ≤ q → rn isL T L q = te T L p → (∀ i, ts T L p ≤ i → i < q → isL (T i) = true) → Mt I I1 → I1 48 8 = nI q → I1 48 9 = nI (ts T L p) → J1 48 10 = (if q - ts T L p ≤ 9 then lN (w27 (lt T (ts T L p) (q - ts T L p))) else -4) → am_R E mX10_nextToken 101 [some (.ref 48)] [] (hp I1 J1 b) 64 64 Q := by
    intro r
    induction r with
    | zero =>
      intro q I1 J1 hq hl hL0 hsq he hlet hM h8 h9 hJ
      rw [rn_eq, if_neg (fun z => by omega)] at he
      have hv : tkv T L p = (if q - ts T L p ≤ 9 then lN (w27 (lt T (ts T L p) (q - ts T L p))) else -4) := by unfold tkv; rw [if_pos hl, if_pos hL0, ← he]
      have hnv : ∀ x, nv T L p = some x → I1 48 12 = nI x := fun x hx => by
        unfold nv at hx
        split at hx
        · rename_i w
          have := (dg_dig hp' w.1).2.2
          rw [hL0] at this; cases this
        · cases hx
      have ed : I1 48 8 - I1 48 9 = nI (q - ts T L p) := by rw [h8, h9, pk_sub hsq]
      refine bX10_nextToken_101 (le_br (n := L) (m := q) (by rw [hM.2 6 (by decide) (by decide) (by decide) (by decide)]; exact eL) h8 (by omega) (by omega) (fun _ => ?_) (fun z => by omega))
      refine le_br (n := q - ts T L p) (m := 9) ed rfl (by omega) (by omega) (fun z => k I1 _ hM (by rw [h8, he]) h9 ?_ hnv) (fun z => k I1 _ hM (by rw [h8, he]) h9 ?_ hnv)
      · rw [v2_at, if_pos rfl, hv]; exact hJ
      · rw [v2_at, if_pos rfl, hv, if_neg (by omega)]
    | succ r ih =>
      intro q I1 J1 hq hl hL0 hsq he hlet hM h8 h9 hJ
      have hv : ∀ e, te T L p = e → tkv T L p = (if e - ts T L p ≤ 9 then lN (w27 (lt T (ts T L p) (e - ts T L p))) else -4) := fun e he => by unfold tkv; rw [if_pos hl, if_pos hL0, he]
      have hnv : ∀ x, nv T L p = some x → I1 48 12 = nI x := fun x hx => by
        unfold nv at hx
        split at hx
        · rename_i w
          have := (dg_dig hp' w.1).2.2
          rw [hL0] at this; cases this
        · cases hx
      have ed : I1 48 8 - I1 48 9 = nI (q - ts T L p) := by rw [h8, h9, pk_sub hsq]
      rw [rn_eq] at he
      refine bX10_nextToken_101 (le_br (n := L) (m := q) (by rw [hM.2 6 (by decide) (by decide) (by decide) (by decide)]; exact eL) h8 (by omega) (by omega) (fun z => by omega) (fun _ => ⟨q, h8, by omega, ?_⟩))
      rw [hM.1 53 (by decide), hT q (by omega)]
      refine ⟨fun z => ?_, fun z => ?_⟩
      · have zL : isL (T q) = true := decide_eq_true z
        rw [if_pos ⟨by omega, zL⟩] at he
        have hlet2 : ∀ i, ts T L p ≤ i → i < q + 1 → isL (T i) = true := fun i h1 h2 => by
          by_cases e : i = q
          · rw [e]; exact zL
          · exact hlet i h1 (by omega)
        have hM2 : Mt I (u2 I1 48 8 (I1 48 8 + 1)) := hM.u (Or.inl rfl)
        have g8 : u2 I1 48 8 (I1 48 8 + 1) 48 8 = nI (q + 1) := by rw [u2_at, if_pos rfl, h8, n1]
        have g9 : u2 I1 48 8 (I1 48 8 + 1) 48 9 = nI (ts T L p) := by rw [u2_at, if_neg (by decide)]; exact h9
        refine le_br (n := 9) (m := q - ts T L p) rfl ed (by omega) (by omega) (fun y => ?_) (fun y => ?_)
        · refine ih (q + 1) _ _ (by omega) hl hL0 (by omega) he hlet2 hM2 g8 g9 ?_
          rw [v2_at, if_pos rfl, if_neg (by omega)]
        · refine ih (q + 1) _ _ (by omega) hl hL0 (by omega) he hlet2 hM2 g8 g9 ?_
          rw [v2_at, if_pos rfl, if_pos (by omega), hJ, if_pos (by omega), show q + 1 - ts T L p = (q - ts T L p) + 1 by omega]
          simp only [lt, w27]
          obtain ⟨c, c1, c2, e⟩ := let_n zL
          rw [show ts T L p + (q - ts T L p) = q by omega, e, nI_clamp (by omega), nI_l (by omega), show (27 : Int64) = lN 27 from rfl, show (96 : Int64) = lN 96 from rfl, lN_mul, lN_add, lN_sub (by omega)]
          congr 1
          omega
      · have zL : ¬ isL (T q) = true := fun w => z (of_decide_eq_true w)
        rw [if_neg (fun w => zL w.2)] at he
        refine le_br (n := q - ts T L p) (m := 9) ed rfl (by omega) (by omega) (fun y => k I1 _ hM (by rw [h8, he]) h9 ?_ hnv) (fun y => k I1 _ hM (by rw [h8, he]) h9 ?_ hnv)
        · rw [v2_at, if_pos rfl, hv q he.symm]; exact hJ
        · rw [v2_at, if_pos rfl, hv q he.symm, if_neg (by omega)]
  -- digits
  have lpD : ∀ (r q : Nat) (I1 : Nat → Nat → Int32), q + r = L → ts T L p < L ∧ isD (T (ts T L p)) = true → ts T L p ≤ q → rn isD T L q = te T L p → Mt I I1 → I1 48 8 = nI q → I1 48 9 = nI (ts T L p) → I1 48 11 = nI (q - ts T L p) → (q - ts T L p ≤ 2 → I1 48 12 = nI (dn T (ts T L p) (q - ts T L p))) → am_R E mX10_nextToken 241 [some (.ref 48)] [] (hp I1 J b) 64 64 Q := by
    intro r
    induction r with
    | zero =>
      intro q I1 hq hd hsq he hM h8 h9 h11 h12
      rw [rn_eq, if_neg (fun z => by omega)] at he
      obtain ⟨d1, d2, d3⟩ := dg_dig hp' hd
      have hv : tkv T L p = (if q - ts T L p ≤ 2 then -1 else -4) := by unfold tkv; rw [if_pos hd.1, d3, if_neg (by decide), if_pos hd.2, ← he]
      refine bX10_nextToken_241 (le_br (n := L) (m := q) (by rw [hM.2 6 (by decide) (by decide) (by decide) (by decide)]; exact eL) h8 (by omega) (by omega) (fun _ => ?_) (fun z => by omega))
      refine le_br (n := q - ts T L p) (m := 2) h11 rfl (by omega) (by omega) (fun z => k I1 _ hM (by rw [h8, he]) h9 ?_ (fun x hx => ?_)) (fun z => k I1 _ hM (by rw [h8, he]) h9 ?_ (fun x hx => ?_))
      · rw [v2_at, if_pos rfl, hv, if_pos z]
      · unfold nv at hx
        rw [← he, if_pos ⟨hd, z⟩] at hx
        cases hx; exact h12 z
      · rw [v2_at, if_pos rfl, hv, if_neg (by omega)]
      · unfold nv at hx
        rw [← he, if_neg (fun w => by omega)] at hx
        cases hx
    | succ r ih =>
      intro q I1 hq hd hsq he hM h8 h9 h11 h12
      obtain ⟨d1, d2, d3⟩ := dg_dig hp' hd
      rw [rn_eq] at he
      have hv : ∀ e, te T L p = e → tkv T L p = (if e - ts T L p ≤ 2 then -1 else -4) := fun e he => by unfold tkv; rw [if_pos hd.1, d3, if_neg (by decide), if_pos hd.2, he]
      refine bX10_nextToken_241 (le_br (n := L) (m := q) (by rw [hM.2 6 (by decide) (by decide) (by decide) (by decide)]; exact eL) h8 (by omega) (by omega) (fun z => by omega) (fun _ => ⟨q, h8, by omega, ?_⟩))
      rw [hM.1 53 (by decide), hT q (by omega)]
      refine ⟨fun z => ?_, fun z => ?_⟩
      · have zD : isD (T q) = true := decide_eq_true z
        rw [if_pos ⟨by omega, zD⟩] at he
        have go : ∀ x : Int32, (q + 1 - ts T L p ≤ 2 → x = nI (dn T (ts T L p) (q + 1 - ts T L p))) → am_R E mX10_nextToken 241 [some (.ref 48)] [] (hp (u2 (u2 (u2 I1 48 12 x) 48 11 (I1 48 11 + 1)) 48 8 (I1 48 8 + 1)) J b) 64 64 Q := by
          intro x hx
          refine ih (q + 1) _ (by omega) hd (by omega) he (((hM.u (Or.inr (Or.inr (Or.inr rfl)))).u (Or.inr (Or.inr (Or.inl rfl)))).u (Or.inl rfl)) ?_ ?_ ?_ (fun w => ?_)
          · rw [u2_at, if_pos rfl, h8, n1]
          · rw [u2_at, if_neg (by decide), u2_at, if_neg (by decide), u2_at, if_neg (by decide)]; exact h9
          · rw [u2_at, if_neg (by decide), u2_at, if_pos rfl, h11, n1, show q - ts T L p + 1 = q + 1 - ts T L p by omega]
          · rw [u2_at, if_neg (by decide), u2_at, if_neg (by decide), u2_at, if_pos rfl]; exact hx w
        refine le_br (n := 2) (m := q - ts T L p) rfl h11 (by omega) (by omega) (fun y => go _ (fun w => by omega)) (fun y => go _ (fun w => ?_))
        rw [h12 (by omega), show q + 1 - ts T L p = (q - ts T L p) + 1 by omega, dn, show ts T L p + (q - ts T L p) = q by omega]
        obtain ⟨c, c1, c2, e⟩ := dig_n zD
        rw [e, nI_clamp (by omega), show (10 : Int32) = nI 10 from rfl, show (48 : Int32) = nI 48 from rfl, pk_mul, nI_add, pk_sub (by omega)]
        congr 1
        omega
      · have zD : ¬ isD (T q) = true := fun w => z (of_decide_eq_true w)
        rw [if_neg (fun w => zD w.2)] at he
        refine le_br (n := q - ts T L p) (m := 2) h11 rfl (by omega) (by omega) (fun y => k I1 _ hM (by rw [h8, he]) h9 ?_ (fun x hx => ?_)) (fun y => k I1 _ hM (by rw [h8, he]) h9 ?_ (fun x hx => ?_))
        · rw [v2_at, if_pos rfl, hv q he.symm, if_pos y]
        · unfold nv at hx
          rw [← he, if_pos ⟨hd, y⟩] at hx
          cases hx; exact h12 y
        · rw [v2_at, if_pos rfl, hv q he.symm, if_neg (by omega)]
        · unfold nv at hx
          rw [← he, if_neg (fun w => by omega)] at hx
          cases hx
  have key : ∀ r q (I1 : Nat → Nat → Int32), q + r = L → rn isB T L q = ts T L p → Mt I I1 → I1 48 8 = nI q → am_R E mX10_nextToken 0 [some (.ref 48)] [] (hp I1 J b) 64 64 Q := by
    intro r
    induction r with
    | zero =>
      intro q I1 hq he hM h8
      have e6 : I1 48 6 = nI L := by rw [hM.2 6 (by decide) (by decide) (by decide) (by decide)]; exact eL
      rw [rn_eq, if_neg (fun z => by omega)] at he
      have et : te T L p = q := by unfold te; rw [← he, if_neg (by omega)]
      have hM2 : Mt I (u2 (u2 (u2 I1 48 9 (I1 48 8)) 48 11 0) 48 12 0) := ((hM.u (Or.inr (Or.inl rfl))).u (Or.inr (Or.inr (Or.inl rfl)))).u (Or.inr (Or.inr (Or.inr rfl)))
      refine bX10_nextToken_0 (le_br (n := L) (m := q) e6 h8 (by omega) (by omega) (fun _ => ⟨fun z => absurd (by rw [h8, e6, show q = L by omega]) z, fun _ => ?_⟩) (fun z => by omega))
      refine k _ _ hM2 ?_ ?_ ?_ (fun x hx => ?_)
      · rw [u2_at, if_neg (by decide), u2_at, if_neg (by decide), u2_at, if_neg (by decide), h8, et]
      · rw [u2_at, if_neg (by decide), u2_at, if_neg (by decide), u2_at, if_pos rfl, h8, he]
      · rw [v2_at, if_pos rfl]; unfold tkv; rw [if_neg (by omega)]
      · unfold nv at hx; rw [if_neg (fun w => by omega)] at hx; cases hx
    | succ r ih =>
      intro q I1 hq he hM h8
      have e6 : I1 48 6 = nI L := by rw [hM.2 6 (by decide) (by decide) (by decide) (by decide)]; exact eL
      have hM2 : Mt I (u2 (u2 (u2 I1 48 9 (I1 48 8)) 48 11 0) 48 12 0) := ((hM.u (Or.inr (Or.inl rfl))).u (Or.inr (Or.inr (Or.inl rfl)))).u (Or.inr (Or.inr (Or.inr rfl)))
      have g8 : u2 (u2 (u2 I1 48 9 (I1 48 8)) 48 11 0) 48 12 0 48 8 = nI q := by rw [u2_at, if_neg (by decide), u2_at, if_neg (by decide), u2_at, if_neg (by decide), h8]
      have g9 : u2 (u2 (u2 I1 48 9 (I1 48 8)) 48 11 0) 48 12 0 48 9 = nI q := by rw [u2_at, if_neg (by decide), u2_at, if_neg (by decide), u2_at, if_pos rfl, h8]
      have g11 : u2 (u2 (u2 I1 48 9 (I1 48 8)) 48 11 0) 48 12 0 48 11 = nI 0 := by rw [u2_at, if_neg (by decide), u2_at, if_pos rfl]; rfl
      have g12 : u2 (u2 (u2 I1 48 9 (I1 48 8)) 48 11 0) 48 12 0 48 12 = nI 0 := by rw [u2_at, if_pos rfl]; rfl
      rw [rn_eq] at he
      refine bX10_nextToken_0 (le_br (n := L) (m := q) e6 h8 (by omega) (by omega) (fun z => by omega) (fun _ => ⟨q, h8, by omega, ?_⟩))
      rw [hM.1 53 (by decide), hT q (by omega)]
      refine ⟨fun z => ?_, fun z => ?_⟩
      · have zB : ¬ isB (T q) = true := fun w => z (of_decide_eq_true w)
        rw [if_neg (fun w => zB w.2)] at he
        have hql : q < L := by omega
        refine ⟨fun _ => ?_, fun w => ?_⟩
        · refine ⟨fun y => ?_, fun y => ⟨fun y2 => ?_, fun y2 => ?_⟩⟩
          · have yL : isL (T q) = true := decide_eq_true y
            refine lpL (r + 1) q _ _ hq (by rw [← he]; exact hql) (by rw [← he]; exact yL) (by omega) ?_ (fun i h1 h2 => by omega) hM2 g8 (by rw [g9, he]) ?_
            · unfold te; rw [← he, if_pos hql, if_pos yL]
            · rw [v2_at, if_pos rfl, ← he, Nat.sub_self, if_pos (by decide)]; rfl
          · have yL : ¬ isL (T q) = true := fun w => y (of_decide_eq_true w)
            have yD : isD (T q) = true := decide_eq_true y2
            refine lpD (r + 1) q _ hq ⟨by rw [← he]; exact hql, by rw [← he]; exact yD⟩ (by omega) ?_ hM2 g8 (by rw [g9, he]) (by rw [g11, ← he, Nat.sub_self]) (fun _ => by rw [g12, ← he, Nat.sub_self]; rfl)
            unfold te; rw [← he, if_pos hql, if_neg yL, if_pos yD]
          · have yL : ¬ isL (T q) = true := fun w => y (of_decide_eq_true w)
            have yD : ¬ isD (T q) = true := fun w => y2 (of_decide_eq_true w)
            have et : te T L p = q + 1 := by unfold te; rw [← he, if_pos hql, if_neg yL, if_neg yD]
            have hM3 : Mt I (u2 (u2 (u2 (u2 I1 48 9 (I1 48 8)) 48 11 0) 48 12 0) 48 8 (I1 48 8 + 1)) := hM2.u (Or.inl rfl)
            have fin : ∀ v : Int64, v = tkv T L p → Q none (hp (u2 (u2 (u2 (u2 I1 48 9 (I1 48 8)) 48 11 0) 48 12 0) 48 8 (I1 48 8 + 1)) (v2 J 48 10 v) b) := by
              intro v hv
              refine k _ _ hM3 ?_ ?_ ?_ (fun x hx => ?_)
              · rw [u2_at, if_pos rfl, h8, n1, et]
              · rw [u2_at, if_neg (by decide), g9, he]
              · rw [v2_at, if_pos rfl, hv]
              · unfold nv at hx
                rw [← he, if_neg (fun w => yD w.1.2)] at hx
                cases hx
            refine ⟨fun y3 => fin _ ?_, fun y3 => fin _ ?_⟩
            · unfold tkv; rw [← he, if_pos hql, if_neg yL, if_neg yD, if_neg y3]
            · unfold tkv; rw [← he, if_pos hql, if_neg yL, if_neg yD, if_pos y3]
        · rw [h8, e6] at w
          have := (nI_eq (by omega) (by omega)).mp w
          omega
      · have zB : isB (T q) = true := decide_eq_true z
        rw [if_pos ⟨by omega, zB⟩] at he
        exact ih (q + 1) _ (by omega) he (hM.u (Or.inl rfl)) (by rw [u2_at, if_pos rfl, h8, n1])
  exact key (L - p) p I (by omega) rfl (Mt.rf I) e8
/-- the reference's words -/
theorem wv_ok : lN (w27 (wd 0)) = 158529 ∧ lN (w27 (wd 1)) = 10320789 ∧ lN (w27 (wd 2)) = 243059 ∧ lN (w27 (wd 3)) = 8740238 ∧ lN (w27 (wd 4)) = 292122349 ∧ lN (w27 (wd 5)) = 168748 ∧ lN (w27 (wd 6)) = 10553888 ∧ lN (w27 (wd 7)) = 361240 ∧ lN (w27 (wd 8)) = 3163 := by decide +kernel
theorem wd_dig : ∀ w, w < 9 → (∀ d, d ∈ wd w → 1 ≤ d ∧ d ≤ 26) ∧ w27 (wd w) < 2 ^ 31 := by decide +kernel
theorem neg_ne {v : Nat} (hv : v < 2 ^ 63) : ¬ (-1 : Int64) = lN v ∧ ¬ (-2 : Int64) = lN v ∧ ¬ (-3 : Int64) = lN v ∧ ¬ (-4 : Int64) = lN v := by
  have e : (lN v).toInt = (v : Int) := pk_lT hv
  refine ⟨fun h => ?_, fun h => ?_, fun h => ?_, fun h => ?_⟩
  · have := congrArg Int64.toInt h; rw [e, show (-1 : Int64).toInt = -1 by decide] at this; omega
  · have := congrArg Int64.toInt h; rw [e, show (-2 : Int64).toInt = -2 by decide] at this; omega
  · have := congrArg Int64.toInt h; rw [e, show (-3 : Int64).toInt = -3 by decide] at this; omega
  · have := congrArg Int64.toInt h; rw [e, show (-4 : Int64).toInt = -4 by decide] at this; omega
theorem tkv_word (hp' : p ≤ L) {w : Nat} (hw : w < 9) : tkv T L p = lN (w27 (wd w)) ↔ lsT T L p = wd w := by
  obtain ⟨d1, d2⟩ := wd_dig w hw
  obtain ⟨l1, l2, l3⟩ := wd_len w hw
  obtain ⟨x1, x2, x3, x4⟩ := neg_ne (v := w27 (wd w)) (by omega)
  have nonil : ¬ ([] : List Nat) = wd w := fun q => by
    have := congrArg List.length q
    rw [l1] at this
    have this : 0 = am_sn.getD w 0 := this
    omega
  unfold tkv lsT
  by_cases h : ts T L p < L
  · rw [if_pos h]
    by_cases q : isL (T (ts T L p)) = true
    · have hq : ts T L p < L ∧ isL (T (ts T L p)) = true := ⟨h, q⟩
      rw [if_pos q, if_pos hq]
      have hd := lt_dig (T := T) (s := ts T L p) (te T L p - ts T L p) (ls_let hp' ⟨h, q⟩)
      by_cases y : te T L p - ts T L p ≤ 9
      · rw [if_pos y]
        have hb := w27_lt _ hd
        rw [lt_len] at hb
        have h27 : 27 ^ (te T L p - ts T L p) ≤ 27 ^ 9 := Nat.pow_le_pow_right (by omega) y
        rw [pk_lEQ (by omega) (by omega)]
        exact ⟨fun z => w27_inj _ _ hd d1 z, fun z => by rw [z]⟩
      · rw [if_neg y]
        refine ⟨fun z => absurd z x4, fun z => ?_⟩
        have := congrArg List.length z
        rw [lt_len, l1] at this
        omega
    · have hq : ¬ (ts T L p < L ∧ isL (T (ts T L p)) = true) := fun z => q z.2
      rw [if_neg q, if_neg hq]
      refine ⟨fun z => ?_, fun z => absurd z nonil⟩
      split at z
      · split at z
        · exact absurd z x1
        · exact absurd z x4
      · split at z
        · exact absurd z x3
        · exact absurd z x4
  · have hq : ¬ (ts T L p < L ∧ isL (T (ts T L p)) = true) := fun z => h z.1
    rw [if_neg h, if_neg hq]
    exact ⟨fun z => absurd z x2, fun z => absurd z nonil⟩
theorem tkv_num (hp' : p ≤ L) : tkv T L p = -1 ↔ ∃ x, nv T L p = some x := by
  unfold tkv nv
  by_cases h : ts T L p < L
  · rw [if_pos h]
    by_cases q : isL (T (ts T L p)) = true
    · rw [if_pos q]
      have nD : ¬ isD (T (ts T L p)) = true := fun z => by
        have := (dg_dig hp' ⟨h, z⟩).2.2
        rw [q] at this; cases this
      have hq : ¬ ((ts T L p < L ∧ isD (T (ts T L p)) = true) ∧ te T L p - ts T L p ≤ 2) := fun z => nD z.1.2
      rw [if_neg hq]
      refine ⟨fun z => ?_, fun ⟨x, z⟩ => by cases z⟩
      have hd := lt_dig (T := T) (s := ts T L p) (te T L p - ts T L p) (ls_let hp' ⟨h, q⟩)
      split at z
      · rename_i y
        have hb := w27_lt _ hd
        rw [lt_len] at hb
        have h27 : 27 ^ (te T L p - ts T L p) ≤ 27 ^ 9 := Nat.pow_le_pow_right (by omega) y
        exact absurd z.symm (neg_ne (v := w27 (lt T (ts T L p) (te T L p - ts T L p))) (by omega)).1
      · exact absurd z (by decide)
    · rw [if_neg q]
      by_cases q2 : isD (T (ts T L p)) = true
      · rw [if_pos q2]
        by_cases y : te T L p - ts T L p ≤ 2
        · have hq : (ts T L p < L ∧ isD (T (ts T L p)) = true) ∧ te T L p - ts T L p ≤ 2 := ⟨⟨h, q2⟩, y⟩
          rw [if_pos y, if_pos hq]
          exact ⟨fun _ => ⟨_, rfl⟩, fun _ => rfl⟩
        · have hq : ¬ ((ts T L p < L ∧ isD (T (ts T L p)) = true) ∧ te T L p - ts T L p ≤ 2) := fun z => y z.2
          rw [if_neg y, if_neg hq]
          exact ⟨fun z => absurd z (by decide), fun ⟨x, z⟩ => by cases z⟩
      · have hq : ¬ ((ts T L p < L ∧ isD (T (ts T L p)) = true) ∧ te T L p - ts T L p ≤ 2) := fun z => q2 z.1.2
        rw [if_neg q2, if_neg hq]
        refine ⟨fun z => ?_, fun ⟨x, z⟩ => by cases z⟩
        split at z
        · exact absurd z (by decide)
        · exact absurd z (by decide)
  · have hq : ¬ ((ts T L p < L ∧ isD (T (ts T L p)) = true) ∧ te T L p - ts T L p ≤ 2) := fun z => h z.1.1
    rw [if_neg h, if_neg hq]
    exact ⟨fun z => absurd z (by decide), fun ⟨x, z⟩ => by cases z⟩
theorem tkv_end (hp' : p ≤ L) : (tkv T L p = -2 ↔ ¬ ts T L p < L) ∧ (tkv T L p = -3 ↔ ts T L p < L ∧ T (ts T L p) = 59) := by
  unfold tkv
  by_cases h : ts T L p < L
  · rw [if_pos h]
    by_cases q : isL (T (ts T L p)) = true
    · rw [if_pos q]
      have hd := lt_dig (T := T) (s := ts T L p) (te T L p - ts T L p) (ls_let hp' ⟨h, q⟩)
      have n59 : ¬ T (ts T L p) = 59 := fun z => by rw [z] at q; exact absurd q (by decide)
      split
      · rename_i y
        have hb := w27_lt _ hd
        rw [lt_len] at hb
        have h27 : 27 ^ (te T L p - ts T L p) ≤ 27 ^ 9 := Nat.pow_le_pow_right (by omega) y
        obtain ⟨x1, x2, x3, x4⟩ := neg_ne (v := w27 (lt T (ts T L p) (te T L p - ts T L p))) (by omega)
        exact ⟨⟨fun z => absurd z.symm x2, fun z => absurd h z⟩, ⟨fun z => absurd z.symm x3, fun z => absurd z.2 n59⟩⟩
      · exact ⟨⟨fun z => absurd z (by decide), fun z => absurd h z⟩, ⟨fun z => absurd z (by decide), fun z => absurd z.2 n59⟩⟩
    · rw [if_neg q]
      by_cases q2 : isD (T (ts T L p)) = true
      · rw [if_pos q2]
        have n59 : ¬ T (ts T L p) = 59 := fun z => by rw [z] at q2; exact absurd q2 (by decide)
        split
        · exact ⟨⟨fun z => absurd z (by decide), fun z => absurd h z⟩, ⟨fun z => absurd z (by decide), fun z => absurd z.2 n59⟩⟩
        · exact ⟨⟨fun z => absurd z (by decide), fun z => absurd h z⟩, ⟨fun z => absurd z (by decide), fun z => absurd z.2 n59⟩⟩
      · rw [if_neg q2]
        by_cases y : T (ts T L p) = 59
        · rw [if_pos y]
          exact ⟨⟨fun z => absurd z (by decide), fun z => absurd h z⟩, ⟨fun _ => ⟨h, y⟩, fun _ => rfl⟩⟩
        · rw [if_neg y]
          exact ⟨⟨fun z => absurd z (by decide), fun z => absurd h z⟩, ⟨fun z => absurd z (by decide), fun z => absurd z.2 y⟩⟩
  · rw [if_neg h]
    exact ⟨⟨fun _ => h, fun _ => rfl⟩, ⟨fun z => absurd z (by decide), fun z => absurd z.1 h⟩⟩
end P20
