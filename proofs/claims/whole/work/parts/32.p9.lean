/-! ===== lowest terms, sums over lawful draws ===== -/
section P9
variable {E : Nat × (Nat → Int32)} {I I' : Nat → Nat → Int32} {J : Nat → Nat → Int64} {b : Bool} {n : Nat} {Q : Option Value → am_H → Prop}
theorem gcd_step (x y : Nat) : Nat.gcd x y = Nat.gcd y (x % y) := by
  rw [Nat.gcd_comm x y, Nat.gcd_rec y x, Nat.gcd_comm]
theorem bX10_divisor_0 {E : Nat × (Nat → Int32)} {I : Nat → Nat → Int32} {J : Nat → Nat → Int64} {b : Bool} {a0 : Int32} {a1 : Int32} {Q : Option Value → am_H → Prop}  (wp : am_R E mX10_divisor 4 [none, none, some (.int a0), some (.int a1), none] [] (hp I J b) 64 64 Q) : am_R E mX10_divisor 0 [some (.int a0), some (.int a1), none, none, none] [] (hp I J b) 64 64 Q := by
  refine am_iload_n rfl rfl dX10_divisor_0 ?_
  refine am_istore_n (ls' := [some (.int a0), some (.int a1), some (.int a0), none, none]) rfl (by decide) rfl rfl dX10_divisor_1 ?_
  refine am_iload_n rfl rfl dX10_divisor_2 ?_
  refine am_istore_n (ls' := [some (.int a0), some (.int a1), some (.int a0), some (.int a1), none]) rfl (by decide) rfl rfl dX10_divisor_3 ?_
  exact am_R.forget wp ⟨rfl, ⟨rfl, trivial⟩⟩
theorem bX10_divisor_4 {E : Nat × (Nat → Int32)} {I : Nat → Nat → Int32} {J : Nat → Nat → Int64} {b : Bool} {a2 : Int32} {a3 : Int32} {Q : Option Value → am_H → Prop}  (wp : ((a3 = 0 → Q (some (.int a2)) (hp I J b)) ∧ (¬ a3 = 0 → ¬ a3 = 0 ∧ am_R E mX10_divisor 4 [none, none, some (.int a3), some (.int (a2 - a2 / a3 * a3)), none] [] (hp I J b) 64 64 Q))) : am_R E mX10_divisor 4 [none, none, some (.int a2), some (.int a3), none] [] (hp I J b) 64 64 Q := by
  refine am_iload_n rfl rfl dX10_divisor_4 ?_
  refine am_if_eq dX10_divisor_5 (tgt := 21) rfl (fun hc1 => ?_) (fun hc1 => ?_)
  · have wp := wp.1 hc1
    refine am_iload_n rfl rfl dX10_divisor_21 ?_
    exact am_iret dX10_divisor_22 rfl rfl wp
  · have wp := wp.2 hc1
    refine am_iload_n rfl rfl dX10_divisor_8 ?_
    refine am_iload_n rfl rfl dX10_divisor_9 ?_
    obtain ⟨w2, wp⟩ := wp
    refine am_irem w2 dX10_divisor_10 ?_
    refine am_istore (ls' := [none, none, some (.int a2), some (.int a3), some (.int (a2 - a2 / a3 * a3))]) (by decide) rfl rfl dX10_divisor_11 ?_
    refine am_iload_n rfl rfl dX10_divisor_13 ?_
    refine am_istore_n (ls' := [none, none, some (.int a3), some (.int a3), some (.int (a2 - a2 / a3 * a3))]) rfl (by decide) rfl rfl dX10_divisor_14 ?_
    refine am_iload rfl dX10_divisor_15 ?_
    refine am_istore_n (ls' := [none, none, some (.int a3), some (.int (a2 - a2 / a3 * a3)), some (.int (a2 - a2 / a3 * a3))]) rfl (by decide) rfl rfl dX10_divisor_17 ?_
    refine am_goto dX10_divisor_18 (tgt := 4) rfl ?_
    exact am_R.forget wp ⟨rfl, ⟨rfl, trivial⟩⟩
theorem tX10_divisor {a0 a1 : Int32} {x y : Nat} (ex : a0 = nI x) (ey : a1 = nI y) (hx : x < 2 ^ 31) (hy : y < 2 ^ 31) (k : Q (some (.int (nI (Nat.gcd x y)))) (hp I J b)) : am_R E mX10_divisor 0 [some (.int a0), some (.int a1), none, none, none] [] (hp I J b) 64 64 Q := by
  subst ex; subst ey
  refine bX10_divisor_0 ?_
  have key : ∀ (y x : Nat), x < 2 ^ 31 → y < 2 ^ 31 → Q (some (.int (nI (Nat.gcd x y)))) (hp I J b) → am_R E mX10_divisor 4 [none, none, some (.int (nI x)), some (.int (nI y)), none] [] (hp I J b) 64 64 Q := by
    intro y
    induction y using Nat.strongRecOn with
    | _ y ih =>
      intro x hx hy hk
      refine bX10_divisor_4 (eq_br (m := 0) rfl rfl hy (by omega) (fun q => ?_) (fun q => ⟨nI_ne0 (by omega) hy, ?_⟩))
      · rw [q, Nat.gcd_zero_right] at hk; exact hk
      · rw [pk_rem hx (by omega) hy]
        have hlt := Nat.mod_lt x (show 0 < y by omega)
        exact ih (x % y) hlt y hy (by omega) (by rw [← gcd_step]; exact hk)
  exact key y x hx hy k
theorem bX0_lowest_0 {E : Nat × (Nat → Int32)} {I : Nat → Nat → Int32} {J : Nat → Nat → Int64} {b : Bool} {a0 : Int64} {a2 : Int64} {a4 : Int32} {Q : Option Value → am_H → Prop}  (wp : am_R E mX0_lowest 9 [some (.long a0), none, some (.long a2), none, some (.int a4), some (.long a0), none, some (.long a2), none, some (.int 0), none, none] [] (hp I J b) 64 64 Q) : am_R E mX0_lowest 0 [some (.long a0), none, some (.long a2), none, some (.int a4), none, none, none, none, none, none, none] [] (hp I J b) 64 64 Q := by
  refine am_lload_n rfl rfl dX0_lowest_0 ?_
  refine am_lstore (ls' := [some (.long a0), none, some (.long a2), none, some (.int a4), some (.long a0), none, none, none, none, none, none]) (by decide) rfl rfl dX0_lowest_1 ?_
  refine am_lload_n rfl rfl dX0_lowest_3 ?_
  refine am_lstore (ls' := [some (.long a0), none, some (.long a2), none, some (.int a4), some (.long a0), none, some (.long a2), none, none, none, none]) (by decide) rfl rfl dX0_lowest_4 ?_
  refine am_iconst 0 rfl dX0_lowest_6 ?_
  refine am_istore (ls' := [some (.long a0), none, some (.long a2), none, some (.int a4), some (.long a0), none, some (.long a2), none, some (.int 0), none, none]) (by decide) rfl rfl dX0_lowest_7 ?_
  exact am_R.forget wp ⟨rfl, ⟨rfl, ⟨rfl, ⟨rfl, ⟨rfl, ⟨rfl, trivial⟩⟩⟩⟩⟩⟩
theorem bX0_lowest_9 {E : Nat × (Nat → Int32)} {I : Nat → Nat → Int32} {J : Nat → Nat → Int64} {b : Bool} {a0 : Int64} {a2 : Int64} {a4 : Int32} {a5 : Int64} {a7 : Int64} {a9 : Int32} {Q : Option Value → am_H → Prop}  (wp : ((100 ≤ a9 → ((0 ≤ (lg_cmp a5 1) → ((¬ a4 = 0 → ¬ a5 = 0 ∧ Q (some (.long (a2 / a5))) (hp I J b)) ∧ (a4 = 0 → ¬ a5 = 0 ∧ Q (some (.long (a0 / a5))) (hp I J b)))) ∧ (¬ 0 ≤ (lg_cmp a5 1) → ((¬ a4 = 0 → Q (some (.long a2)) (hp I J b)) ∧ (a4 = 0 → Q (some (.long a0)) (hp I J b)))))) ∧ (¬ 100 ≤ a9 → (((lg_cmp a7 0) = 0 → ((0 ≤ (lg_cmp a5 1) → ((¬ a4 = 0 → ¬ a5 = 0 ∧ Q (some (.long (a2 / a5))) (hp I J b)) ∧ (a4 = 0 → ¬ a5 = 0 ∧ Q (some (.long (a0 / a5))) (hp I J b)))) ∧ (¬ 0 ≤ (lg_cmp a5 1) → ((¬ a4 = 0 → Q (some (.long a2)) (hp I J b)) ∧ (a4 = 0 → Q (some (.long a0)) (hp I J b)))))) ∧ (¬ (lg_cmp a7 0) = 0 → ¬ a7 = 0 ∧ am_R E mX0_lowest 9 [some (.long a0), none, some (.long a2), none, some (.int a4), some (.long a7), none, some (.long (a5 - a5 / a7 * a7)), none, some (.int (a9 + 1)), none, none] [] (hp I J b) 64 64 Q))))) : am_R E mX0_lowest 9 [some (.long a0), none, some (.long a2), none, some (.int a4), some (.long a5), none, some (.long a7), none, some (.int a9), none, none] [] (hp I J b) 64 64 Q := by
  refine am_iload rfl dX0_lowest_9 ?_
  refine am_bipush 100 rfl dX0_lowest_11 ?_
  refine am_icmp_ge dX0_lowest_13 (tgt := 44) rfl (fun hc1 => ?_) (fun hc1 => ?_)
  · have wp := wp.1 hc1
    refine am_lload rfl dX0_lowest_44 ?_
    refine am_lconst 1 rfl dX0_lowest_46 ?_
    refine am_lcmp dX0_lowest_47 ?_
    refine am_if_ge dX0_lowest_48 (tgt := 62) rfl (fun hc2 => ?_) (fun hc2 => ?_)
    · have wp := wp.1 hc2
      refine am_iload rfl dX0_lowest_62 ?_
      refine am_if_ne dX0_lowest_64 (tgt := 71) rfl (fun hc3 => ?_) (fun hc3 => ?_)
      · have wp := wp.1 hc3
        refine am_lload_n rfl rfl dX0_lowest_71 ?_
        refine am_lload rfl dX0_lowest_72 ?_
        obtain ⟨w4, wp⟩ := wp
        refine am_ldiv w4 dX0_lowest_74 ?_
        exact am_lret dX0_lowest_75 rfl wp
      · have wp := wp.2 hc3
        refine am_lload_n rfl rfl dX0_lowest_67 ?_
        refine am_goto dX0_lowest_68 (tgt := 72) rfl ?_
        refine am_lload rfl dX0_lowest_72 ?_
        obtain ⟨w5, wp⟩ := wp
        refine am_ldiv w5 dX0_lowest_74 ?_
        exact am_lret dX0_lowest_75 rfl wp
    · have wp := wp.2 hc2
      refine am_iload rfl dX0_lowest_51 ?_
      refine am_if_ne dX0_lowest_53 (tgt := 60) rfl (fun hc6 => ?_) (fun hc6 => ?_)
      · have wp := wp.1 hc6
        refine am_lload_n rfl rfl dX0_lowest_60 ?_
        exact am_lret dX0_lowest_61 rfl wp
      · have wp := wp.2 hc6
        refine am_lload_n rfl rfl dX0_lowest_56 ?_
        refine am_goto dX0_lowest_57 (tgt := 61) rfl ?_
        exact am_lret dX0_lowest_61 rfl wp
  · have wp := wp.2 hc1
    refine am_lload rfl dX0_lowest_16 ?_
    refine am_lconst 0 rfl dX0_lowest_18 ?_
    refine am_lcmp dX0_lowest_19 ?_
    refine am_if_eq dX0_lowest_20 (tgt := 44) rfl (fun hc7 => ?_) (fun hc7 => ?_)
    · have wp := wp.1 hc7
      refine am_lload rfl dX0_lowest_44 ?_
      refine am_lconst 1 rfl dX0_lowest_46 ?_
      refine am_lcmp dX0_lowest_47 ?_
      refine am_if_ge dX0_lowest_48 (tgt := 62) rfl (fun hc8 => ?_) (fun hc8 => ?_)
      · have wp := wp.1 hc8
        refine am_iload rfl dX0_lowest_62 ?_
        refine am_if_ne dX0_lowest_64 (tgt := 71) rfl (fun hc9 => ?_) (fun hc9 => ?_)
        · have wp := wp.1 hc9
          refine am_lload_n rfl rfl dX0_lowest_71 ?_
          refine am_lload rfl dX0_lowest_72 ?_
          obtain ⟨w10, wp⟩ := wp
          refine am_ldiv w10 dX0_lowest_74 ?_
          exact am_lret dX0_lowest_75 rfl wp
        · have wp := wp.2 hc9
          refine am_lload_n rfl rfl dX0_lowest_67 ?_
          refine am_goto dX0_lowest_68 (tgt := 72) rfl ?_
          refine am_lload rfl dX0_lowest_72 ?_
          obtain ⟨w11, wp⟩ := wp
          refine am_ldiv w11 dX0_lowest_74 ?_
          exact am_lret dX0_lowest_75 rfl wp
      · have wp := wp.2 hc8
        refine am_iload rfl dX0_lowest_51 ?_
        refine am_if_ne dX0_lowest_53 (tgt := 60) rfl (fun hc12 => ?_) (fun hc12 => ?_)
        · have wp := wp.1 hc12
          refine am_lload_n rfl rfl dX0_lowest_60 ?_
          exact am_lret dX0_lowest_61 rfl wp
        · have wp := wp.2 hc12
          refine am_lload_n rfl rfl dX0_lowest_56 ?_
          refine am_goto dX0_lowest_57 (tgt := 61) rfl ?_
          exact am_lret dX0_lowest_61 rfl wp
    · have wp := wp.2 hc7
      refine am_lload rfl dX0_lowest_23 ?_
      refine am_lload rfl dX0_lowest_25 ?_
      obtain ⟨w13, wp⟩ := wp
      refine am_lrem w13 dX0_lowest_27 ?_
      refine am_lstore (ls' := [some (.long a0), none, some (.long a2), none, some (.int a4), some (.long a5), none, some (.long a7), none, some (.int a9), some (.long (a5 - a5 / a7 * a7)), none]) (by decide) rfl rfl dX0_lowest_28 ?_
      refine am_lload rfl dX0_lowest_30 ?_
      refine am_lstore (ls' := [some (.long a0), none, some (.long a2), none, some (.int a4), some (.long a7), none, some (.long a7), none, some (.int a9), some (.long (a5 - a5 / a7 * a7)), none]) (by decide) rfl rfl dX0_lowest_32 ?_
      refine am_lload rfl dX0_lowest_34 ?_
      refine am_lstore (ls' := [some (.long a0), none, some (.long a2), none, some (.int a4), some (.long a7), none, some (.long (a5 - a5 / a7 * a7)), none, some (.int a9), some (.long (a5 - a5 / a7 * a7)), none]) (by decide) rfl rfl dX0_lowest_36 ?_
      refine am_iinc (ls' := [some (.long a0), none, some (.long a2), none, some (.int a4), some (.long a7), none, some (.long (a5 - a5 / a7 * a7)), none, some (.int (a9 + 1)), some (.long (a5 - a5 / a7 * a7)), none]) (by decide) rfl rfl rfl dX0_lowest_38 ?_
      refine am_goto dX0_lowest_41 (tgt := 9) rfl ?_
      exact am_R.forget wp ⟨rfl, ⟨rfl, ⟨rfl, ⟨rfl, ⟨rfl, ⟨rfl, trivial⟩⟩⟩⟩⟩⟩
theorem mod_half {x y : Nat} (h0 : 0 < y) (h : y ≤ x) : 2 * (x % y) < x := by
  have h1 := Nat.div_add_mod x y
  have h2 := Nat.mod_lt x h0
  have h3 : 1 ≤ x / y := Nat.div_pos h h0
  have h4 : y * 1 ≤ y * (x / y) := Nat.mul_le_mul_left _ h3
  omega
theorem tX0_lowest {a0 a2 : Int64} {a4 : Int32} {x y : Nat} (ex : a0 = lN x) (ey : a2 = lN y) (hx : x < 2 ^ 63) (hy : y < 2 ^ 45) (hp' : a4 = 0 ∨ a4 = 1) (k0 : a4 = 0 → Q (some (.long (lN (x / Nat.gcd x y)))) (hp I J b)) (k1 : a4 = 1 → Q (some (.long (lN (y / Nat.gcd x y)))) (hp I J b)) (h0 : 0 < y) : am_R E mX0_lowest 0 [some (.long a0), none, some (.long a2), none, some (.int a4), none, none, none, none, none, none, none] [] (hp I J b) 64 64 Q := by
  subst ex; subst ey
  have hg : 0 < Nat.gcd x y := Nat.gcd_pos_of_pos_right _ h0
  have hg2 : Nat.gcd x y ≤ y := Nat.gcd_le_right _ h0
  refine bX0_lowest_0 ?_
  -- behind the loop
  have fin : (0 ≤ lg_cmp (lN (Nat.gcd x y)) 1 → ((¬ a4 = 0 → ¬ lN (Nat.gcd x y) = 0 ∧ Q (some (.long (lN y / lN (Nat.gcd x y)))) (hp I J b)) ∧ (a4 = 0 → ¬ lN (Nat.gcd x y) = 0 ∧ Q (some (.long (lN x / lN (Nat.gcd x y)))) (hp I J b)))) ∧ (¬ 0 ≤ lg_cmp (lN (Nat.gcd x y)) 1 → ((¬ a4 = 0 → Q (some (.long (lN y))) (hp I J b)) ∧ (a4 = 0 → Q (some (.long (lN x))) (hp I J b)))) := by
    have nz : ¬ lN (Nat.gcd x y) = 0 := fun q => by
      have := (pk_lEQ (b := 0) (by omega) (by omega)).mp q
      omega
    refine ⟨fun _ => ⟨fun q => ⟨nz, ?_⟩, fun q => ⟨nz, ?_⟩⟩, fun q => absurd ((lg_cmp_ge _ _).mpr ((pk_lLE (a := 1) (by omega) (by omega)).mpr hg)) q⟩
    · rw [pk_lDiv (by omega) hg (by omega)]
      exact k1 (hp'.elim (fun z => absurd z q) id)
    · rw [pk_lDiv hx hg (by omega)]
      exact k0 q
  have key : ∀ (k u v i : Nat), v < 2 ^ k → k ≤ 45 → u < 2 ^ 63 → i + 2 * k ≤ 99 → Nat.gcd u v = Nat.gcd x y → am_R E mX0_lowest 9 [some (.long (lN x)), none, some (.long (lN y)), none, some (.int a4), some (.long (lN u)), none, some (.long (lN v)), none, some (.int (nI i)), none, none] [] (hp I J b) 64 64 Q := by
    intro k
    induction k with
    | zero =>
      intro u v i hv hk hu hi he
      have e : v = 0 := by simp at hv; exact hv
      subst e
      rw [Nat.gcd_zero_right] at he
      subst he
      exact bX0_lowest_9 (le_br (n := 100) rfl rfl (by omega) (by omega) (fun _ => fin) (fun _ => ⟨fun _ => fin, fun q => absurd ((lg_cmp_eq _ _).mpr rfl) q⟩))
    | succ k ih =>
      intro u v i hv hk hu hi he
      have hk45 : 2 ^ (k + 1) ≤ 2 ^ 45 := Nat.pow_le_pow_right (by omega) (by omega)
      have step : ∀ u v i, v = 0 → Nat.gcd u v = Nat.gcd x y → am_R E mX0_lowest 9 [some (.long (lN x)), none, some (.long (lN y)), none, some (.int a4), some (.long (lN u)), none, some (.long (lN v)), none, some (.int (nI i)), none, none] [] (hp I J b) 64 64 Q := by
        intro u v i e he
        subst e
        rw [Nat.gcd_zero_right] at he
        subst he
        exact bX0_lowest_9 ⟨fun _ => fin, fun _ => ⟨fun _ => fin, fun q => absurd ((lg_cmp_eq _ _).mpr rfl) q⟩⟩
      by_cases v0 : v = 0
      · exact step u v i v0 he
      · have nv : ∀ w : Nat, 0 < w → w < 2 ^ 63 → ¬ lN w = 0 := fun w h1 h2 q => by
          have := (pk_lEQ (b := 0) h2 (by omega)).mp q
          omega
        have hlt := Nat.mod_lt u (show 0 < v by omega)
        refine bX0_lowest_9 (le_br (n := 100) rfl rfl (by omega) (by omega) (fun q => by omega) (fun _ => ⟨fun q => absurd ((lg_cmp_eq _ _).mp q) (nv v (by omega) (by omega)), fun _ => ⟨nv v (by omega) (by omega), ?_⟩⟩))
        rw [pk_lRem hu (by omega) (by omega), n1]
        rw [gcd_step] at he
        by_cases w0 : u % v = 0
        · exact step v (u % v) (i + 1) w0 he
        · have hlt2 := Nat.mod_lt v (show 0 < u % v by omega)
          have hh := mod_half (x := v) (y := u % v) (by omega) (by omega)
          refine bX0_lowest_9 (le_br (n := 100) rfl rfl (by omega) (by omega) (fun q => by omega) (fun _ => ⟨fun q => absurd ((lg_cmp_eq _ _).mp q) (nv (u % v) (by omega) (by omega)), fun _ => ⟨nv (u % v) (by omega) (by omega), ?_⟩⟩))
          rw [pk_lRem (by omega) (by omega) (by omega), n1]
          rw [gcd_step] at he
          rw [Nat.pow_succ] at hv
          exact ih (u % v) (v % (u % v)) (i + 1 + 1) (by omega) (by omega) (by omega) (by omega) he
  exact key 45 x y 0 hy (Nat.le_refl _) hx (by omega) rfl
theorem sI_ex {q : Nat → Bool} {v : Nat → Int32} {B : Nat} : ∀ N, (∀ c, c < N → q c = true → ∃ w, w ≤ B ∧ v c = nI w) → ∃ S, S ≤ B * N ∧ sI q v N = nI S
  | 0, _ => ⟨0, by omega, rfl⟩
  | N + 1, h => by
    obtain ⟨S, h1, h2⟩ := sI_ex (B := B) N (fun c hc => h c (by omega))
    rw [sI]
    cases hq : q N with
    | false =>
      simp only [Bool.false_eq_true, if_false]
      exact ⟨S, by rw [Nat.mul_add]; omega, h2⟩
    | true =>
      obtain ⟨w, h3, h4⟩ := h N (by omega) hq
      simp only [if_true]
      exact ⟨S + w, by rw [Nat.mul_add]; omega, by rw [h2, h4, nI_add]⟩
theorem sm_ex {f : Nat → Int32} {B : Nat} : ∀ N, (∀ k, k < N → ∃ w, w ≤ B ∧ f k = nI w) → ∃ S, S ≤ B * N ∧ sm f N = nI S
  | 0, _ => ⟨0, by omega, rfl⟩
  | N + 1, h => by
    obtain ⟨S, h1, h2⟩ := sm_ex (B := B) N (fun c hc => h c (by omega))
    obtain ⟨w, h3, h4⟩ := h N (by omega)
    exact ⟨S + w, by rw [Nat.mul_add]; omega, by rw [sm, h2, h4, nI_add]⟩
theorem sr_pm {by' c : Nat} (h7 : n ≤ 7) (hc : c < fct n) : Pm (sr I n by' c) n := stR_pm 63 _ (ur_pm h7 hc)
theorem val_ex {k by' : Nat} (h7 : n ≤ 7) (hk : ∀ j, j < 49 → ∃ v, v ≤ 9 ∧ I k j = nI v) {c : Nat} (hc : c < fct n) : ∃ w, w ≤ 63 ∧ sm (fun m => I k (7 * m + sr I n by' c m)) n = nI w := by
  obtain ⟨S, h1, h2⟩ := sm_ex (f := fun m => I k (7 * m + sr I n by' c m)) (B := 9) n (fun m hm => hk _ (by have := (sr_pm (I := I) (by' := by') h7 hc).1 m hm; omega))
  exact ⟨S, by omega, h2⟩
theorem work_ex {k by' : Nat} (h7 : n ≤ 7) (hk : ∀ j, j < 49 → ∃ v, v ≤ 9 ∧ I k j = nI v) : ∃ S, S < 2 ^ 31 ∧ sI (lc I n) (fun c => sm (fun m => I k (7 * m + sr I n by' c m)) n) (fct n) = nI S := by
  obtain ⟨S, h1, h2⟩ := sI_ex (q := lc I n) (v := fun c => sm (fun m => I k (7 * m + sr I n by' c m)) n) (B := 63) (fct n) (fun c hc _ => val_ex h7 hk hc)
  have := (fct_le n (by omega)).2
  exact ⟨S, by omega, h2⟩
theorem had_ex {by' m d : Nat} (h7 : n ≤ 7) : ∃ S, S < 2 ^ 31 ∧ sHad I n by' m d = nI S := by
  obtain ⟨S, h1, h2⟩ := sI_ex (q := lc I n) (v := fun c => if sr I n by' c m = d then 1 else 0) (B := 1) (fct n) (fun c hc _ => by
    show ∃ w, w ≤ 1 ∧ (if sr I n by' c m = d then (1 : Int32) else 0) = nI w
    by_cases e : sr I n by' c m = d
    · rw [if_pos e]; exact ⟨1, by omega, rfl⟩
    · rw [if_neg e]; exact ⟨0, by omega, rfl⟩)
  have := (fct_le n (by omega)).2
  exact ⟨S, by omega, h2⟩
/-- all but the cells of a list is as it was -/
def Ag (S : List Nat) (I I' : Nat → Nat → Int32) : Prop := ∀ a, a ∉ S → I' a = I a
theorem Ag.rf (S : List Nat) (I : Nat → Nat → Int32) : Ag S I I := fun _ _ => rfl
theorem Ag.u1 {S : List Nat} {k : Nat} {f : Nat → Int32} (h : Ag S I I') (hk : k ∈ S) : Ag S I (u1 I' k f) := fun a ha => by
  rw [u1_n _ _ (fun e => ha (by rw [e]; exact hk))]; exact h a ha
theorem Ag.u2 {S : List Nat} {k j : Nat} {x : Int32} (h : Ag S I I') (hk : k ∈ S) : Ag S I (u2 I' k j x) := fun a ha => by
  rw [u2_n _ _ _ (fun e => ha (by rw [e]; exact hk))]; exact h a ha
theorem Ag.fh {S : List Nat} {F : Nat → Int32} {c : Int32} (h : Ag S I I') (h1 : 23 ∈ S) (h2 : 25 ∈ S) : Ag S I (fh I' F c) := fun a ha => by
  rw [fh_n _ (fun e => ha (by rw [e]; exact h1)) (fun e => ha (by rw [e]; exact h2))]; exact h a ha
theorem Ag.tr {S : List Nat} {I'' : Nat → Nat → Int32} (h : Ag S I I') (h2 : Ag S I' I'') : Ag S I I'' := fun a ha => (h2 a ha).trans (h a ha)
theorem Ag.mono {S T : List Nat} (h : Ag S I I') (hs : ∀ a, a ∈ S → a ∈ T) : Ag T I I' := fun a ha => h a (fun q => ha (hs a q))
/-- the reference's cells of rows and rings may differ -/
def Am (I I' : Nat → Nat → Int32) : Prop := (∀ a, a ≠ 58 → a ≠ 48 → I' a = I a) ∧ ∀ j, j < 26 → I' 48 j = I 48 j
theorem Am.rf (I : Nat → Nat → Int32) : Am I I := ⟨fun _ _ _ => rfl, fun _ _ => rfl⟩
theorem Am.u1 {f : Nat → Int32} (h : Am I I') : Am I (u1 I' 58 f) := ⟨fun a h1 h2 => by rw [u1_n _ _ h1]; exact h.1 a h1 h2, fun j hj => by rw [u1_n _ _ (by decide)]; exact h.2 j hj⟩
theorem Am.rg {x y z : Int32} (h : Am I I') : Am I (rg I' x y z) := ⟨fun a h1 h2 => by unfold _root_.Jvm.Pilot.@@N@@.rg; rw [u1_n _ _ h2]; exact h.1 a h1 h2, fun j hj => by
  unfold _root_.Jvm.Pilot.@@N@@.rg
  rw [u1_s]
  unfold upd
  rw [if_neg (by omega), if_neg (by omega), if_neg (by omega)]
  exact h.2 j hj⟩
theorem Am.Nn (h : Am I I') (hN : Nn I n) : Nn I' n := ⟨by rw [h.2 0 (by omega)]; exact hN.1, hN.2⟩
theorem Am.Yw (h : Am I I') (hY : Yw I n) : Yw I' n := by
  unfold _root_.Jvm.Pilot.@@N@@.Yw at hY ⊢
  rw [h.1 55 (by decide) (by decide)]; exact hY
theorem Am.Lk (h : Am I I') (hL : Lk I) : Lk I' := by
  unfold _root_.Jvm.Pilot.@@N@@.Lk at hL ⊢
  rw [h.1 50 (by decide) (by decide)]; exact hL
theorem Am.my (h : Am I I') : my I' = my I := my_eq (h.1 49 (by decide) (by decide)) (h.1 51 (by decide) (by decide)) (fun m => by rw [h.1 55 (by decide) (by decide)])
theorem Am.stR (h : Am I I') : stR I' = stR I := stR_eq (h.1 49 (by decide) (by decide)) (h.1 50 (by decide) (by decide)) (h.1 51 (by decide) (by decide)) (fun m => by rw [h.1 55 (by decide) (by decide)])
/-- all but the tallies and rows is told as before -/
def Sc (I I' : Nat → Nat → Int32) : Prop := (I' 1 1 = I 1 1 ∧ I' 2 = I 2 ∧ I' 48 6 = I 48 6 ∧ I' 53 = I 53) ∧ (I' 4 = I 4 ∧ I' 5 = I 5 ∧ I' 6 = I 6 ∧ I' 7 = I 7 ∧ I' 8 = I 8 ∧ I' 9 = I 9 ∧ I' 10 = I 10 ∧ I' 11 = I 11 ∧ I' 12 = I 12) ∧ (I' 14 = I 14 ∧ I' 15 = I 15 ∧ I' 16 = I 16 ∧ I' 17 = I 17 ∧ I' 18 = I 18 ∧ I' 19 = I 19 ∧ I' 20 = I 20 ∧ I' 21 = I 21 ∧ I' 22 = I 22 ∧ I' 24 = I 24) ∧ (I' 48 0 = I 48 0 ∧ I' 48 1 = I 48 1 ∧ I' 49 = I 49 ∧ I' 50 = I 50 ∧ I' 51 = I 51 ∧ I' 52 = I 52 ∧ I' 55 = I 55 ∧ I' 56 = I 56 ∧ I' 57 = I 57)
theorem Inv.ta (h : Inv I n) (s : Sc I I') (t0 : Ta I n 0 (I' 27) (I' 29)) (t2 : Ta I n 2 (I' 30) (I' 32)) (t3 : Ta I n 3 (I' 33) (I' 35)) : Inv I' n := by
  obtain ⟨⟨s1, s2, s3, s4⟩, ⟨c4, c5, c6, c7, c8, c9, c10, c11, c12⟩, ⟨c14, c15, c16, c17, c18, c19, c20, c21, c22, c24⟩, ⟨m0, m1, m49, m50, m51, m52, m55, m56, m57⟩⟩ := s
  obtain ⟨⟨a1, a2, a3, a4, a5, a6, a7, a8, a9⟩, b1, b2, b3, b4, b5, b6, b7, b8, b9, -, -, -⟩ := h
  have m55' : ∀ m, I' 55 (8 + m) = I 55 (8 + m) := fun m => by rw [m55]
  refine ⟨⟨?_, ?_, ?_, ?_, ?_, ?_, ?_, ?_, ?_⟩, ?_, ?_, ?_, ?_, ?_, ?_, ?_, ?_, ?_, ?_, ?_, ?_⟩
  · unfold Nn at a1 ⊢; rw [m0]; exact a1
  · rw [m1]; exact a2
  · rw [m49]; exact a3
  · unfold Lk at a4 ⊢; rw [m50]; exact a4
  · rw [m51]; exact a5
  · rw [m52]; exact a6
  · rw [m55]; exact a7
  · rw [m56, m57]; exact a8
  · rw [m56, m57]; exact a9
  · rw [CH_eq c4 c5 c6 c24 m49 m50 m51 m55']; exact b1
  · rw [c4, m1]; exact b2
  · rw [c7, m51]; exact b3
  · rw [c8, m52]; exact b4
  · rw [s1, s2, s3, s4]; exact b5
  · rw [c9, c10, c11, c12, m55]; exact b6
  · rw [c22, m57]; exact b7
  · rw [c14, c15, c16, c17, m56, m57]; exact b8
  · rw [c18, c19, c20, c21, m56, m57]; exact b9
  · rw [Ta_eq m49 m50 m51 m55']; exact t0
  · rw [Ta_eq m49 m50 m51 m55']; exact t2
  · rw [Ta_eq m49 m50 m51 m55']; exact t3
end P9
