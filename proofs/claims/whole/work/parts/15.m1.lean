/-! ===== the reference: rows, sums, lawful draws ===== -/
section M1
variable {E : Nat × (Nat → Int32)} {I : Nat → Nat → Int32} {J : Nat → Nat → Int64} {b : Bool} {Q : Option Value → am_H → Prop}
theorem lp_up {n : Nat} {P : Nat → Prop} (hend : P n) (hstep : ∀ m, m < n → P (m + 1) → P m) : P 0 := by
  have : ∀ k m, m + k = n → P m := by
    intro k
    induction k with
    | zero => intro m h; rw [show m = n by omega]; exact hend
    | succ k ih => intro m h; exact hstep m (by omega) (ih (m + 1) (by omega))
  exact this n 0 (by omega)
theorem le_br {x y : Int32} {A B : Prop} {n m : Nat} (hx : x = nI n) (hy : y = nI m) (hn : n < 2 ^ 31) (hm : m < 2 ^ 31) (f : n ≤ m → A) (g : m < n → B) : (x ≤ y → A) ∧ (¬ x ≤ y → B) := by
  subst hx; subst hy
  exact ⟨fun h => f ((nI_leI hn hm).mp h), fun h => g (Nat.lt_of_not_le fun q => h ((nI_leI hn hm).mpr q))⟩
theorem lt_br {x y : Int32} {A B : Prop} {n m : Nat} (hx : x = nI n) (hy : y = nI m) (hn : n < 2 ^ 31) (hm : m < 2 ^ 31) (f : n < m → A) (g : m ≤ n → B) : (x < y → A) ∧ (¬ x < y → B) := by
  subst hx; subst hy
  exact ⟨fun h => f ((nI_ltI hn hm).mp h), fun h => g (Nat.le_of_not_lt fun q => h ((nI_ltI hn hm).mpr q))⟩
theorem n1 (m : Nat) : nI m + 1 = nI (m + 1) := nI_1 m
theorem n1' (m : Nat) : 1 + nI m = nI (1 + m) := by rw [show (1 : Int32) = nI 1 from rfl, nI_add]
theorem n8' (m : Nat) : 8 + nI m = nI (8 + m) := by rw [show (8 : Int32) = nI 8 from rfl, nI_add]
/-- sums -/
def sm (f : Nat → Int32) : Nat → Int32
  | 0 => 0
  | k + 1 => sm f k + f k
theorem sm_cong {f g : Nat → Int32} {n : Nat} (h : ∀ k, k < n → f k = g k) : sm f n = sm g n := by
  induction n with
  | zero => rfl
  | succ n ih => rw [sm, sm, ih (fun k hk => h k (by omega)), h n (by omega)]
theorem cpy_0 {α : Type} (f g : Nat → α) (s d : Nat) : va_cpy f g s d 0 = g := by
  funext k; unfold va_cpy; rw [if_neg (by omega)]
theorem cpy_s (f g : Nat → Int32) (s d m : Nat) : upd (va_cpy f g s d m) (d + m) (f (s + m)) = va_cpy f g s d (m + 1) := by
  funext k
  unfold upd va_cpy
  by_cases e : k = d + m
  · rw [if_pos e, if_pos (by omega)]; congr 1; omega
  · rw [if_neg e]
    by_cases q : d ≤ k ∧ k < d + m
    · rw [if_pos q, if_pos (by omega)]
    · rw [if_neg q, if_neg (by omega)]
/-- the reference's monks -/
def Nn (I : Nat → Nat → Int32) (n : Nat) : Prop := I 48 0 = nI n ∧ 2 ≤ n ∧ n ≤ 7
/-- what was done, of the reference -/
def Yw (I : Nat → Nat → Int32) (n : Nat) : Prop := ∀ m, m < n → I 55 (8 + m) = -1 ∨ ∃ e, e < n ∧ I 55 (8 + m) = nI e
def Rw (f : Nat → Int32) (p : Nat → Nat) (n : Nat) : Prop := ∀ m, m < n → f m = nI (p m) ∧ p m < n
theorem Yw.seven {n m : Nat} (h : Yw I n) (hn : n ≤ 7) (hm : m < n) : I 55 (8 + m) = -1 ∨ ∃ e, e < 7 ∧ I 55 (8 + m) = nI e := (h m hm).imp id (fun ⟨e, h1, h2⟩ => ⟨e, by omega, h2⟩)
/-- a monk may do a duty -/
abbrev my (I : Nat → Nat → Int32) (m d : Nat) : Prop := mb I m d (I 55 (8 + m))
theorem bX10_may_0 {E : Nat × (Nat → Int32)} {I : Nat → Nat → Int32} {J : Nat → Nat → Int64} {b : Bool} {a1 : Int32} {a2 : Int32} {Q : Option Value → am_H → Prop}  (wp : ∃ j1, (8 + a1) = nI j1 ∧ j1 < 128 ∧ ∃ j2, a1 = nI j2 ∧ j2 < 7 ∧ ∃ j3, a2 = nI j3 ∧ j3 < 7 ∧ ((I 55 j1) = -1 ∨ ∃ e, e < 7 ∧ (I 55 j1) = nI e) ∧ (((mb I j2 j3 (I 55 j1)) → Q (some (.int 1)) (hp I J b)) ∧ (¬ (mb I j2 j3 (I 55 j1)) → Q (some (.int 0)) (hp I J b)))) : am_R E mX10_may 0 [some (.ref 48), some (.int a1), some (.int a2)] [] (hp I J b) 64 64 Q := by
  refine am_aload_n rfl rfl dX10_may_0 ?_
  refine am_iload_n rfl rfl dX10_may_1 ?_
  refine am_iload_n rfl rfl dX10_may_2 ?_
  refine am_aload_n rfl rfl dX10_may_3 ?_
  refine am_getA (r := 55) dX10_may_4 flX10_35 (Or.inr ⟨_, rfl⟩) rfl (by decide) rfl ?_
  refine am_bipush 8 rfl dX10_may_7 ?_
  refine am_iload_n rfl rfl dX10_may_9 ?_
  refine am_iadd dX10_may_10 ?_
  obtain ⟨j1, e1, w1, wp⟩ := wp
  refine am_ialdN (j := j1) dX10_may_11 rfl (by decide) e1 w1 (by decide) ?_
  obtain ⟨j2, e2, w2, wp⟩ := wp
  obtain ⟨j3, e3, w3, wp⟩ := wp
  obtain ⟨w4, wp⟩ := wp
  refine am_invV (ci := 8) (As := [.int a1, .int a2, .int (I 55 j1)]) (lsZ := [some (.ref 48), some (.int a1), some (.int a2), some (.int (I 55 j1)), none]) (st := []) dX10_may_12 hX10_mayBehind lkX10_163 ⟨by decide, by decide⟩ (by decide) rfl (by decide) rfl rfl rfl (Nat.le_of_ble_eq_true rfl) rfl (Nat.le_of_ble_eq_true rfl) ⟨Nat.le_refl _, Nat.le_refl _⟩ (tX10_mayBehind (m := j2) (d := j3) e2 w2 e3 w3 w4 (fun hc5 => ?_) (fun hc5 => ?_))
  · have wp := wp.1 hc5
    show am_R E mX10_may 15 [some (.ref 48), some (.int a1), some (.int a2)] [.int 1] (hp I J b) 64 64 Q
    exact am_iret dX10_may_15 rfl (by decide) wp
  · have wp := wp.2 hc5
    show am_R E mX10_may 15 [some (.ref 48), some (.int a1), some (.int a2)] [.int 0] (hp I J b) 64 64 Q
    exact am_iret dX10_may_15 rfl (by decide) wp
theorem tX10_may {a1 a2 : Int32} {m d : Nat} (em : a1 = nI m) (hm : m < 7) (ed : a2 = nI d) (hd : d < 7) (hy : I 55 (8 + m) = -1 ∨ ∃ e, e < 7 ∧ I 55 (8 + m) = nI e) (k1 : my I m d → Q (some (.int 1)) (hp I J b)) (k0 : ¬ my I m d → Q (some (.int 0)) (hp I J b)) : am_R E mX10_may 0 [some (.ref 48), some (.int a1), some (.int a2)] [] (hp I J b) 64 64 Q := by
  subst em; subst ed
  exact bX10_may_0 ⟨8 + m, n8' m, by omega, m, rfl, hm, d, rfl, hd, hy, k1, k0⟩
def fct : Nat → Nat
  | 0 => 1
  | n + 1 => fct n * (n + 1)
theorem bX10_draws_0 {E : Nat × (Nat → Int32)} {I : Nat → Nat → Int32} {J : Nat → Nat → Int64} {b : Bool} {a0 : Int32} {Q : Option Value → am_H → Prop}  (wp : am_R E mX10_draws 4 [some (.int a0), some (.int 1), some (.int 2)] [] (hp I J b) 64 64 Q) : am_R E mX10_draws 0 [some (.int a0), none, none] [] (hp I J b) 64 64 Q := by
  refine am_iconst 1 rfl dX10_draws_0 ?_
  refine am_istore_n (ls' := [some (.int a0), some (.int 1), none]) rfl (by decide) rfl rfl dX10_draws_1 ?_
  refine am_iconst 2 rfl dX10_draws_2 ?_
  refine am_istore_n (ls' := [some (.int a0), some (.int 1), some (.int 2)]) rfl (by decide) rfl rfl dX10_draws_3 ?_
  exact am_R.forget wp ⟨rfl, ⟨rfl, ⟨rfl, trivial⟩⟩⟩
theorem bX10_draws_4 {E : Nat × (Nat → Int32)} {I : Nat → Nat → Int32} {J : Nat → Nat → Int64} {b : Bool} {a0 : Int32} {a1 : Int32} {a2 : Int32} {Q : Option Value → am_H → Prop}  (wp : ((a0 < a2 → Q (some (.int a1)) (hp I J b)) ∧ (¬ a0 < a2 → am_R E mX10_draws 4 [some (.int a0), some (.int (a1 * a2)), some (.int (a2 + 1))] [] (hp I J b) 64 64 Q))) : am_R E mX10_draws 4 [some (.int a0), some (.int a1), some (.int a2)] [] (hp I J b) 64 64 Q := by
  refine am_iload_n rfl rfl dX10_draws_4 ?_
  refine am_iload_n rfl rfl dX10_draws_5 ?_
  refine am_icmp_gt dX10_draws_6 (tgt := 19) rfl (fun hc1 => ?_) (fun hc1 => ?_)
  · have wp := wp.1 hc1
    refine am_iload_n rfl rfl dX10_draws_19 ?_
    exact am_iret dX10_draws_20 rfl rfl wp
  · have wp := wp.2 hc1
    refine am_iload_n rfl rfl dX10_draws_9 ?_
    refine am_iload_n rfl rfl dX10_draws_10 ?_
    refine am_imul dX10_draws_11 ?_
    refine am_istore_n (ls' := [some (.int a0), some (.int (a1 * a2)), some (.int a2)]) rfl (by decide) rfl rfl dX10_draws_12 ?_
    refine am_iinc (ls' := [some (.int a0), some (.int (a1 * a2)), some (.int (a2 + 1))]) (by decide) rfl rfl rfl dX10_draws_13 ?_
    refine am_goto dX10_draws_16 (tgt := 4) rfl ?_
    exact am_R.forget wp ⟨rfl, ⟨rfl, ⟨rfl, trivial⟩⟩⟩
theorem tX10_draws {a0 : Int32} {n : Nat} (e : a0 = nI n) (hn : n ≤ 7) (k : Q (some (.int (nI (fct n)))) (hp I J b)) : am_R E mX10_draws 0 [some (.int a0), none, none] [] (hp I J b) 64 64 Q := by
  subst e
  refine bX10_draws_0 ?_
  have key : ∀ j i, i + j = n → 1 ≤ i → am_R E mX10_draws 4 [some (.int (nI n)), some (.int (nI (fct i))), some (.int (nI (i + 1)))] [] (hp I J b) 64 64 Q := by
    intro j
    induction j with
    | zero =>
      intro i hi _
      refine bX10_draws_4 (lt_br rfl rfl (by omega) (by omega) (fun _ => ?_) (fun h => by omega))
      rw [show i = n by omega]; exact k
    | succ j ih =>
      intro i hi h1
      refine bX10_draws_4 (lt_br rfl rfl (by omega) (by omega) (fun h => by omega) (fun h => ?_))
      rw [pk_mul, n1, show fct i * (i + 1) = fct (i + 1) from rfl]
      exact ih (i + 1) (by omega) (by omega)
  by_cases h0 : n = 0
  · subst h0
    exact bX10_draws_4 (lt_br (n := 0) (m := 2) rfl rfl (by omega) (by omega) (fun _ => k) (fun h => by omega))
  · have := key (n - 1) 1 (by omega) (by omega)
    exact this
theorem bX10_isLawful_0 {E : Nat × (Nat → Int32)} {I : Nat → Nat → Int32} {J : Nat → Nat → Int64} {b : Bool}  {Q : Option Value → am_H → Prop}  (wp : am_R E mX10_isLawful 4 [some (.ref 48), some (.int 1), some (.int 0)] [] (hp I J b) 64 64 Q) : am_R E mX10_isLawful 0 [some (.ref 48), none, none] [] (hp I J b) 64 64 Q := by
  refine am_iconst 1 rfl dX10_isLawful_0 ?_
  refine am_istore_n (ls' := [some (.ref 48), some (.int 1), none]) rfl (by decide) rfl rfl dX10_isLawful_1 ?_
  refine am_iconst 0 rfl dX10_isLawful_2 ?_
  refine am_istore_n (ls' := [some (.ref 48), some (.int 1), some (.int 0)]) rfl (by decide) rfl rfl dX10_isLawful_3 ?_
  exact am_R.forget wp ⟨rfl, ⟨rfl, ⟨rfl, trivial⟩⟩⟩
theorem bX10_isLawful_4 {E : Nat × (Nat → Int32)} {I : Nat → Nat → Int32} {J : Nat → Nat → Int64} {b : Bool} {a1 : Int32} {a2 : Int32} {Q : Option Value → am_H → Prop}  (wp : (((I 48 0) ≤ a2 → (narrow .boolean (.int a1) = .int a1) ∧ Q (some (.int a1)) (hp I J b)) ∧ (¬ (I 48 0) ≤ a2 → ((a1 = 0 → am_R E mX10_isLawful 4 [some (.ref 48), some (.int 0), some (.int (a2 + 1))] [] (hp I J b) 64 64 Q) ∧ (¬ a1 = 0 → ∃ j4, a2 = nI j4 ∧ j4 < 7 ∧ ∃ j5, (I 58 j4) = nI j5 ∧ j5 < 7 ∧ ((I 55 (8 + j4)) = -1 ∨ ∃ e, e < 7 ∧ (I 55 (8 + j4)) = nI e) ∧ (((my I j4 j5) → am_R E mX10_isLawful 4 [some (.ref 48), some (.int 1), some (.int (a2 + 1))] [] (hp I J b) 64 64 Q) ∧ (¬ (my I j4 j5) → am_R E mX10_isLawful 4 [some (.ref 48), some (.int 0), some (.int (a2 + 1))] [] (hp I J b) 64 64 Q))))))) : am_R E mX10_isLawful 4 [some (.ref 48), some (.int a1), some (.int a2)] [] (hp I J b) 64 64 Q := by
  refine am_iload_n rfl rfl dX10_isLawful_4 ?_
  refine am_aload_n rfl rfl dX10_isLawful_5 ?_
  refine am_getI dX10_isLawful_6 flX10_7 (Or.inl rfl) rfl (by decide) ?_
  refine am_icmp_ge dX10_isLawful_9 (tgt := 42) rfl (fun hc1 => ?_) (fun hc1 => ?_)
  · have wp := wp.1 hc1
    refine am_iload_n rfl rfl dX10_isLawful_42 ?_
    exact am_iret dX10_isLawful_43 rfl wp.1 wp.2
  · have wp := wp.2 hc1
    refine am_iload_n rfl rfl dX10_isLawful_12 ?_
    refine am_if_eq dX10_isLawful_13 (tgt := 34) rfl (fun hc3 => ?_) (fun hc3 => ?_)
    · have wp := wp.1 hc3
      refine am_iconst 0 rfl dX10_isLawful_34 ?_
      refine am_istore_n (ls' := [some (.ref 48), some (.int 0), some (.int a2)]) rfl (by decide) rfl rfl dX10_isLawful_35 ?_
      refine am_iinc (ls' := [some (.ref 48), some (.int 0), some (.int (a2 + 1))]) (by decide) rfl rfl rfl dX10_isLawful_36 ?_
      refine am_goto dX10_isLawful_39 (tgt := 4) rfl ?_
      exact am_R.forget wp ⟨rfl, ⟨rfl, ⟨rfl, trivial⟩⟩⟩
    · have wp := wp.2 hc3
      refine am_aload_n rfl rfl dX10_isLawful_16 ?_
      refine am_iload_n rfl rfl dX10_isLawful_17 ?_
      refine am_aload_n rfl rfl dX10_isLawful_18 ?_
      refine am_getA (r := 58) dX10_isLawful_19 flX10_45 (Or.inr ⟨_, rfl⟩) rfl (by decide) rfl ?_
      refine am_iload_n rfl rfl dX10_isLawful_22 ?_
      obtain ⟨j4, e4, w4, wp⟩ := wp
      refine am_ialdN (j := j4) dX10_isLawful_23 rfl (by decide) e4 w4 (by decide) ?_
      obtain ⟨j5, e5, w5, wp⟩ := wp
      obtain ⟨w6, wp⟩ := wp
      refine am_invV (ci := 8) (As := [.int a2, .int (I 58 j4)]) (lsZ := [some (.ref 48), some (.int a2), some (.int (I 58 j4))]) (st := []) dX10_isLawful_24 hX10_may lkX10_169 ⟨by decide, by decide⟩ (by decide) rfl (by decide) rfl rfl rfl (Nat.le_of_ble_eq_true rfl) rfl (Nat.le_of_ble_eq_true rfl) ⟨Nat.le_refl _, Nat.le_refl _⟩ (tX10_may (m := j4) (d := j5) e4 w4 e5 w5 w6 (fun hc7 => ?_) (fun hc7 => ?_))
      · have wp := wp.1 hc7
        show am_R E mX10_isLawful 27 [some (.ref 48), some (.int a1), some (.int a2)] [.int 1] (hp I J b) 64 64 Q
        refine am_if_eq dX10_isLawful_27 (tgt := 34) rfl (fun hc => absurd hc (by decide)) (fun _ => ?_)
        refine am_iconst 1 rfl dX10_isLawful_30 ?_
        refine am_goto dX10_isLawful_31 (tgt := 35) rfl ?_
        refine am_istore_n (ls' := [some (.ref 48), some (.int 1), some (.int a2)]) rfl (by decide) rfl rfl dX10_isLawful_35 ?_
        refine am_iinc (ls' := [some (.ref 48), some (.int 1), some (.int (a2 + 1))]) (by decide) rfl rfl rfl dX10_isLawful_36 ?_
        refine am_goto dX10_isLawful_39 (tgt := 4) rfl ?_
        exact am_R.forget wp ⟨rfl, ⟨rfl, ⟨rfl, trivial⟩⟩⟩
      · have wp := wp.2 hc7
        show am_R E mX10_isLawful 27 [some (.ref 48), some (.int a1), some (.int a2)] [.int 0] (hp I J b) 64 64 Q
        refine am_if_eq dX10_isLawful_27 (tgt := 34) rfl (fun _ => ?_) (fun hc => absurd hc (by decide))
        refine am_iconst 0 rfl dX10_isLawful_34 ?_
        refine am_istore_n (ls' := [some (.ref 48), some (.int 0), some (.int a2)]) rfl (by decide) rfl rfl dX10_isLawful_35 ?_
        refine am_iinc (ls' := [some (.ref 48), some (.int 0), some (.int (a2 + 1))]) (by decide) rfl rfl rfl dX10_isLawful_36 ?_
        refine am_goto dX10_isLawful_39 (tgt := 4) rfl ?_
        exact am_R.forget wp ⟨rfl, ⟨rfl, ⟨rfl, trivial⟩⟩⟩
theorem tX10_isLawful {n : Nat} {p : Nat → Nat} (hN : Nn I n) (hY : Yw I n) (hR : Rw (I 58) p n) (k1 : (∀ m, m < n → my I m (p m)) → Q (some (.int 1)) (hp I J b)) (k0 : ¬ (∀ m, m < n → my I m (p m)) → Q (some (.int 0)) (hp I J b)) : am_R E mX10_isLawful 0 [some (.ref 48), none, none] [] (hp I J b) 64 64 Q := by
  obtain ⟨h0, h2, h7⟩ := hN
  refine bX10_isLawful_0 ?_
  have key : ∀ j m, m + j = n → ∀ v : Int32, (v = 1 ∧ (∀ i, i < m → my I i (p i)) ∨ v = 0 ∧ ¬ (∀ i, i < n → my I i (p i))) → am_R E mX10_isLawful 4 [some (.ref 48), some (.int v), some (.int (nI m))] [] (hp I J b) 64 64 Q := by
    intro j
    induction j with
    | zero =>
      intro m hm v hv
      refine bX10_isLawful_4 (le_br h0 rfl (by omega) (by omega) (fun _ => ?_) (fun h => by omega))
      rcases hv with ⟨rfl, hv⟩ | ⟨rfl, hv⟩
      · exact ⟨rfl, k1 (by rw [← show m = n by omega]; exact hv)⟩
      · exact ⟨rfl, k0 hv⟩
    | succ j ih =>
      intro m hm v hv
      refine bX10_isLawful_4 (le_br h0 rfl (by omega) (by omega) (fun h => by omega) (fun h => ⟨fun hz => ?_, fun hz => ?_⟩))
      · rw [n1]
        refine ih (m + 1) (by omega) 0 (Or.inr ⟨rfl, ?_⟩)
        rcases hv with ⟨rfl, hv⟩ | ⟨rfl, hv⟩
        · exact absurd hz (by decide)
        · exact hv
      · rcases hv with ⟨rfl, hv⟩ | ⟨rfl, hv⟩
        · refine ⟨m, rfl, by omega, p m, (hR m h).1, by have := (hR m h).2; omega, hY.seven h7 h, fun q => ?_, fun q => ?_⟩
          · rw [n1]
            refine ih (m + 1) (by omega) 1 (Or.inl ⟨rfl, fun i hi => ?_⟩)
            rcases Nat.lt_or_ge i m with z | z
            · exact hv i z
            · rw [show i = m by omega]; exact q
          · rw [n1]
            exact ih (m + 1) (by omega) 0 (Or.inr ⟨rfl, fun z => q (z m h)⟩)
        · exact absurd rfl hz
  exact key n 0 (by omega) 1 (Or.inl ⟨rfl, fun i hi => by omega⟩)
theorem bX10_workOf_0 {E : Nat × (Nat → Int32)} {I : Nat → Nat → Int32} {J : Nat → Nat → Int64} {b : Bool}  {Q : Option Value → am_H → Prop}  (wp : am_R E mX10_workOf 4 [some (.ref 48), some (.int 0), some (.int 0)] [] (hp I J b) 64 64 Q) : am_R E mX10_workOf 0 [some (.ref 48), none, none] [] (hp I J b) 64 64 Q := by
  refine am_iconst 0 rfl dX10_workOf_0 ?_
  refine am_istore_n (ls' := [some (.ref 48), some (.int 0), none]) rfl (by decide) rfl rfl dX10_workOf_1 ?_
  refine am_iconst 0 rfl dX10_workOf_2 ?_
  refine am_istore_n (ls' := [some (.ref 48), some (.int 0), some (.int 0)]) rfl (by decide) rfl rfl dX10_workOf_3 ?_
  exact am_R.forget wp ⟨rfl, ⟨rfl, ⟨rfl, trivial⟩⟩⟩
theorem bX10_workOf_4 {E : Nat × (Nat → Int32)} {I : Nat → Nat → Int32} {J : Nat → Nat → Int64} {b : Bool} {a1 : Int32} {a2 : Int32} {Q : Option Value → am_H → Prop}  (wp : (((I 48 0) ≤ a2 → Q (some (.int a1)) (hp I J b)) ∧ (¬ (I 48 0) ≤ a2 → ∃ j2, a2 = nI j2 ∧ j2 < 7 ∧ ∃ j3, ((7 * a2) + (I 58 j2)) = nI j3 ∧ j3 < 49 ∧ am_R E mX10_workOf 4 [some (.ref 48), some (.int (a1 + (I 49 j3))), some (.int (a2 + 1))] [] (hp I J b) 64 64 Q))) : am_R E mX10_workOf 4 [some (.ref 48), some (.int a1), some (.int a2)] [] (hp I J b) 64 64 Q := by
  refine am_iload_n rfl rfl dX10_workOf_4 ?_
  refine am_aload_n rfl rfl dX10_workOf_5 ?_
  refine am_getI dX10_workOf_6 flX10_7 (Or.inl rfl) rfl (by decide) ?_
  refine am_icmp_ge dX10_workOf_9 (tgt := 37) rfl (fun hc1 => ?_) (fun hc1 => ?_)
  · have wp := wp.1 hc1
    refine am_iload_n rfl rfl dX10_workOf_37 ?_
    exact am_iret dX10_workOf_38 rfl rfl wp
  · have wp := wp.2 hc1
    refine am_iload_n rfl rfl dX10_workOf_12 ?_
    refine am_aload_n rfl rfl dX10_workOf_13 ?_
    refine am_getA (r := 49) dX10_workOf_14 flX10_16 (Or.inr ⟨_, rfl⟩) rfl (by decide) rfl ?_
    refine am_bipush 7 rfl dX10_workOf_17 ?_
    refine am_iload_n rfl rfl dX10_workOf_19 ?_
    refine am_imul dX10_workOf_20 ?_
    refine am_aload_n rfl rfl dX10_workOf_21 ?_
    refine am_getA (r := 58) dX10_workOf_22 flX10_45 (Or.inr ⟨_, rfl⟩) rfl (by decide) rfl ?_
    refine am_iload_n rfl rfl dX10_workOf_25 ?_
    obtain ⟨j2, e2, w2, wp⟩ := wp
    refine am_ialdN (j := j2) dX10_workOf_26 rfl (by decide) e2 w2 (by decide) ?_
    refine am_iadd dX10_workOf_27 ?_
    obtain ⟨j3, e3, w3, wp⟩ := wp
    refine am_ialdN (j := j3) dX10_workOf_28 rfl (by decide) e3 w3 (by decide) ?_
    refine am_iadd dX10_workOf_29 ?_
    refine am_istore_n (ls' := [some (.ref 48), some (.int (a1 + (I 49 j3))), some (.int a2)]) rfl (by decide) rfl rfl dX10_workOf_30 ?_
    refine am_iinc (ls' := [some (.ref 48), some (.int (a1 + (I 49 j3))), some (.int (a2 + 1))]) (by decide) rfl rfl rfl dX10_workOf_31 ?_
    refine am_goto dX10_workOf_34 (tgt := 4) rfl ?_
    exact am_R.forget wp ⟨rfl, ⟨rfl, ⟨rfl, trivial⟩⟩⟩
theorem tX10_workOf {n : Nat} {p : Nat → Nat} (hN : Nn I n) (hR : Rw (I 58) p n) (k : Q (some (.int (sm (fun m => I 49 (7 * m + p m)) n))) (hp I J b)) : am_R E mX10_workOf 0 [some (.ref 48), none, none] [] (hp I J b) 64 64 Q := by
  obtain ⟨h0, h2, h7⟩ := hN
  refine bX10_workOf_0 (lp_up (n := n) (P := fun m => am_R E mX10_workOf 4 [some (.ref 48), some (.int (sm (fun m => I 49 (7 * m + p m)) m)), some (.int (nI m))] [] (hp I J b) 64 64 Q) ?_ ?_)
  · exact bX10_workOf_4 (le_br h0 rfl (by omega) (by omega) (fun _ => k) (fun h => by omega))
  · intro m hm ih
    refine bX10_workOf_4 (le_br h0 rfl (by omega) (by omega) (fun h => by omega) (fun _ => ⟨m, rfl, by omega, 7 * m + p m, by rw [(hR m hm).1, k7], by have := (hR m hm).2; omega, ?_⟩))
    rw [n1]; exact ih
theorem bX10_gladnessOf_0 {E : Nat × (Nat → Int32)} {I : Nat → Nat → Int32} {J : Nat → Nat → Int64} {b : Bool}  {Q : Option Value → am_H → Prop}  (wp : am_R E mX10_gladnessOf 4 [some (.ref 48), some (.int 0), some (.int 0)] [] (hp I J b) 64 64 Q) : am_R E mX10_gladnessOf 0 [some (.ref 48), none, none] [] (hp I J b) 64 64 Q := by
  refine am_iconst 0 rfl dX10_gladnessOf_0 ?_
  refine am_istore_n (ls' := [some (.ref 48), some (.int 0), none]) rfl (by decide) rfl rfl dX10_gladnessOf_1 ?_
  refine am_iconst 0 rfl dX10_gladnessOf_2 ?_
  refine am_istore_n (ls' := [some (.ref 48), some (.int 0), some (.int 0)]) rfl (by decide) rfl rfl dX10_gladnessOf_3 ?_
  exact am_R.forget wp ⟨rfl, ⟨rfl, ⟨rfl, trivial⟩⟩⟩
theorem bX10_gladnessOf_4 {E : Nat × (Nat → Int32)} {I : Nat → Nat → Int32} {J : Nat → Nat → Int64} {b : Bool} {a1 : Int32} {a2 : Int32} {Q : Option Value → am_H → Prop}  (wp : (((I 48 0) ≤ a2 → Q (some (.int a1)) (hp I J b)) ∧ (¬ (I 48 0) ≤ a2 → ∃ j2, a2 = nI j2 ∧ j2 < 7 ∧ ∃ j3, ((7 * a2) + (I 58 j2)) = nI j3 ∧ j3 < 49 ∧ am_R E mX10_gladnessOf 4 [some (.ref 48), some (.int (a1 + (I 50 j3))), some (.int (a2 + 1))] [] (hp I J b) 64 64 Q))) : am_R E mX10_gladnessOf 4 [some (.ref 48), some (.int a1), some (.int a2)] [] (hp I J b) 64 64 Q := by
  refine am_iload_n rfl rfl dX10_gladnessOf_4 ?_
  refine am_aload_n rfl rfl dX10_gladnessOf_5 ?_
  refine am_getI dX10_gladnessOf_6 flX10_7 (Or.inl rfl) rfl (by decide) ?_
  refine am_icmp_ge dX10_gladnessOf_9 (tgt := 37) rfl (fun hc1 => ?_) (fun hc1 => ?_)
  · have wp := wp.1 hc1
    refine am_iload_n rfl rfl dX10_gladnessOf_37 ?_
    exact am_iret dX10_gladnessOf_38 rfl rfl wp
  · have wp := wp.2 hc1
    refine am_iload_n rfl rfl dX10_gladnessOf_12 ?_
    refine am_aload_n rfl rfl dX10_gladnessOf_13 ?_
    refine am_getA (r := 50) dX10_gladnessOf_14 flX10_20 (Or.inr ⟨_, rfl⟩) rfl (by decide) rfl ?_
    refine am_bipush 7 rfl dX10_gladnessOf_17 ?_
    refine am_iload_n rfl rfl dX10_gladnessOf_19 ?_
    refine am_imul dX10_gladnessOf_20 ?_
    refine am_aload_n rfl rfl dX10_gladnessOf_21 ?_
    refine am_getA (r := 58) dX10_gladnessOf_22 flX10_45 (Or.inr ⟨_, rfl⟩) rfl (by decide) rfl ?_
    refine am_iload_n rfl rfl dX10_gladnessOf_25 ?_
    obtain ⟨j2, e2, w2, wp⟩ := wp
    refine am_ialdN (j := j2) dX10_gladnessOf_26 rfl (by decide) e2 w2 (by decide) ?_
    refine am_iadd dX10_gladnessOf_27 ?_
    obtain ⟨j3, e3, w3, wp⟩ := wp
    refine am_ialdN (j := j3) dX10_gladnessOf_28 rfl (by decide) e3 w3 (by decide) ?_
    refine am_iadd dX10_gladnessOf_29 ?_
    refine am_istore_n (ls' := [some (.ref 48), some (.int (a1 + (I 50 j3))), some (.int a2)]) rfl (by decide) rfl rfl dX10_gladnessOf_30 ?_
    refine am_iinc (ls' := [some (.ref 48), some (.int (a1 + (I 50 j3))), some (.int (a2 + 1))]) (by decide) rfl rfl rfl dX10_gladnessOf_31 ?_
    refine am_goto dX10_gladnessOf_34 (tgt := 4) rfl ?_
    exact am_R.forget wp ⟨rfl, ⟨rfl, ⟨rfl, trivial⟩⟩⟩
theorem tX10_gladnessOf {n : Nat} {p : Nat → Nat} (hN : Nn I n) (hR : Rw (I 58) p n) (k : Q (some (.int (sm (fun m => I 50 (7 * m + p m)) n))) (hp I J b)) : am_R E mX10_gladnessOf 0 [some (.ref 48), none, none] [] (hp I J b) 64 64 Q := by
  obtain ⟨h0, h2, h7⟩ := hN
  refine bX10_gladnessOf_0 (lp_up (n := n) (P := fun m => am_R E mX10_gladnessOf 4 [some (.ref 48), some (.int (sm (fun m => I 50 (7 * m + p m)) m)), some (.int (nI m))] [] (hp I J b) 64 64 Q) ?_ ?_)
  · exact bX10_gladnessOf_4 (le_br h0 rfl (by omega) (by omega) (fun _ => k) (fun h => by omega))
  · intro m hm ih
    refine bX10_gladnessOf_4 (le_br h0 rfl (by omega) (by omega) (fun h => by omega) (fun _ => ⟨m, rfl, by omega, 7 * m + p m, by rw [(hR m hm).1, k7], by have := (hR m hm).2; omega, ?_⟩))
    rw [n1]; exact ih
theorem bX10_takeToday_0 {E : Nat × (Nat → Int32)} {I : Nat → Nat → Int32} {J : Nat → Nat → Int64} {b : Bool}  {Q : Option Value → am_H → Prop}  (wp : am_R E mX10_takeToday 2 [some (.ref 48), some (.int 0)] [] (hp I J b) 64 64 Q) : am_R E mX10_takeToday 0 [some (.ref 48), none] [] (hp I J b) 64 64 Q := by
  refine am_iconst 0 rfl dX10_takeToday_0 ?_
  refine am_istore_n (ls' := [some (.ref 48), some (.int 0)]) rfl (by decide) rfl rfl dX10_takeToday_1 ?_
  exact am_R.forget wp ⟨rfl, ⟨rfl, trivial⟩⟩
theorem bX10_takeToday_2 {E : Nat × (Nat → Int32)} {I : Nat → Nat → Int32} {J : Nat → Nat → Int64} {b : Bool} {a1 : Int32} {Q : Option Value → am_H → Prop}  (wp : (((I 48 0) ≤ a1 → Q none (hp I J b)) ∧ (¬ (I 48 0) ≤ a1 → ∃ j2, (1 + a1) = nI j2 ∧ j2 < 128 ∧ ∃ j3, a1 = nI j3 ∧ j3 < 7 ∧ am_R E mX10_takeToday 2 [some (.ref 48), some (.int (a1 + 1))] [] (hp (u2 I 58 j3 (I 55 j2)) J b) 64 64 Q))) : am_R E mX10_takeToday 2 [some (.ref 48), some (.int a1)] [] (hp I J b) 64 64 Q := by
  refine am_iload_n rfl rfl dX10_takeToday_2 ?_
  refine am_aload_n rfl rfl dX10_takeToday_3 ?_
  refine am_getI dX10_takeToday_4 flX10_7 (Or.inl rfl) rfl (by decide) ?_
  refine am_icmp_ge dX10_takeToday_7 (tgt := 30) rfl (fun hc1 => ?_) (fun hc1 => ?_)
  · have wp := wp.1 hc1
    exact am_vret dX10_takeToday_30 rfl wp
  · have wp := wp.2 hc1
    refine am_aload_n rfl rfl dX10_takeToday_10 ?_
    refine am_getA (r := 58) dX10_takeToday_11 flX10_45 (Or.inr ⟨_, rfl⟩) rfl (by decide) rfl ?_
    refine am_iload_n rfl rfl dX10_takeToday_14 ?_
    refine am_aload_n rfl rfl dX10_takeToday_15 ?_
    refine am_getA (r := 55) dX10_takeToday_16 flX10_35 (Or.inr ⟨_, rfl⟩) rfl (by decide) rfl ?_
    refine am_iconst 1 rfl dX10_takeToday_19 ?_
    refine am_iload_n rfl rfl dX10_takeToday_20 ?_
    refine am_iadd dX10_takeToday_21 ?_
    obtain ⟨j2, e2, w2, wp⟩ := wp
    refine am_ialdN (j := j2) dX10_takeToday_22 rfl (by decide) e2 w2 (by decide) ?_
    obtain ⟨j3, e3, w3, wp⟩ := wp
    refine am_iastN (j := j3) dX10_takeToday_23 rfl (by decide) e3 w3 (by decide) ?_
    refine am_iinc (ls' := [some (.ref 48), some (.int (a1 + 1))]) (by decide) rfl rfl rfl dX10_takeToday_24 ?_
    refine am_goto dX10_takeToday_27 (tgt := 2) rfl ?_
    exact am_R.forget wp ⟨rfl, ⟨rfl, trivial⟩⟩
theorem tX10_takeToday {n : Nat} (hN : Nn I n) (k : Q none (hp (u1 I 58 (va_cpy (I 55) (I 58) 1 0 n)) J b)) : am_R E mX10_takeToday 0 [some (.ref 48), none] [] (hp I J b) 64 64 Q := by
  obtain ⟨h0, h2, h7⟩ := hN
  have := lp_up (n := n) (P := fun m => am_R E mX10_takeToday 2 [some (.ref 48), some (.int (nI m))] [] (hp (u1 I 58 (va_cpy (I 55) (I 58) 1 0 m)) J b) 64 64 Q) ?_ ?_
  · rw [cpy_0, u1_self] at this
    exact bX10_takeToday_0 this
  · exact bX10_takeToday_2 (le_br (by rw [u1_n _ _ (by decide)]; exact h0) rfl (by omega) (by omega) (fun _ => k) (fun h => by omega))
  · intro m hm ih
    refine bX10_takeToday_2 (le_br (by rw [u1_n _ _ (by decide)]; exact h0) rfl (by omega) (by omega) (fun h => by omega) (fun _ => ⟨1 + m, n1' m, by omega, m, rfl, by omega, ?_⟩))
    rw [n1, u2_u1, u1_n _ _ (by decide)]
    have e := cpy_s (I 55) (I 58) 1 0 m
    rw [Nat.zero_add] at e
    rw [e]; exact ih
theorem bX10_putToday_0 {E : Nat × (Nat → Int32)} {I : Nat → Nat → Int32} {J : Nat → Nat → Int64} {b : Bool}  {Q : Option Value → am_H → Prop}  (wp : am_R E mX10_putToday 9 [some (.ref 48), some (.int 0)] [] (hp (u2 I 55 0 1) J b) 64 64 Q) : am_R E mX10_putToday 0 [some (.ref 48), none] [] (hp I J b) 64 64 Q := by
  refine am_aload_n rfl rfl dX10_putToday_0 ?_
  refine am_getA (r := 55) dX10_putToday_1 flX10_35 (Or.inr ⟨_, rfl⟩) rfl (by decide) rfl ?_
  refine am_iconst 0 rfl dX10_putToday_4 ?_
  refine am_iconst 1 rfl dX10_putToday_5 ?_
  refine am_iastN (j := 0) dX10_putToday_6 rfl (by decide) rfl (by decide) (by decide) ?_
  refine am_iconst 0 rfl dX10_putToday_7 ?_
  refine am_istore_n (ls' := [some (.ref 48), some (.int 0)]) rfl (by decide) rfl rfl dX10_putToday_8 ?_
  exact am_R.forget wp ⟨rfl, ⟨rfl, trivial⟩⟩
theorem bX10_putToday_9 {E : Nat × (Nat → Int32)} {I : Nat → Nat → Int32} {J : Nat → Nat → Int64} {b : Bool} {a1 : Int32} {Q : Option Value → am_H → Prop}  (wp : (((I 48 0) ≤ a1 → Q none (hp I J b)) ∧ (¬ (I 48 0) ≤ a1 → ∃ j2, a1 = nI j2 ∧ j2 < 7 ∧ ∃ j3, (1 + a1) = nI j3 ∧ j3 < 128 ∧ am_R E mX10_putToday 9 [some (.ref 48), some (.int (a1 + 1))] [] (hp (u2 I 55 j3 (I 58 j2)) J b) 64 64 Q))) : am_R E mX10_putToday 9 [some (.ref 48), some (.int a1)] [] (hp I J b) 64 64 Q := by
  refine am_iload_n rfl rfl dX10_putToday_9 ?_
  refine am_aload_n rfl rfl dX10_putToday_10 ?_
  refine am_getI dX10_putToday_11 flX10_7 (Or.inl rfl) rfl (by decide) ?_
  refine am_icmp_ge dX10_putToday_14 (tgt := 37) rfl (fun hc1 => ?_) (fun hc1 => ?_)
  · have wp := wp.1 hc1
    exact am_vret dX10_putToday_37 rfl wp
  · have wp := wp.2 hc1
    refine am_aload_n rfl rfl dX10_putToday_17 ?_
    refine am_getA (r := 55) dX10_putToday_18 flX10_35 (Or.inr ⟨_, rfl⟩) rfl (by decide) rfl ?_
    refine am_iconst 1 rfl dX10_putToday_21 ?_
    refine am_iload_n rfl rfl dX10_putToday_22 ?_
    refine am_iadd dX10_putToday_23 ?_
    refine am_aload_n rfl rfl dX10_putToday_24 ?_
    refine am_getA (r := 58) dX10_putToday_25 flX10_45 (Or.inr ⟨_, rfl⟩) rfl (by decide) rfl ?_
    refine am_iload_n rfl rfl dX10_putToday_28 ?_
    obtain ⟨j2, e2, w2, wp⟩ := wp
    refine am_ialdN (j := j2) dX10_putToday_29 rfl (by decide) e2 w2 (by decide) ?_
    obtain ⟨j3, e3, w3, wp⟩ := wp
    refine am_iastN (j := j3) dX10_putToday_30 rfl (by decide) e3 w3 (by decide) ?_
    refine am_iinc (ls' := [some (.ref 48), some (.int (a1 + 1))]) (by decide) rfl rfl rfl dX10_putToday_31 ?_
    refine am_goto dX10_putToday_34 (tgt := 9) rfl ?_
    exact am_R.forget wp ⟨rfl, ⟨rfl, trivial⟩⟩
theorem tX10_putToday {n : Nat} (hN : Nn I n) (k : Q none (hp (u1 I 55 (va_cpy (I 58) (upd (I 55) 0 1) 0 1 n)) J b)) : am_R E mX10_putToday 0 [some (.ref 48), none] [] (hp I J b) 64 64 Q := by
  obtain ⟨h0, h2, h7⟩ := hN
  have := lp_up (n := n) (P := fun m => am_R E mX10_putToday 9 [some (.ref 48), some (.int (nI m))] [] (hp (u1 I 55 (va_cpy (I 58) (upd (I 55) 0 1) 0 1 m)) J b) 64 64 Q) ?_ ?_
  · rw [cpy_0] at this
    exact bX10_putToday_0 this
  · exact bX10_putToday_9 (le_br (by rw [u1_n _ _ (by decide)]; exact h0) rfl (by omega) (by omega) (fun _ => k) (fun h => by omega))
  · intro m hm ih
    refine bX10_putToday_9 (le_br (by rw [u1_n _ _ (by decide)]; exact h0) rfl (by omega) (by omega) (fun h => by omega) (fun _ => ⟨m, rfl, by omega, 1 + m, n1' m, by omega, ?_⟩))
    rw [n1, u2_u1, u1_n _ _ (by decide)]
    have e := cpy_s (I 58) (upd (I 55) 0 1) 0 1 m
    rw [Nat.zero_add] at e
    rw [e]; exact ih
/-- m likes d more than what it has in the row -/
abbrev lm (I : Nat → Nat → Int32) (p : Nat → Nat) (m d : Nat) : Prop := my I m d ∧ I 50 (7 * m + p m) < I 50 (7 * m + d)
theorem bX10_likesMore_0 {E : Nat × (Nat → Int32)} {I : Nat → Nat → Int32} {J : Nat → Nat → Int64} {b : Bool} {a1 : Int32} {a2 : Int32} {Q : Option Value → am_H → Prop}  (wp : ∃ j1, a1 = nI j1 ∧ j1 < 7 ∧ ∃ j2, a2 = nI j2 ∧ j2 < 7 ∧ ((I 55 (8 + j1)) = -1 ∨ ∃ e, e < 7 ∧ (I 55 (8 + j1)) = nI e) ∧ (((my I j1 j2) → ∃ j5, ((7 * a1) + a2) = nI j5 ∧ j5 < 49 ∧ ∃ j6, ((7 * a1) + (I 58 j1)) = nI j6 ∧ j6 < 49 ∧ (((I 50 j5) ≤ (I 50 j6) → Q (some (.int 0)) (hp I J b)) ∧ (¬ (I 50 j5) ≤ (I 50 j6) → Q (some (.int 1)) (hp I J b)))) ∧ (¬ (my I j1 j2) → Q (some (.int 0)) (hp I J b)))) : am_R E mX10_likesMore 0 [some (.ref 48), some (.int a1), some (.int a2)] [] (hp I J b) 64 64 Q := by
  refine am_aload_n rfl rfl dX10_likesMore_0 ?_
  refine am_iload_n rfl rfl dX10_likesMore_1 ?_
  refine am_iload_n rfl rfl dX10_likesMore_2 ?_
  obtain ⟨j1, e1, w1, wp⟩ := wp
  obtain ⟨j2, e2, w2, wp⟩ := wp
  obtain ⟨w3, wp⟩ := wp
  refine am_invV (ci := 8) (As := [.int a1, .int a2]) (lsZ := [some (.ref 48), some (.int a1), some (.int a2)]) (st := []) dX10_likesMore_3 hX10_may lkX10_169 ⟨by decide, by decide⟩ (by decide) rfl (by decide) rfl rfl rfl (Nat.le_of_ble_eq_true rfl) rfl (Nat.le_of_ble_eq_true rfl) ⟨Nat.le_refl _, Nat.le_refl _⟩ (tX10_may (m := j1) (d := j2) e1 w1 e2 w2 w3 (fun hc4 => ?_) (fun hc4 => ?_))
  · have wp := wp.1 hc4
    show am_R E mX10_likesMore 6 [some (.ref 48), some (.int a1), some (.int a2)] [.int 1] (hp I J b) 64 64 Q
    refine am_if_eq dX10_likesMore_6 (tgt := 43) rfl (fun hc => absurd hc (by decide)) (fun _ => ?_)
    refine am_aload_n rfl rfl dX10_likesMore_9 ?_
    refine am_getA (r := 50) dX10_likesMore_10 flX10_20 (Or.inr ⟨_, rfl⟩) rfl (by decide) rfl ?_
    refine am_bipush 7 rfl dX10_likesMore_13 ?_
    refine am_iload_n rfl rfl dX10_likesMore_15 ?_
    refine am_imul dX10_likesMore_16 ?_
    refine am_iload_n rfl rfl dX10_likesMore_17 ?_
    refine am_iadd dX10_likesMore_18 ?_
    obtain ⟨j5, e5, w5, wp⟩ := wp
    refine am_ialdN (j := j5) dX10_likesMore_19 rfl (by decide) e5 w5 (by decide) ?_
    refine am_aload_n rfl rfl dX10_likesMore_20 ?_
    refine am_getA (r := 50) dX10_likesMore_21 flX10_20 (Or.inr ⟨_, rfl⟩) rfl (by decide) rfl ?_
    refine am_bipush 7 rfl dX10_likesMore_24 ?_
    refine am_iload_n rfl rfl dX10_likesMore_26 ?_
    refine am_imul dX10_likesMore_27 ?_
    refine am_aload_n rfl rfl dX10_likesMore_28 ?_
    refine am_getA (r := 58) dX10_likesMore_29 flX10_45 (Or.inr ⟨_, rfl⟩) rfl (by decide) rfl ?_
    refine am_iload_n rfl rfl dX10_likesMore_32 ?_
    refine am_ialdN (j := j1) dX10_likesMore_33 rfl (by decide) e1 w1 (by decide) ?_
    refine am_iadd dX10_likesMore_34 ?_
    obtain ⟨j6, e6, w6, wp⟩ := wp
    refine am_ialdN (j := j6) dX10_likesMore_35 rfl (by decide) e6 w6 (by decide) ?_
    refine am_icmp_le dX10_likesMore_36 (tgt := 43) rfl (fun hc7 => ?_) (fun hc7 => ?_)
    · have wp := wp.1 hc7
      refine am_iconst 0 rfl dX10_likesMore_43 ?_
      exact am_iret dX10_likesMore_44 rfl (by decide) wp
    · have wp := wp.2 hc7
      refine am_iconst 1 rfl dX10_likesMore_39 ?_
      refine am_goto dX10_likesMore_40 (tgt := 44) rfl ?_
      exact am_iret dX10_likesMore_44 rfl (by decide) wp
  · have wp := wp.2 hc4
    show am_R E mX10_likesMore 6 [some (.ref 48), some (.int a1), some (.int a2)] [.int 0] (hp I J b) 64 64 Q
    refine am_if_eq dX10_likesMore_6 (tgt := 43) rfl (fun _ => ?_) (fun hc => absurd hc (by decide))
    refine am_iconst 0 rfl dX10_likesMore_43 ?_
    exact am_iret dX10_likesMore_44 rfl (by decide) wp
theorem tX10_likesMore {a1 a2 : Int32} {n m d : Nat} {p : Nat → Nat} (em : a1 = nI m) (ed : a2 = nI d) (hn : n ≤ 7) (hm : m < n) (hd : d < n) (hY : Yw I n) (hR : Rw (I 58) p n) (k1 : lm I p m d → Q (some (.int 1)) (hp I J b)) (k0 : ¬ lm I p m d → Q (some (.int 0)) (hp I J b)) : am_R E mX10_likesMore 0 [some (.ref 48), some (.int a1), some (.int a2)] [] (hp I J b) 64 64 Q := by
  subst em; subst ed
  have hp1 := hR m hm
  refine bX10_likesMore_0 ⟨m, rfl, by omega, d, rfl, by omega, hY.seven hn hm, fun q => ⟨7 * m + d, k7 m d, by omega, 7 * m + p m, by rw [hp1.1, k7], by omega, fun h => k0 (fun z => Int32.not_lt.mpr h z.2), fun h => k1 ⟨q, nle h⟩⟩, fun q => k0 (fun z => q z.1)⟩
theorem bX10_goRing_0 {E : Nat × (Nat → Int32)} {I : Nat → Nat → Int32} {J : Nat → Nat → Int64} {b : Bool} {a1 : Int32} {a2 : Int32} {a3 : Int32} {Q : Option Value → am_H → Prop}  (wp : ∃ j1, a1 = nI j1 ∧ j1 < 7 ∧ ∃ j2, a2 = nI j2 ∧ j2 < 7 ∧ ((¬ a3 = (-1) → ∃ j4, a3 = nI j4 ∧ j4 < 7 ∧ Q none (hp (u2 (u2 (u2 I 58 j1 (I 58 j2)) 58 j2 ((u2 I 58 j1 (I 58 j2)) 58 j4)) 58 j4 (I 58 j1)) J b)) ∧ (a3 = (-1) → Q none (hp (u2 (u2 I 58 j1 (I 58 j2)) 58 j2 (I 58 j1)) J b)))) : am_R E mX10_goRing 0 [some (.ref 48), some (.int a1), some (.int a2), some (.int a3), none] [] (hp I J b) 64 64 Q := by
  refine am_aload_n rfl rfl dX10_goRing_0 ?_
  refine am_getA (r := 58) dX10_goRing_1 flX10_45 (Or.inr ⟨_, rfl⟩) rfl (by decide) rfl ?_
  refine am_iload_n rfl rfl dX10_goRing_4 ?_
  obtain ⟨j1, e1, w1, wp⟩ := wp
  refine am_ialdN (j := j1) dX10_goRing_5 rfl (by decide) e1 w1 (by decide) ?_
  refine am_istore (ls' := [some (.ref 48), some (.int a1), some (.int a2), some (.int a3), some (.int (I 58 j1))]) (by decide) rfl rfl dX10_goRing_6 ?_
  refine am_aload_n rfl rfl dX10_goRing_8 ?_
  refine am_getA (r := 58) dX10_goRing_9 flX10_45 (Or.inr ⟨_, rfl⟩) rfl (by decide) rfl ?_
  refine am_iload_n rfl rfl dX10_goRing_12 ?_
  refine am_aload_n rfl rfl dX10_goRing_13 ?_
  refine am_getA (r := 58) dX10_goRing_14 flX10_45 (Or.inr ⟨_, rfl⟩) rfl (by decide) rfl ?_
  refine am_iload_n rfl rfl dX10_goRing_17 ?_
  obtain ⟨j2, e2, w2, wp⟩ := wp
  refine am_ialdN (j := j2) dX10_goRing_18 rfl (by decide) e2 w2 (by decide) ?_
  refine am_iastN (j := j1) dX10_goRing_19 rfl (by decide) e1 w1 (by decide) ?_
  refine am_iload_n rfl rfl dX10_goRing_20 ?_
  refine am_iconst (-1) rfl dX10_goRing_21 ?_
  refine am_icmp_ne dX10_goRing_22 (tgt := 36) rfl (fun hc3 => ?_) (fun hc3 => ?_)
  · have wp := wp.1 hc3
    refine am_aload_n rfl rfl dX10_goRing_36 ?_
    refine am_getA (r := 58) dX10_goRing_37 flX10_45 (Or.inr ⟨_, rfl⟩) rfl (by decide) rfl ?_
    refine am_iload_n rfl rfl dX10_goRing_40 ?_
    refine am_aload_n rfl rfl dX10_goRing_41 ?_
    refine am_getA (r := 58) dX10_goRing_42 flX10_45 (Or.inr ⟨_, rfl⟩) rfl (by decide) rfl ?_
    refine am_iload_n rfl rfl dX10_goRing_45 ?_
    obtain ⟨j4, e4, w4, wp⟩ := wp
    refine am_ialdN (j := j4) dX10_goRing_46 rfl (by decide) e4 w4 (by decide) ?_
    show am_R E mX10_goRing 47 [some (.ref 48), some (.int a1), some (.int a2), some (.int a3), some (.int (I 58 j1))] [.int ((u2 I 58 j1 (I 58 j2)) 58 j4), .int a2, .ref 58] (hp (u2 I 58 j1 (I 58 j2)) J b) 64 64 Q
    refine am_iastN (j := j2) dX10_goRing_47 rfl (by decide) e2 w2 (by decide) ?_
    refine am_aload_n rfl rfl dX10_goRing_48 ?_
    refine am_getA (r := 58) dX10_goRing_49 flX10_45 (Or.inr ⟨_, rfl⟩) rfl (by decide) rfl ?_
    refine am_iload_n rfl rfl dX10_goRing_52 ?_
    refine am_iload rfl dX10_goRing_53 ?_
    refine am_iastN (j := j4) dX10_goRing_55 rfl (by decide) e4 w4 (by decide) ?_
    exact am_vret dX10_goRing_56 rfl wp
  · have wp := wp.2 hc3
    refine am_aload_n rfl rfl dX10_goRing_25 ?_
    refine am_getA (r := 58) dX10_goRing_26 flX10_45 (Or.inr ⟨_, rfl⟩) rfl (by decide) rfl ?_
    refine am_iload_n rfl rfl dX10_goRing_29 ?_
    refine am_iload rfl dX10_goRing_30 ?_
    refine am_iastN (j := j2) dX10_goRing_32 rfl (by decide) e2 w2 (by decide) ?_
    refine am_goto dX10_goRing_33 (tgt := 56) rfl ?_
    exact am_vret dX10_goRing_56 rfl wp
def sw2 {α : Type} (f : Nat → α) (x y : Nat) : Nat → α := va_up (va_up f x (f y)) y (f x)
def sw3 {α : Type} (f : Nat → α) (x y z : Nat) : Nat → α := va_up (va_up (va_up f x (f y)) y (f z)) z (f x)
theorem tX10_goRing {a1 a2 a3 : Int32} {x y : Nat} (ex : a1 = nI x) (hx : x < 7) (ey : a2 = nI y) (hy : y < 7) (hz : a3 = -1 ∨ ∃ z, a3 = nI z ∧ z < 7 ∧ z ≠ x) (k2 : a3 = -1 → Q none (hp (u1 I 58 (sw2 (I 58) x y)) J b)) (k3 : ∀ z, a3 = nI z → z < 7 → Q none (hp (u1 I 58 (sw3 (I 58) x y z)) J b)) : am_R E mX10_goRing 0 [some (.ref 48), some (.int a1), some (.int a2), some (.int a3), none] [] (hp I J b) 64 64 Q := by
  refine bX10_goRing_0 ⟨x, ex, hx, y, ey, hy, fun h => ?_, fun h => ?_⟩
  · rcases hz with hz | ⟨z, h1, h2, h3⟩
    · exact absurd hz h
    · refine ⟨z, h1, h2, ?_⟩
      rw [u2_s, u2_eq I, u2_u1, u2_u1]
      have e : upd (I 58) x (I 58 y) z = I 58 z := by unfold upd; rw [if_neg h3]
      rw [e]
      exact k3 z h1 h2
  · rw [u2_eq I, u2_u1]
    exact k2 h
end M1
