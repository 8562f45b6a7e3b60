/-! ===== the number of a row ===== -/
section M5
variable {E : Nat × (Nat → Int32)} {I : Nat → Nat → Int32} {J : Nat → Nat → Int64} {b : Bool} {Q : Option Value → am_H → Prop}
/-- how many behind the place m hold less -/
def lsr (p : Nat → Nat) (n m : Nat) : Nat := fb_ct (fun q => decide (m < q ∧ p q < p m)) n
def rk (n : Nat) (p : Nat → Nat) : Nat := fb_sm (fun m => lsr p n m * fct (n - 1 - m)) n
theorem bX10_numberOf_0 {E : Nat × (Nat → Int32)} {I : Nat → Nat → Int32} {J : Nat → Nat → Int64} {b : Bool}  {Q : Option Value → am_H → Prop}  (wp : am_R E mX10_numberOf 4 [some (.ref 48), some (.int 0), some (.int 0), none, none] [] (hp I J b) 64 64 Q) : am_R E mX10_numberOf 0 [some (.ref 48), none, none, none, none] [] (hp I J b) 64 64 Q := by
  refine am_iconst 0 rfl dX10_numberOf_0 ?_
  refine am_istore_n (ls' := [some (.ref 48), some (.int 0), none, none, none]) rfl (by decide) rfl rfl dX10_numberOf_1 ?_
  refine am_iconst 0 rfl dX10_numberOf_2 ?_
  refine am_istore_n (ls' := [some (.ref 48), some (.int 0), some (.int 0), none, none]) rfl (by decide) rfl rfl dX10_numberOf_3 ?_
  exact am_R.forget wp ⟨rfl, ⟨rfl, ⟨rfl, trivial⟩⟩⟩
theorem bX10_numberOf_4 {E : Nat × (Nat → Int32)} {I : Nat → Nat → Int32} {J : Nat → Nat → Int64} {b : Bool} {a1 : Int32} {a2 : Int32} {Q : Option Value → am_H → Prop}  (wp : (((I 48 0) ≤ a2 → Q (some (.int a1)) (hp I J b)) ∧ (¬ (I 48 0) ≤ a2 → am_R E mX10_numberOf 19 [some (.ref 48), some (.int a1), some (.int a2), some (.int 0), some (.int (a2 + 1))] [] (hp I J b) 64 64 Q))) : am_R E mX10_numberOf 4 [some (.ref 48), some (.int a1), some (.int a2), none, none] [] (hp I J b) 64 64 Q := by
  refine am_iload_n rfl rfl dX10_numberOf_4 ?_
  refine am_aload_n rfl rfl dX10_numberOf_5 ?_
  refine am_getI dX10_numberOf_6 flX10_7 (Or.inl rfl) rfl (by decide) ?_
  refine am_icmp_ge dX10_numberOf_9 (tgt := 80) rfl (fun hc1 => ?_) (fun hc1 => ?_)
  · have wp := wp.1 hc1
    refine am_iload_n rfl rfl dX10_numberOf_80 ?_
    exact am_iret dX10_numberOf_81 rfl rfl wp
  · have wp := wp.2 hc1
    refine am_iconst 0 rfl dX10_numberOf_12 ?_
    refine am_istore_n (ls' := [some (.ref 48), some (.int a1), some (.int a2), some (.int 0), none]) rfl (by decide) rfl rfl dX10_numberOf_13 ?_
    refine am_iload_n rfl rfl dX10_numberOf_14 ?_
    refine am_iconst 1 rfl dX10_numberOf_15 ?_
    refine am_iadd dX10_numberOf_16 ?_
    refine am_istore (ls' := [some (.ref 48), some (.int a1), some (.int a2), some (.int 0), some (.int (a2 + 1))]) (by decide) rfl rfl dX10_numberOf_17 ?_
    exact am_R.forget wp ⟨rfl, ⟨rfl, ⟨rfl, ⟨rfl, ⟨rfl, trivial⟩⟩⟩⟩⟩
theorem bX10_numberOf_19 {E : Nat × (Nat → Int32)} {I : Nat → Nat → Int32} {J : Nat → Nat → Int64} {b : Bool} {a1 : Int32} {a2 : Int32} {a3 : Int32} {a4 : Int32} {Q : Option Value → am_H → Prop}  (wp : (((I 48 0) ≤ a4 → ∃ j2, (((I 48 0) - 1) - a2) = nI j2 ∧ j2 < 8 ∧ am_R E mX10_numberOf 4 [some (.ref 48), some (.int (a1 + (a3 * (nI (fct j2))))), some (.int (a2 + 1)), none, none] [] (hp I J b) 64 64 Q) ∧ (¬ (I 48 0) ≤ a4 → ∃ j3, a4 = nI j3 ∧ j3 < 7 ∧ ∃ j4, a2 = nI j4 ∧ j4 < 7 ∧ (((I 58 j4) ≤ (I 58 j3) → am_R E mX10_numberOf 19 [some (.ref 48), some (.int a1), some (.int a2), some (.int (a3 + 0)), some (.int (a4 + 1))] [] (hp I J b) 64 64 Q) ∧ (¬ (I 58 j4) ≤ (I 58 j3) → am_R E mX10_numberOf 19 [some (.ref 48), some (.int a1), some (.int a2), some (.int (a3 + 1)), some (.int (a4 + 1))] [] (hp I J b) 64 64 Q))))) : am_R E mX10_numberOf 19 [some (.ref 48), some (.int a1), some (.int a2), some (.int a3), some (.int a4)] [] (hp I J b) 64 64 Q := by
  refine am_iload rfl dX10_numberOf_19 ?_
  refine am_aload_n rfl rfl dX10_numberOf_21 ?_
  refine am_getI dX10_numberOf_22 flX10_7 (Or.inl rfl) rfl (by decide) ?_
  refine am_icmp_ge dX10_numberOf_25 (tgt := 58) rfl (fun hc1 => ?_) (fun hc1 => ?_)
  · have wp := wp.1 hc1
    refine am_iload_n rfl rfl dX10_numberOf_58 ?_
    refine am_iload_n rfl rfl dX10_numberOf_59 ?_
    refine am_aload_n rfl rfl dX10_numberOf_60 ?_
    refine am_getI dX10_numberOf_61 flX10_7 (Or.inl rfl) rfl (by decide) ?_
    refine am_iconst 1 rfl dX10_numberOf_64 ?_
    refine am_isub dX10_numberOf_65 ?_
    refine am_iload_n rfl rfl dX10_numberOf_66 ?_
    refine am_isub dX10_numberOf_67 ?_
    obtain ⟨j2, e2, w2, wp⟩ := wp
    refine am_invS (As := [.int (((I 48 0) - 1) - a2)]) (lsZ := [some (.int (((I 48 0) - 1) - a2)), none, none]) (st := [.int a3, .int a1]) dX10_numberOf_68 hX10_draws lkX10_173 ⟨by decide, by decide⟩ rfl rfl (Nat.le_of_ble_eq_true rfl) rfl (Nat.le_of_ble_eq_true rfl) ⟨Nat.le_refl _, Nat.le_refl _⟩ (tX10_draws (n := j2) e2 (Nat.le_of_lt_succ w2) ?_)
    show am_R E mX10_numberOf 71 [some (.ref 48), some (.int a1), some (.int a2), some (.int a3), some (.int a4)] [.int (nI (fct j2)), .int a3, .int a1] (hp I J b) 64 64 Q
    refine am_imul dX10_numberOf_71 ?_
    refine am_iadd dX10_numberOf_72 ?_
    refine am_istore_n (ls' := [some (.ref 48), some (.int (a1 + (a3 * (nI (fct j2))))), some (.int a2), some (.int a3), some (.int a4)]) rfl (by decide) rfl rfl dX10_numberOf_73 ?_
    refine am_iinc (ls' := [some (.ref 48), some (.int (a1 + (a3 * (nI (fct j2))))), some (.int (a2 + 1)), some (.int a3), some (.int a4)]) (by decide) rfl rfl rfl dX10_numberOf_74 ?_
    refine am_goto dX10_numberOf_77 (tgt := 4) rfl ?_
    exact am_R.forget wp ⟨rfl, ⟨rfl, ⟨rfl, trivial⟩⟩⟩
  · have wp := wp.2 hc1
    refine am_iload_n rfl rfl dX10_numberOf_28 ?_
    refine am_aload_n rfl rfl dX10_numberOf_29 ?_
    refine am_getA (r := 58) dX10_numberOf_30 flX10_45 (Or.inr ⟨_, rfl⟩) rfl (by decide) rfl ?_
    refine am_iload rfl dX10_numberOf_33 ?_
    obtain ⟨j3, e3, w3, wp⟩ := wp
    refine am_ialdN (j := j3) dX10_numberOf_35 rfl (by decide) e3 w3 (by decide) ?_
    refine am_aload_n rfl rfl dX10_numberOf_36 ?_
    refine am_getA (r := 58) dX10_numberOf_37 flX10_45 (Or.inr ⟨_, rfl⟩) rfl (by decide) rfl ?_
    refine am_iload_n rfl rfl dX10_numberOf_40 ?_
    obtain ⟨j4, e4, w4, wp⟩ := wp
    refine am_ialdN (j := j4) dX10_numberOf_41 rfl (by decide) e4 w4 (by decide) ?_
    refine am_icmp_ge dX10_numberOf_42 (tgt := 49) rfl (fun hc5 => ?_) (fun hc5 => ?_)
    · have wp := wp.1 hc5
      refine am_iconst 0 rfl dX10_numberOf_49 ?_
      refine am_iadd dX10_numberOf_50 ?_
      refine am_istore_n (ls' := [some (.ref 48), some (.int a1), some (.int a2), some (.int (a3 + 0)), some (.int a4)]) rfl (by decide) rfl rfl dX10_numberOf_51 ?_
      refine am_iinc (ls' := [some (.ref 48), some (.int a1), some (.int a2), some (.int (a3 + 0)), some (.int (a4 + 1))]) (by decide) rfl rfl rfl dX10_numberOf_52 ?_
      refine am_goto dX10_numberOf_55 (tgt := 19) rfl ?_
      exact am_R.forget wp ⟨rfl, ⟨rfl, ⟨rfl, ⟨rfl, ⟨rfl, trivial⟩⟩⟩⟩⟩
    · have wp := wp.2 hc5
      refine am_iconst 1 rfl dX10_numberOf_45 ?_
      refine am_goto dX10_numberOf_46 (tgt := 50) rfl ?_
      refine am_iadd dX10_numberOf_50 ?_
      refine am_istore_n (ls' := [some (.ref 48), some (.int a1), some (.int a2), some (.int (a3 + 1)), some (.int a4)]) rfl (by decide) rfl rfl dX10_numberOf_51 ?_
      refine am_iinc (ls' := [some (.ref 48), some (.int a1), some (.int a2), some (.int (a3 + 1)), some (.int (a4 + 1))]) (by decide) rfl rfl rfl dX10_numberOf_52 ?_
      refine am_goto dX10_numberOf_55 (tgt := 19) rfl ?_
      exact am_R.forget wp ⟨rfl, ⟨rfl, ⟨rfl, ⟨rfl, ⟨rfl, trivial⟩⟩⟩⟩⟩
theorem tX10_numberOf {n : Nat} {p : Nat → Nat} (hN : Nn I n) (hR : Rw (I 58) p n) (k : Q (some (.int (nI (rk n p)))) (hp I J b)) : am_R E mX10_numberOf 0 [some (.ref 48), none, none, none, none] [] (hp I J b) 64 64 Q := by
  obtain ⟨h0, h2, h7⟩ := hN
  refine bX10_numberOf_0 (lp_up (n := n) (P := fun m => am_R E mX10_numberOf 4 [some (.ref 48), some (.int (nI (fb_sm (fun m => lsr p n m * fct (n - 1 - m)) m))), some (.int (nI m)), none, none] [] (hp I J b) 64 64 Q) ?_ ?_)
  · exact bX10_numberOf_4 (le_br h0 rfl (by omega) (by omega) (fun _ => k) (fun h => by omega))
  · intro m hm ih
    refine bX10_numberOf_4 (le_br h0 rfl (by omega) (by omega) (fun h => by omega) (fun _ => ?_))
    have inner : ∀ j q, q + j = n → m < q → am_R E mX10_numberOf 19 [some (.ref 48), some (.int (nI (fb_sm (fun m => lsr p n m * fct (n - 1 - m)) m))), some (.int (nI m)), some (.int (nI (fb_ct (fun q => decide (m < q ∧ p q < p m)) q))), some (.int (nI q))] [] (hp I J b) 64 64 Q := by
      intro j
      induction j with
      | zero =>
        intro q hq hmq
        have e : q = n := by omega
        subst e
        refine bX10_numberOf_19 (le_br h0 rfl (by omega) (by omega) (fun _ => ⟨q - 1 - m, ?_, by omega, ?_⟩) (fun h => by omega))
        · rw [h0, show (1 : Int32) = nI 1 from rfl, pk_sub (by omega), pk_sub (by omega)]
        · rw [pk_mul, nI_add, n1]
          exact ih
      | succ j ihj =>
        intro q hq hmq
        refine bX10_numberOf_19 (le_br h0 rfl (by omega) (by omega) (fun h => by omega) (fun _ => ⟨q, rfl, by omega, m, rfl, by omega, le_br (hR m hm).1 (hR q (by omega)).1 (by have := (hR m hm).2; omega) (by have := (hR q (by omega)).2; omega) (fun hle => ?_) (fun hlt => ?_)⟩))
        · have e : fb_ct (fun q => decide (m < q ∧ p q < p m)) (q + 1) = fb_ct (fun q => decide (m < q ∧ p q < p m)) q := by
            rw [fb_ct_succ, decide_eq_false (by omega)]; rfl
          have := ihj (q + 1) (by omega) (by omega)
          rw [e] at this
          rw [n1, show (0 : Int32) = nI 0 from rfl, nI_add]
          exact this
        · have e : fb_ct (fun q => decide (m < q ∧ p q < p m)) (q + 1) = fb_ct (fun q => decide (m < q ∧ p q < p m)) q + 1 := by
            rw [fb_ct_succ, decide_eq_true ⟨hmq, hlt⟩]; rfl
          have := ihj (q + 1) (by omega) (by omega)
          rw [e] at this
          rw [n1, n1]
          exact this
    have z : fb_ct (fun q => decide (m < q ∧ p q < p m)) (m + 1) = 0 := fb_ct_zero.mpr (fun k hk => decide_eq_false (by omega))
    have := inner (n - (m + 1)) (m + 1) (by omega) (by omega)
    rw [z] at this
    rw [n1]
    exact this
/-- of a row of different places: how many hold less behind m are how many are free below -/
theorem ct_below {p : Nat → Nat} {n : Nat} (hp : Pm p n) {v : Nat} (hv : v ≤ n) : fb_ct (fun q => decide (p q < v)) n = v := by
  induction v with
  | zero => exact fb_ct_zero.mpr (fun k _ => decide_eq_false (by omega))
  | succ v ih =>
    have ih := ih (by omega)
    obtain ⟨i, hi, hiv⟩ := fb_onto (f := p) hp.1 hp.2 (y := v) (by omega)
    have u := fb_ct_upd (fun q => decide (p q < v)) true hi
    have e : fb_ct (fun q => decide (p q < v + 1)) n = fb_ct (fun k => if k = i then true else decide (p k < v)) n := by
      apply fb_ct_cong
      intro q hq
      by_cases z : q = i
      · rw [if_pos z, z, hiv]; exact decide_eq_true (by omega)
      · rw [if_neg z]
        have : p q ≠ v := by
          intro hz
          rcases Nat.lt_or_ge q i with w | w
          · exact hp.2 q i w hi (by rw [hz, hiv])
          · exact hp.2 i q (by omega) hq (by rw [hz, hiv])
        by_cases w : p q < v
        · rw [decide_eq_true w, decide_eq_true (by omega)]
        · rw [decide_eq_false w, decide_eq_false (by omega)]
    rw [e]
    have f0 : decide (p i < v) = false := decide_eq_false (by omega)
    rw [f0] at u
    simp only [Bool.false_eq_true, if_false, if_true] at u
    omega
/-- of the first m places those that hold less than v are as many as the taken ones below v -/
theorem ct_taken {p : Nat → Nat} {v : Nat} : ∀ m, (∀ i j, i < j → j < m → p i ≠ p j) → fb_ct (fre p m) v + fb_ct (fun q => decide (p q < v)) m = v
  | 0, _ => by
    have : fb_ct (fre p 0) v = v := fb_ct_all.mpr (fun k _ => fre_t.mpr (fun i hi => by omega))
    rw [this]; rfl
  | m + 1, h => by
    have ih := ct_taken (v := v) m (fun i j hi hj => h i j hi (by omega))
    have e : fb_ct (fre p (m + 1)) v = fb_ct (fun k => if k = p m then false else fre p m k) v := fb_ct_cong (fun k _ => fre_s)
    have hf : fre p m (p m) = true := fre_t.mpr (fun i hi => h i m hi (by omega))
    rw [e, fb_ct_succ]
    rcases Nat.lt_or_ge (p m) v with q | q
    · have u := fb_ct_upd (fre p m) false q
      rw [hf] at u
      simp only [Bool.false_eq_true, if_false, if_true] at u
      rw [decide_eq_true q]
      simp only [if_true]
      omega
    · rw [fb_ct_out _ _ q, decide_eq_false (by omega)]
      simp only [Bool.false_eq_true, if_false]
      omega
theorem lsr_fre {p : Nat → Nat} {n m : Nat} (hp : Pm p n) (hm : m < n) : lsr p n m = fb_ct (fre p m) (p m) := by
  have h1 := ct_below hp (v := p m) (Nat.le_of_lt (hp.1 m hm))
  have h2 := ct_taken (p := p) (v := p m) m (fun i j hi hj => hp.2 i j hi (by omega))
  -- split the count at m
  have h3 := fb_ct_split (fun q => decide (p q < p m)) m (n - m)
  rw [show m + (n - m) = n by omega] at h3
  have h4 := fb_ct_split (fun q => decide (m < q ∧ p q < p m)) m (n - m)
  rw [show m + (n - m) = n by omega] at h4
  have h5 : fb_ct (fun q => decide (m < q ∧ p q < p m)) m = 0 := fb_ct_zero.mpr (fun k hk => decide_eq_false (by omega))
  have h6 : fb_ct (fun k => decide (m < m + k ∧ p (m + k) < p m)) (n - m) = fb_ct (fun k => decide (p (m + k) < p m)) (n - m) := by
    apply fb_ct_cong
    intro k hk
    by_cases z : k = 0
    · subst z; simp
    · have : m < m + k := by omega
      simp [this]
  unfold lsr
  omega
theorem lsr_lt {p : Nat → Nat} {n m : Nat} (hm : m < n) : lsr p n m ≤ n - 1 - m := by
  unfold lsr
  have h4 := fb_ct_split (fun q => decide (m < q ∧ p q < p m)) (m + 1) (n - (m + 1))
  rw [show m + 1 + (n - (m + 1)) = n by omega] at h4
  have h5 : fb_ct (fun q => decide (m < q ∧ p q < p m)) (m + 1) = 0 := fb_ct_zero.mpr (fun k hk => decide_eq_false (by omega))
  have h6 := fb_ct_le (fun k => decide (m < m + 1 + k ∧ p (m + 1 + k) < p m)) (n - (m + 1))
  omega
theorem rk_lt {p : Nat → Nat} {n : Nat} : rk n p < fct n := by
  have key : ∀ j m, m + j = n → fb_sm (fun m => lsr p n m * fct (n - 1 - m)) n < fb_sm (fun m => lsr p n m * fct (n - 1 - m)) m + fct j := by
    intro j
    induction j with
    | zero => intro m hm; rw [show m = n by omega]; simp [fct]
    | succ j ih =>
      intro m hm
      have h1 := ih (m + 1) (by omega)
      rw [fb_sm_succ] at h1
      have h2 := lsr_lt (p := p) (n := n) (m := m) (by omega)
      rw [show n - 1 - m = j by omega] at h1 h2
      have h3 : lsr p n m * fct j + fct j ≤ fct (j + 1) := by
        show _ ≤ fct j * (j + 1)
        have : (lsr p n m + 1) * fct j ≤ (j + 1) * fct j := Nat.mul_le_mul_right _ (by omega)
        rw [Nat.add_mul, Nat.one_mul] at this
        rw [Nat.mul_comm (fct j)]
        exact this
      omega
  have := key n 0 (by omega)
  simpa [rk, fb_sm] using this
theorem rk_cong {p q : Nat → Nat} {n : Nat} (h : ∀ i, i < n → p i = q i) : rk n p = rk n q := by
  unfold rk
  apply fb_sm_cong
  intro m hm
  congr 1
  unfold lsr
  apply fb_ct_cong
  intro k hk
  rw [h k hk, h m hm]
end M5
