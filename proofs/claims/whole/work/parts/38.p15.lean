/-! ===== bits of longs ===== -/
section P15
variable {E : Nat × (Nat → Int32)} {I I' : Nat → Nat → Int32} {J : Nat → Nat → Int64} {b : Bool} {n : Nat} {Q : Option Value → am_H → Prop}
def bj (x : Int64) (i : Nat) : Bool := x.toBitVec.getLsbD i
theorem one_tw : ∀ i, i < 64 → ((1 : Int64) <<< (Int32.toInt64 (nI i) &&& 63)).toBitVec = BitVec.twoPow 64 i := by decide +kernel
theorem bj_0 (i : Nat) : bj 0 i = false := by
  unfold bj
  rw [show (0 : Int64).toBitVec = 0#64 from rfl, BitVec.getLsbD_zero]
theorem bj_test {x : Int64} {i : Nat} (hi : i < 64) : lg_cmp (x &&& ((1 : Int64) <<< (Int32.toInt64 (nI i) &&& 63))) 0 = 0 ↔ bj x i = false := by
  rw [lg_cmp_eq, ← Int64.toBitVec_inj, Int64.toBitVec_and, one_tw i hi, BitVec.and_twoPow]
  unfold bj
  cases h : x.toBitVec.getLsbD i with
  | true =>
    simp only [if_true]
    refine ⟨fun q => ?_, fun q => by cases q⟩
    have := congrArg (fun v => v.getLsbD i) q
    simp [BitVec.getLsbD_twoPow, hi] at this
  | false => exact ⟨fun _ => rfl, fun _ => rfl⟩
theorem bj_or {x : Int64} {i j : Nat} (hi : i < 64) : bj (x ||| ((1 : Int64) <<< (Int32.toInt64 (nI i) &&& 63))) j = (bj x j || decide (i = j)) := by
  unfold bj
  rw [Int64.toBitVec_or, one_tw i hi, BitVec.getLsbD_or, BitVec.getLsbD_twoPow]
  simp [hi]
/-- the lowest set bit -/
def Lw {w : Nat} (v : BitVec w) (t : Nat) : Prop := t < w ∧ v.getLsbD t = true ∧ ∀ j, j < t → v.getLsbD j = false
theorem lw_ex {w : Nat} {v : BitVec w} (h : v ≠ 0#w) : ∃ t, Lw v t := by
  have : ∃ i, i < w ∧ v.getLsbD i = true := by
    by_cases q : ∃ i, i < w ∧ v.getLsbD i = true
    · exact q
    · exfalso
      apply h
      apply BitVec.eq_of_getLsbD_eq
      intro i hi
      rw [BitVec.getLsbD_zero]
      cases hv : v.getLsbD i with
      | false => rfl
      | true => exact absurd ⟨i, hi, hv⟩ q
  obtain ⟨i, h1, h2⟩ := this
  have key : ∀ k i, i ≤ k → i < w → v.getLsbD i = true → ∃ t, Lw v t := by
    intro k
    induction k with
    | zero => intro i hi hw hv; exact ⟨i, hw, hv, fun j hj => by omega⟩
    | succ k ih =>
      intro i hi hw hv
      by_cases q : ∃ j, j < i ∧ v.getLsbD j = true
      · obtain ⟨j, hj, hvj⟩ := q
        exact ih j (by omega) (by omega) hvj
      · refine ⟨i, hw, hv, fun j hj => ?_⟩
        cases hvj : v.getLsbD j with
        | false => rfl
        | true => exact absurd ⟨j, hj, hvj⟩ q
  exact key i i (Nat.le_refl _) h1 h2
theorem nat_pred_bits {a t : Nat} (h0 : ∀ j, j < t → a.testBit j = false) (h1 : a.testBit t = true) (j : Nat) : (a - 1).testBit j = (if j < t then true else if j = t then false else a.testBit j) := by
  have hm : a % 2 ^ t = 0 := by
    apply Nat.eq_of_testBit_eq
    intro i
    rw [Nat.testBit_mod_two_pow, Nat.zero_testBit]
    by_cases q : i < t
    · rw [h0 i q, Bool.and_false]
    · simp [q]
  have hb : a / 2 ^ t % 2 = 1 := by
    have := h1
    rw [Nat.testBit_eq_decide_div_mod_eq] at this
    exact of_decide_eq_true this
  generalize hq : a / 2 ^ t / 2 = q
  have ha : a = 2 ^ t * (2 * q + 1) := by
    have d1 := Nat.div_add_mod a (2 ^ t)
    rw [hm, Nat.add_zero] at d1
    have d2 := Nat.div_add_mod (a / 2 ^ t) 2
    rw [hb, hq] at d2
    rw [d2]
    exact d1.symm
  have hp : 0 < 2 ^ t := Nat.two_pow_pos t
  have ha1 : a - 1 = 2 ^ t * (2 * q) + (2 ^ t - 1) := by
    rw [ha, Nat.mul_add, Nat.mul_one]
    omega
  rw [ha1, Nat.testBit_two_pow_mul_add _ (by omega)]
  by_cases z : j < t
  · rw [if_pos z, if_pos z, Nat.testBit_two_pow_sub_one]
    exact decide_eq_true z
  · rw [if_neg z, if_neg z]
    by_cases y : j = t
    · rw [if_pos y, y, Nat.sub_self, Nat.testBit_zero]
      exact decide_eq_false (by omega)
    · rw [if_neg y]
      obtain ⟨k, hk⟩ : ∃ k, j - t = k + 1 := ⟨j - t - 1, by omega⟩
      have e2 : a.testBit j = (2 * q + 1).testBit (j - t) := by
        have := Nat.testBit_two_pow_mul_add (i := t) (2 * q + 1) hp j
        rw [Nat.add_zero, ← ha, if_neg z] at this
        exact this
      rw [e2, hk, Nat.testBit_succ, Nat.testBit_succ, show 2 * q / 2 = q by omega, show (2 * q + 1) / 2 = q by omega]
theorem lw_pred {w : Nat} {v : BitVec w} {t : Nat} (h : Lw v t) (j : Nat) (hj : j < w) : (v - 1#w).getLsbD j = (if j < t then true else if j = t then false else v.getLsbD j) := by
  obtain ⟨h0, h1, h2⟩ := h
  have hpos : 1 ≤ v.toNat := by
    rcases Nat.eq_zero_or_pos v.toNat with z | z
    · exfalso
      have : v = 0#w := BitVec.eq_of_toNat_eq (by rw [z]; simp)
      rw [this, BitVec.getLsbD_zero] at h1
      cases h1
    · exact z
  have e : (v - 1#w).toNat = v.toNat - 1 := by
    have hlt := v.isLt
    have h1w : 1 < 2 ^ w := Nat.one_lt_two_pow (by omega)
    rw [BitVec.toNat_sub, BitVec.toNat_ofNat, Nat.mod_eq_of_lt h1w]
    rw [show 2 ^ w - 1 + v.toNat = (v.toNat - 1) + 2 ^ w by omega, Nat.add_mod_right, Nat.mod_eq_of_lt (by omega)]
  have g : ∀ (u : BitVec w) (i : Nat), u.getLsbD i = u.toNat.testBit i := fun u i => rfl
  rw [g, e, nat_pred_bits (t := t) (fun j hj => h2 j hj) h1 j]
  rfl
theorem bj_clr {x : Int64} {t j : Nat} (h : Lw x.toBitVec t) (hj : j < 64) : bj (x &&& (x - 1)) j = (bj x j && decide (j ≠ t)) := by
  unfold bj
  rw [Int64.toBitVec_and, Int64.toBitVec_sub, BitVec.getLsbD_and, show (1 : Int64).toBitVec = 1#64 from rfl, lw_pred h j hj]
  by_cases z : j < t
  · rw [if_pos z, h.2.2 j z]; rfl
  · rw [if_neg z]
    by_cases y : j = t
    · rw [if_pos y]; simp [y]
    · rw [if_neg y]; simp [y]
theorem bJ6_numberOfTrailingZeros_0f7a4_0 {E : Nat × (Nat → Int32)} {I : Nat → Nat → Int32} {J : Nat → Nat → Int64} {b : Bool} {a0 : Int32} {Q : Option Value → am_H → Prop}  (wp : ((0 < ((a0 ^^^ (-1)) &&& (a0 - 1)) → am_R E mJ6_numberOfTrailingZeros_0f7a4 17 [some (.int ((a0 ^^^ (-1)) &&& (a0 - 1))), none] [] (hp I J b) 64 64 Q) ∧ (¬ 0 < ((a0 ^^^ (-1)) &&& (a0 - 1)) → Q (some (.int (((a0 ^^^ (-1)) &&& (a0 - 1)) &&& 32))) (hp I J b)))) : am_R E mJ6_numberOfTrailingZeros_0f7a4 0 [some (.int a0), none] [] (hp I J b) 64 64 Q := by
  refine am_iload_n rfl rfl dJ6_numberOfTrailingZeros_0f7a4_0 ?_
  refine am_iconst (-1) rfl dJ6_numberOfTrailingZeros_0f7a4_1 ?_
  refine am_ixor dJ6_numberOfTrailingZeros_0f7a4_2 ?_
  refine am_iload_n rfl rfl dJ6_numberOfTrailingZeros_0f7a4_3 ?_
  refine am_iconst 1 rfl dJ6_numberOfTrailingZeros_0f7a4_4 ?_
  refine am_isub dJ6_numberOfTrailingZeros_0f7a4_5 ?_
  refine am_iand dJ6_numberOfTrailingZeros_0f7a4_6 ?_
  refine am_istore_n (ls' := [some (.int ((a0 ^^^ (-1)) &&& (a0 - 1))), none]) rfl (by decide) rfl rfl dJ6_numberOfTrailingZeros_0f7a4_7 ?_
  refine am_iload_n rfl rfl dJ6_numberOfTrailingZeros_0f7a4_8 ?_
  refine am_if_gt dJ6_numberOfTrailingZeros_0f7a4_9 (tgt := 17) rfl (fun hc1 => ?_) (fun hc1 => ?_)
  · have wp := wp.1 hc1
    exact am_R.forget wp ⟨rfl, trivial⟩
  · have wp := wp.2 hc1
    refine am_iload_n rfl rfl dJ6_numberOfTrailingZeros_0f7a4_12 ?_
    refine am_bipush 32 rfl dJ6_numberOfTrailingZeros_0f7a4_13 ?_
    refine am_iand dJ6_numberOfTrailingZeros_0f7a4_15 ?_
    exact am_iret dJ6_numberOfTrailingZeros_0f7a4_16 rfl rfl wp
theorem bJ6_numberOfTrailingZeros_0f7a4_17 {E : Nat × (Nat → Int32)} {I : Nat → Nat → Int32} {J : Nat → Nat → Int64} {b : Bool} {a0 : Int32} {Q : Option Value → am_H → Prop}  (wp : ((a0 ≤ 65536 → am_R E mJ6_numberOfTrailingZeros_0f7a4 34 [some (.int a0), some (.int 1)] [] (hp I J b) 64 64 Q) ∧ (¬ a0 ≤ 65536 → am_R E mJ6_numberOfTrailingZeros_0f7a4 34 [some (.int (Int32.toUInt32 a0 >>> (Int32.toUInt32 16 &&& Int32.toUInt32 31)).toInt32), some (.int (1 + 16))] [] (hp I J b) 64 64 Q))) : am_R E mJ6_numberOfTrailingZeros_0f7a4 17 [some (.int a0), none] [] (hp I J b) 64 64 Q := by
  refine am_iconst 1 rfl dJ6_numberOfTrailingZeros_0f7a4_17 ?_
  refine am_istore_n (ls' := [some (.int a0), some (.int 1)]) rfl (by decide) rfl rfl dJ6_numberOfTrailingZeros_0f7a4_18 ?_
  refine am_iload_n rfl rfl dJ6_numberOfTrailingZeros_0f7a4_19 ?_
  refine am_ldcw 65536 kcJ6_264 dJ6_numberOfTrailingZeros_0f7a4_20 ?_
  refine am_icmp_le dJ6_numberOfTrailingZeros_0f7a4_23 (tgt := 34) rfl (fun hc1 => ?_) (fun hc1 => ?_)
  · have wp := wp.1 hc1
    exact am_R.forget wp ⟨rfl, ⟨rfl, trivial⟩⟩
  · have wp := wp.2 hc1
    refine am_iinc (ls' := [some (.int a0), some (.int (1 + 16))]) (by decide) rfl rfl rfl dJ6_numberOfTrailingZeros_0f7a4_26 ?_
    refine am_iload_n rfl rfl dJ6_numberOfTrailingZeros_0f7a4_29 ?_
    refine am_bipush 16 rfl dJ6_numberOfTrailingZeros_0f7a4_30 ?_
    refine am_iushr dJ6_numberOfTrailingZeros_0f7a4_32 ?_
    refine am_istore_n (ls' := [some (.int (Int32.toUInt32 a0 >>> (Int32.toUInt32 16 &&& Int32.toUInt32 31)).toInt32), some (.int (1 + 16))]) rfl (by decide) rfl rfl dJ6_numberOfTrailingZeros_0f7a4_33 ?_
    exact am_R.forget wp ⟨rfl, ⟨rfl, trivial⟩⟩
theorem bJ6_numberOfTrailingZeros_0f7a4_34 {E : Nat × (Nat → Int32)} {I : Nat → Nat → Int32} {J : Nat → Nat → Int64} {b : Bool} {a0 : Int32} {a1 : Int32} {Q : Option Value → am_H → Prop}  (wp : ((a0 ≤ 256 → am_R E mJ6_numberOfTrailingZeros_0f7a4 49 [some (.int a0), some (.int a1)] [] (hp I J b) 64 64 Q) ∧ (¬ a0 ≤ 256 → am_R E mJ6_numberOfTrailingZeros_0f7a4 49 [some (.int (Int32.toUInt32 a0 >>> (Int32.toUInt32 8 &&& Int32.toUInt32 31)).toInt32), some (.int (a1 + 8))] [] (hp I J b) 64 64 Q))) : am_R E mJ6_numberOfTrailingZeros_0f7a4 34 [some (.int a0), some (.int a1)] [] (hp I J b) 64 64 Q := by
  refine am_iload_n rfl rfl dJ6_numberOfTrailingZeros_0f7a4_34 ?_
  refine am_sipush 256 rfl dJ6_numberOfTrailingZeros_0f7a4_35 ?_
  refine am_icmp_le dJ6_numberOfTrailingZeros_0f7a4_38 (tgt := 49) rfl (fun hc1 => ?_) (fun hc1 => ?_)
  · have wp := wp.1 hc1
    exact am_R.forget wp ⟨rfl, ⟨rfl, trivial⟩⟩
  · have wp := wp.2 hc1
    refine am_iinc (ls' := [some (.int a0), some (.int (a1 + 8))]) (by decide) rfl rfl rfl dJ6_numberOfTrailingZeros_0f7a4_41 ?_
    refine am_iload_n rfl rfl dJ6_numberOfTrailingZeros_0f7a4_44 ?_
    refine am_bipush 8 rfl dJ6_numberOfTrailingZeros_0f7a4_45 ?_
    refine am_iushr dJ6_numberOfTrailingZeros_0f7a4_47 ?_
    refine am_istore_n (ls' := [some (.int (Int32.toUInt32 a0 >>> (Int32.toUInt32 8 &&& Int32.toUInt32 31)).toInt32), some (.int (a1 + 8))]) rfl (by decide) rfl rfl dJ6_numberOfTrailingZeros_0f7a4_48 ?_
    exact am_R.forget wp ⟨rfl, ⟨rfl, trivial⟩⟩
theorem bJ6_numberOfTrailingZeros_0f7a4_49 {E : Nat × (Nat → Int32)} {I : Nat → Nat → Int32} {J : Nat → Nat → Int64} {b : Bool} {a0 : Int32} {a1 : Int32} {Q : Option Value → am_H → Prop}  (wp : ((a0 ≤ 16 → am_R E mJ6_numberOfTrailingZeros_0f7a4 62 [some (.int a0), some (.int a1)] [] (hp I J b) 64 64 Q) ∧ (¬ a0 ≤ 16 → am_R E mJ6_numberOfTrailingZeros_0f7a4 62 [some (.int (Int32.toUInt32 a0 >>> (Int32.toUInt32 4 &&& Int32.toUInt32 31)).toInt32), some (.int (a1 + 4))] [] (hp I J b) 64 64 Q))) : am_R E mJ6_numberOfTrailingZeros_0f7a4 49 [some (.int a0), some (.int a1)] [] (hp I J b) 64 64 Q := by
  refine am_iload_n rfl rfl dJ6_numberOfTrailingZeros_0f7a4_49 ?_
  refine am_bipush 16 rfl dJ6_numberOfTrailingZeros_0f7a4_50 ?_
  refine am_icmp_le dJ6_numberOfTrailingZeros_0f7a4_52 (tgt := 62) rfl (fun hc1 => ?_) (fun hc1 => ?_)
  · have wp := wp.1 hc1
    exact am_R.forget wp ⟨rfl, ⟨rfl, trivial⟩⟩
  · have wp := wp.2 hc1
    refine am_iinc (ls' := [some (.int a0), some (.int (a1 + 4))]) (by decide) rfl rfl rfl dJ6_numberOfTrailingZeros_0f7a4_55 ?_
    refine am_iload_n rfl rfl dJ6_numberOfTrailingZeros_0f7a4_58 ?_
    refine am_iconst 4 rfl dJ6_numberOfTrailingZeros_0f7a4_59 ?_
    refine am_iushr dJ6_numberOfTrailingZeros_0f7a4_60 ?_
    refine am_istore_n (ls' := [some (.int (Int32.toUInt32 a0 >>> (Int32.toUInt32 4 &&& Int32.toUInt32 31)).toInt32), some (.int (a1 + 4))]) rfl (by decide) rfl rfl dJ6_numberOfTrailingZeros_0f7a4_61 ?_
    exact am_R.forget wp ⟨rfl, ⟨rfl, trivial⟩⟩
theorem bJ6_numberOfTrailingZeros_0f7a4_62 {E : Nat × (Nat → Int32)} {I : Nat → Nat → Int32} {J : Nat → Nat → Int64} {b : Bool} {a0 : Int32} {a1 : Int32} {Q : Option Value → am_H → Prop}  (wp : ((a0 ≤ 4 → am_R E mJ6_numberOfTrailingZeros_0f7a4 74 [some (.int a0), some (.int a1)] [] (hp I J b) 64 64 Q) ∧ (¬ a0 ≤ 4 → am_R E mJ6_numberOfTrailingZeros_0f7a4 74 [some (.int (Int32.toUInt32 a0 >>> (Int32.toUInt32 2 &&& Int32.toUInt32 31)).toInt32), some (.int (a1 + 2))] [] (hp I J b) 64 64 Q))) : am_R E mJ6_numberOfTrailingZeros_0f7a4 62 [some (.int a0), some (.int a1)] [] (hp I J b) 64 64 Q := by
  refine am_iload_n rfl rfl dJ6_numberOfTrailingZeros_0f7a4_62 ?_
  refine am_iconst 4 rfl dJ6_numberOfTrailingZeros_0f7a4_63 ?_
  refine am_icmp_le dJ6_numberOfTrailingZeros_0f7a4_64 (tgt := 74) rfl (fun hc1 => ?_) (fun hc1 => ?_)
  · have wp := wp.1 hc1
    exact am_R.forget wp ⟨rfl, ⟨rfl, trivial⟩⟩
  · have wp := wp.2 hc1
    refine am_iinc (ls' := [some (.int a0), some (.int (a1 + 2))]) (by decide) rfl rfl rfl dJ6_numberOfTrailingZeros_0f7a4_67 ?_
    refine am_iload_n rfl rfl dJ6_numberOfTrailingZeros_0f7a4_70 ?_
    refine am_iconst 2 rfl dJ6_numberOfTrailingZeros_0f7a4_71 ?_
    refine am_iushr dJ6_numberOfTrailingZeros_0f7a4_72 ?_
    refine am_istore_n (ls' := [some (.int (Int32.toUInt32 a0 >>> (Int32.toUInt32 2 &&& Int32.toUInt32 31)).toInt32), some (.int (a1 + 2))]) rfl (by decide) rfl rfl dJ6_numberOfTrailingZeros_0f7a4_73 ?_
    exact am_R.forget wp ⟨rfl, ⟨rfl, trivial⟩⟩
theorem bJ6_numberOfTrailingZeros_0f7a4_74 {E : Nat × (Nat → Int32)} {I : Nat → Nat → Int32} {J : Nat → Nat → Int64} {b : Bool} {a0 : Int32} {a1 : Int32} {Q : Option Value → am_H → Prop}  (wp : Q (some (.int (a1 + (Int32.toUInt32 a0 >>> (Int32.toUInt32 1 &&& Int32.toUInt32 31)).toInt32))) (hp I J b)) : am_R E mJ6_numberOfTrailingZeros_0f7a4 74 [some (.int a0), some (.int a1)] [] (hp I J b) 64 64 Q := by
  refine am_iload_n rfl rfl dJ6_numberOfTrailingZeros_0f7a4_74 ?_
  refine am_iload_n rfl rfl dJ6_numberOfTrailingZeros_0f7a4_75 ?_
  refine am_iconst 1 rfl dJ6_numberOfTrailingZeros_0f7a4_76 ?_
  refine am_iushr dJ6_numberOfTrailingZeros_0f7a4_77 ?_
  refine am_iadd dJ6_numberOfTrailingZeros_0f7a4_78 ?_
  exact am_iret dJ6_numberOfTrailingZeros_0f7a4_79 rfl rfl wp
theorem low_mask {v : BitVec 32} {t : Nat} (h : Lw v t) : (v ^^^ 0xFFFFFFFF#32) &&& (v - 1#32) = BitVec.ofNat 32 (2 ^ t - 1) := by
  apply BitVec.eq_of_getLsbD_eq
  intro j hj
  have e : (0xFFFFFFFF#32).getLsbD j = true := by
    have : ∀ j, j < 32 → (0xFFFFFFFF#32).getLsbD j = true := by decide +kernel
    exact this j hj
  rw [BitVec.getLsbD_and, lw_pred h j hj, BitVec.getLsbD_xor, e, BitVec.getLsbD_ofNat, Nat.testBit_two_pow_sub_one]
  by_cases z : j < t
  · rw [if_pos z, h.2.2 j z]; simp [z, hj]
  · rw [if_neg z]
    by_cases y : j = t
    · rw [if_pos y]; simp [z, hj]
    · rw [if_neg y]; cases v.getLsbD j <;> simp [z, hj]
/-- one step of the int's method -/
def nzs (k l : Int32) (p : Int32 × Int32) : Int32 × Int32 := if p.1 ≤ l then p else ((Int32.toUInt32 p.1 >>> (Int32.toUInt32 k &&& Int32.toUInt32 31)).toInt32, p.2 + k)
def nzF (m : Int32) : Int32 := (nzs 2 4 (nzs 4 16 (nzs 8 256 (nzs 16 65536 (m, 1))))).2 + (Int32.toUInt32 (nzs 2 4 (nzs 4 16 (nzs 8 256 (nzs 16 65536 (m, 1))))).1 >>> (Int32.toUInt32 1 &&& Int32.toUInt32 31)).toInt32
theorem nzF_ok : ∀ t, t < 32 → 1 ≤ t → nzF (nI (2 ^ t - 1)) = nI t ∧ 0 < nI (2 ^ t - 1) := by decide +kernel
theorem ofbv : ∀ t, t < 32 → (nI (2 ^ t - 1)).toBitVec = BitVec.ofNat 32 (2 ^ t - 1) := by decide +kernel
theorem tJ6_ntz {a0 : Int32} {t : Nat} (h : Lw a0.toBitVec t) (k : Q (some (.int (nI t))) (hp I J b)) : am_R E mJ6_numberOfTrailingZeros_0f7a4 0 [some (.int a0), none] [] (hp I J b) 64 64 Q := by
  have hm : (a0 ^^^ (-1)) &&& (a0 - 1) = nI (2 ^ t - 1) := by
    apply Int32.toBitVec_inj.mp
    rw [Int32.toBitVec_and, Int32.toBitVec_xor, Int32.toBitVec_sub, ofbv t h.1]
    exact low_mask h
  refine bJ6_numberOfTrailingZeros_0f7a4_0 ?_
  rw [hm]
  by_cases z : t = 0
  · subst z
    exact ⟨fun q => absurd q (by decide), fun _ => k⟩
  · obtain ⟨f1, f2⟩ := nzF_ok t h.1 (by omega)
    refine ⟨fun _ => ?_, fun q => absurd f2 q⟩
    rw [← f1] at k
    generalize nI (2 ^ t - 1) = m at k
    have s74 : am_R E mJ6_numberOfTrailingZeros_0f7a4 74 [some (.int (nzs 2 4 (nzs 4 16 (nzs 8 256 (nzs 16 65536 (m, 1))))).1), some (.int (nzs 2 4 (nzs 4 16 (nzs 8 256 (nzs 16 65536 (m, 1))))).2)] [] (hp I J b) 64 64 Q := bJ6_numberOfTrailingZeros_0f7a4_74 k
    have s62 : ∀ p : Int32 × Int32, am_R E mJ6_numberOfTrailingZeros_0f7a4 74 [some (.int (nzs 2 4 p).1), some (.int (nzs 2 4 p).2)] [] (hp I J b) 64 64 Q → am_R E mJ6_numberOfTrailingZeros_0f7a4 62 [some (.int p.1), some (.int p.2)] [] (hp I J b) 64 64 Q := fun p w =>
      bJ6_numberOfTrailingZeros_0f7a4_62 ⟨fun q => by rw [show nzs 2 4 p = p from if_pos q] at w; exact w, fun q => by rw [show nzs 2 4 p = ((Int32.toUInt32 p.1 >>> (Int32.toUInt32 2 &&& Int32.toUInt32 31)).toInt32, p.2 + 2) from if_neg q] at w; exact w⟩
    have s49 : ∀ p : Int32 × Int32, am_R E mJ6_numberOfTrailingZeros_0f7a4 62 [some (.int (nzs 4 16 p).1), some (.int (nzs 4 16 p).2)] [] (hp I J b) 64 64 Q → am_R E mJ6_numberOfTrailingZeros_0f7a4 49 [some (.int p.1), some (.int p.2)] [] (hp I J b) 64 64 Q := fun p w =>
      bJ6_numberOfTrailingZeros_0f7a4_49 ⟨fun q => by rw [show nzs 4 16 p = p from if_pos q] at w; exact w, fun q => by rw [show nzs 4 16 p = ((Int32.toUInt32 p.1 >>> (Int32.toUInt32 4 &&& Int32.toUInt32 31)).toInt32, p.2 + 4) from if_neg q] at w; exact w⟩
    have s34 : ∀ p : Int32 × Int32, am_R E mJ6_numberOfTrailingZeros_0f7a4 49 [some (.int (nzs 8 256 p).1), some (.int (nzs 8 256 p).2)] [] (hp I J b) 64 64 Q → am_R E mJ6_numberOfTrailingZeros_0f7a4 34 [some (.int p.1), some (.int p.2)] [] (hp I J b) 64 64 Q := fun p w =>
      bJ6_numberOfTrailingZeros_0f7a4_34 ⟨fun q => by rw [show nzs 8 256 p = p from if_pos q] at w; exact w, fun q => by rw [show nzs 8 256 p = ((Int32.toUInt32 p.1 >>> (Int32.toUInt32 8 &&& Int32.toUInt32 31)).toInt32, p.2 + 8) from if_neg q] at w; exact w⟩
    have w := s34 _ (s49 _ (s62 _ s74))
    refine bJ6_numberOfTrailingZeros_0f7a4_17 ⟨fun q => by rw [show nzs 16 65536 (m, 1) = (m, 1) from if_pos q] at w; exact w, fun q => by rw [show nzs 16 65536 (m, 1) = ((Int32.toUInt32 m >>> (Int32.toUInt32 16 &&& Int32.toUInt32 31)).toInt32, 1 + 16) from if_neg q] at w; exact w⟩
theorem bJ13_numberOfTrailingZeros_95d88_0 {E : Nat × (Nat → Int32)} {I : Nat → Nat → Int32} {J : Nat → Nat → Int64} {b : Bool} {a0 : Int64} {Q : Option Value → am_H → Prop}  (wp : ((¬ (Int64.toInt32 a0) = 0 → am_R E mJ6_numberOfTrailingZeros_0f7a4 0 [some (.int (Int64.toInt32 a0)), none] [] (hp I J b) 64 64 (fun r h' => am_R E mJ13_numberOfTrailingZeros_95d88 25 [none, none, none] (r.toList ++ []) h' 64 64 Q)) ∧ ((Int64.toInt32 a0) = 0 → am_R E mJ6_numberOfTrailingZeros_0f7a4 0 [some (.int (Int64.toInt32 (Int64.toUInt64 a0 >>> ((Int32.toInt64 32).toUInt64 &&& Int64.toUInt64 63)).toInt64)), none] [] (hp I J b) 64 64 (fun r h' => am_R E mJ13_numberOfTrailingZeros_95d88 17 [none, none, none] (r.toList ++ [.int 32]) h' 64 64 Q)))) : am_R E mJ13_numberOfTrailingZeros_95d88 0 [some (.long a0), none, none] [] (hp I J b) 64 64 Q := by
  refine am_lload_n rfl rfl dJ13_numberOfTrailingZeros_95d88_0 ?_
  refine am_l2i dJ13_numberOfTrailingZeros_95d88_1 ?_
  refine am_istore_n (ls' := [some (.long a0), none, some (.int (Int64.toInt32 a0))]) rfl (by decide) rfl rfl dJ13_numberOfTrailingZeros_95d88_2 ?_
  refine am_iload_n rfl rfl dJ13_numberOfTrailingZeros_95d88_3 ?_
  refine am_if_ne dJ13_numberOfTrailingZeros_95d88_4 (tgt := 21) rfl (fun hc1 => ?_) (fun hc1 => ?_)
  · have wp := wp.1 hc1
    refine am_iload_n rfl rfl dJ13_numberOfTrailingZeros_95d88_21 ?_
    refine am_invS (As := [.int (Int64.toInt32 a0)]) (lsZ := [some (.int (Int64.toInt32 a0)), none]) (st := []) dJ13_numberOfTrailingZeros_95d88_22 hJ6_numberOfTrailingZeros_0f7a4 lkJ13_311 ⟨by decide, by decide⟩ rfl rfl (Nat.le_of_ble_eq_true rfl) rfl (Nat.le_of_ble_eq_true rfl) ⟨Nat.le_refl _, Nat.le_refl _⟩ (am_R.mono wp (fun r h' q => am_R.forget q trivial))
  · have wp := wp.2 hc1
    refine am_bipush 32 rfl dJ13_numberOfTrailingZeros_95d88_7 ?_
    refine am_lload_n rfl rfl dJ13_numberOfTrailingZeros_95d88_9 ?_
    refine am_bipush 32 rfl dJ13_numberOfTrailingZeros_95d88_10 ?_
    refine am_lushr dJ13_numberOfTrailingZeros_95d88_12 ?_
    refine am_l2i dJ13_numberOfTrailingZeros_95d88_13 ?_
    refine am_invS (As := [.int (Int64.toInt32 (Int64.toUInt64 a0 >>> ((Int32.toInt64 32).toUInt64 &&& Int64.toUInt64 63)).toInt64)]) (lsZ := [some (.int (Int64.toInt32 (Int64.toUInt64 a0 >>> ((Int32.toInt64 32).toUInt64 &&& Int64.toUInt64 63)).toInt64)), none]) (st := [.int 32]) dJ13_numberOfTrailingZeros_95d88_14 hJ6_numberOfTrailingZeros_0f7a4 lkJ13_311 ⟨by decide, by decide⟩ rfl rfl (Nat.le_of_ble_eq_true rfl) rfl (Nat.le_of_ble_eq_true rfl) ⟨Nat.le_refl _, Nat.le_refl _⟩ (am_R.mono wp (fun r h' q => am_R.forget q trivial))
theorem bJ13_numberOfTrailingZeros_95d88_17 {E : Nat × (Nat → Int32)} {I : Nat → Nat → Int32} {J : Nat → Nat → Int64} {b : Bool} {x0 : Int32} {x1 : Int32} {Q : Option Value → am_H → Prop}  (wp : Q (some (.int (x1 + x0))) (hp I J b)) : am_R E mJ13_numberOfTrailingZeros_95d88 17 [none, none, none] [.int x0, .int x1] (hp I J b) 64 64 Q := by
  refine am_iadd dJ13_numberOfTrailingZeros_95d88_17 ?_
  refine am_goto dJ13_numberOfTrailingZeros_95d88_18 (tgt := 25) rfl ?_
  exact am_iret dJ13_numberOfTrailingZeros_95d88_25 rfl rfl wp
theorem bJ13_numberOfTrailingZeros_95d88_25 {E : Nat × (Nat → Int32)} {I : Nat → Nat → Int32} {J : Nat → Nat → Int64} {b : Bool} {x0 : Int32} {Q : Option Value → am_H → Prop}  (wp : Q (some (.int x0)) (hp I J b)) : am_R E mJ13_numberOfTrailingZeros_95d88 25 [none, none, none] [.int x0] (hp I J b) 64 64 Q := by
  exact am_iret dJ13_numberOfTrailingZeros_95d88_25 rfl rfl wp
theorem bv_low {x : Int64} {j : Nat} (hj : j < 32) : x.toInt32.toBitVec.getLsbD j = x.toBitVec.getLsbD j := by
  rw [Int64.toBitVec_toInt32, BitVec.getLsbD_signExtend]
  simp [hj, show j < 64 by omega]
theorem bv_high {x : Int64} {j : Nat} (hj : j < 32) : ((Int64.toUInt64 x >>> ((Int32.toInt64 32).toUInt64 &&& Int64.toUInt64 63)).toInt64).toInt32.toBitVec.getLsbD j = x.toBitVec.getLsbD (32 + j) := by
  rw [bv_low hj]
  have e : (Int64.toUInt64 x >>> ((Int32.toInt64 32).toUInt64 &&& Int64.toUInt64 63)).toInt64.toBitVec = x.toBitVec >>> 32 := by
    show ((Int64.toUInt64 x >>> ((Int32.toInt64 32).toUInt64 &&& Int64.toUInt64 63))).toBitVec = _
    rw [UInt64.toBitVec_shiftRight]
    rfl
  rw [e, BitVec.getLsbD_ushiftRight]
theorem tJ13_ntz {x : Int64} {t : Nat} (h : Lw x.toBitVec t) (k : Q (some (.int (nI t))) (hp I J b)) : am_R E mJ13_numberOfTrailingZeros_95d88 0 [some (.long x), none, none] [] (hp I J b) 64 64 Q := by
  obtain ⟨h0, h1, h2⟩ := h
  by_cases z : t < 32
  · have hl : Lw x.toInt32.toBitVec t := ⟨z, by rw [bv_low z]; exact h1, fun j hj => by rw [bv_low (by omega)]; exact h2 j hj⟩
    have nz : ¬ x.toInt32 = 0 := fun q => by
      have := hl.2.1
      rw [q, show (0 : Int32).toBitVec = 0#32 from rfl, BitVec.getLsbD_zero] at this
      cases this
    exact bJ13_numberOfTrailingZeros_95d88_0 ⟨fun _ => tJ6_ntz hl (bJ13_numberOfTrailingZeros_95d88_25 k), fun q => absurd q nz⟩
  · have hl : Lw ((Int64.toUInt64 x >>> ((Int32.toInt64 32).toUInt64 &&& Int64.toUInt64 63)).toInt64).toInt32.toBitVec (t - 32) := ⟨by omega, by rw [bv_high (by omega), show 32 + (t - 32) = t by omega]; exact h1, fun j hj => by rw [bv_high (by omega)]; exact h2 _ (by omega)⟩
    have nz : x.toInt32 = 0 := by
      apply Int32.toBitVec_inj.mp
      apply BitVec.eq_of_getLsbD_eq
      intro j hj
      rw [bv_low hj, h2 j (by omega), show (0 : Int32).toBitVec = 0#32 from rfl, BitVec.getLsbD_zero]
    refine bJ13_numberOfTrailingZeros_95d88_0 ⟨fun q => absurd nz q, fun _ => tJ6_ntz hl (bJ13_numberOfTrailingZeros_95d88_17 ?_)⟩
    rw [show (32 : Int32) = nI 32 from rfl, nI_add, show 32 + (t - 32) = t by omega]
    exact k
end P15
