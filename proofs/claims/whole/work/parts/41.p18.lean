/-! ===== words ===== -/
section P18
variable {E : Nat × (Nat → Int32)} {I I' : Nat → Nat → Int32} {J J' : Nat → Nat → Int64} {b : Bool} {n : Nat} {Q : Option Value → am_H → Prop}
theorem tJ3_checkIndex {a0 a1 : Int32} {v : Value} (h0 : ¬ a0 < 0) (h1 : a0 < a1) (k : Q (some (.int a0)) (hp I J b)) : am_R E mJ3_checkIndex_8e157 0 [some (.int a0), some (.int a1), some v] [] (hp I J b) 64 64 Q := by
  refine am_iload_n rfl rfl dJ3_checkIndex_8e157_0 ?_
  refine am_if_lt dJ3_checkIndex_8e157_1 (tgt := 9) rfl (fun hc => absurd hc h0) (fun _ => ?_)
  refine am_iload_n rfl rfl dJ3_checkIndex_8e157_4 ?_
  refine am_iload_n rfl rfl dJ3_checkIndex_8e157_5 ?_
  refine am_icmp_lt dJ3_checkIndex_8e157_6 (tgt := 16) rfl (fun _ => ?_) (fun hc => absurd h1 hc)
  refine am_iload_n rfl rfl dJ3_checkIndex_8e157_16 ?_
  exact am_iret dJ3_checkIndex_8e157_17 rfl rfl k
theorem bJ0_checkIndex_df160_0 {E : Nat × (Nat → Int32)} {I : Nat → Nat → Int32} {J : Nat → Nat → Int64} {b : Bool} {a0 : Int32} {a1 : Int32} {Q : Option Value → am_H → Prop}  (wp : (((¬ a0 < 0) ∧ (a0 < a1) ∧ Q none (hp I J b)) ∧ ((¬ a0 < 0) ∧ (a0 < a1) ∧ Q none (hp I J b)))) : am_R E mJ0_checkIndex_df160 0 [some (.int a0), some (.int a1)] [] (hp I J b) 64 64 Q := by
  refine am_iload_n rfl rfl dJ0_checkIndex_df160_0 ?_
  refine am_iload_n rfl rfl dJ0_checkIndex_df160_1 ?_
  refine am_gsB dJ0_checkIndex_df160_2 fsJ0_1053 ?_ ?_
  · have wp := wp.1
    obtain ⟨w1, wp⟩ := wp
    obtain ⟨w2, wp⟩ := wp
    refine am_invS (As := [.int a0, .int a1, .null]) (lsZ := [some (.int a0), some (.int a1), some (.null)]) (st := []) dJ0_checkIndex_df160_5 hJ3_checkIndex_8e157 lkJ0_1059 ⟨by decide, by decide⟩ rfl rfl (Nat.le_of_ble_eq_true rfl) rfl (Nat.le_of_ble_eq_true rfl) ⟨Nat.le_refl _, Nat.le_refl _⟩ (tJ3_checkIndex w1 w2 ?_)
    show am_R E mJ0_checkIndex_df160 8 [some (.int a0), some (.int a1)] [.int a0] (hp I J b) 64 64 Q
    refine am_pop rfl dJ0_checkIndex_df160_8 ?_
    exact am_vret dJ0_checkIndex_df160_9 rfl wp
  · have wp := wp.2
    obtain ⟨w3, wp⟩ := wp
    obtain ⟨w4, wp⟩ := wp
    refine am_invS (As := [.int a0, .int a1, .ref 1003]) (lsZ := [some (.int a0), some (.int a1), some (.ref 1003)]) (st := []) dJ0_checkIndex_df160_5 hJ3_checkIndex_8e157 lkJ0_1059 ⟨by decide, by decide⟩ rfl rfl (Nat.le_of_ble_eq_true rfl) rfl (Nat.le_of_ble_eq_true rfl) ⟨Nat.le_refl _, Nat.le_refl _⟩ (tJ3_checkIndex w3 w4 ?_)
    show am_R E mJ0_checkIndex_df160 8 [some (.int a0), some (.int a1)] [.int a0] (hp I J b) 64 64 Q
    refine am_pop rfl dJ0_checkIndex_df160_8 ?_
    exact am_vret dJ0_checkIndex_df160_9 rfl wp
theorem tJ0_checkIndex {a0 a1 : Int32} (h0 : ¬ a0 < 0) (h1 : a0 < a1) (k : Q none (hp I J b)) : am_R E mJ0_checkIndex_df160 0 [some (.int a0), some (.int a1)] [] (hp I J b) 64 64 Q :=
  bJ0_checkIndex_df160_0 ⟨⟨h0, h1, k⟩, ⟨h0, h1, k⟩⟩
theorem sb_ok : ∀ w, w < 9 → ∀ j, j < am_sn.getD w 0 → narrow .char (.int ((Int32.toUInt32 (((am_sb.getD w []).getD j 0) &&& 255) % 65536).toInt32)) = .int ((Int32.toUInt32 (((am_sb.getD w []).getD j 0) &&& 255) % 65536).toInt32) ∧ (Int32.toUInt32 (((am_sb.getD w []).getD j 0) &&& 255) % 65536).toInt32 = (am_sb.getD w []).getD j 0 ∧ narrow .char (.int ((am_sb.getD w []).getD j 0)) = .int ((am_sb.getD w []).getD j 0) := by decide +kernel
theorem bJ0_coder_7d493_w0_0 {E : Nat × (Nat → Int32)} {I : Nat → Nat → Int32} {J : Nat → Nat → Int64} {b : Bool}  {Q : Option Value → am_H → Prop}  (wp : Q (some (.int 0)) (hp I J b)) : am_R E mJ0_coder_7d493 0 [some (.ref 1010)] [] (hp I J b) 64 64 Q := by
  refine am_gsC dJ0_coder_7d493_0 fsJ0_38 ?_
  refine am_if_eq dJ0_coder_7d493_3 (tgt := 13) rfl (fun hc => absurd hc (by decide)) (fun _ => ?_)
  refine am_aload_n rfl rfl dJ0_coder_7d493_6 ?_
  refine am_strC (i := 0) dJ0_coder_7d493_7 fsJ0_15 (by decide) rfl ?_
  refine am_goto dJ0_coder_7d493_10 (tgt := 14) rfl ?_
  exact am_iret dJ0_coder_7d493_14 rfl (by decide) wp
theorem tJ0_coder_0 (k : Q (some (.int 0)) (hp I J b)) : am_R E mJ0_coder_7d493 0 [some (.ref 1010)] [] (hp I J b) 64 64 Q := bJ0_coder_7d493_w0_0 k
theorem bJ0_isLatin1_aae02_w0_0 {E : Nat × (Nat → Int32)} {I : Nat → Nat → Int32} {J : Nat → Nat → Int64} {b : Bool}  {Q : Option Value → am_H → Prop}  (wp : Q (some (.int 1)) (hp I J b)) : am_R E mJ0_isLatin1_aae02 0 [some (.ref 1010)] [] (hp I J b) 64 64 Q := by
  refine am_gsC dJ0_isLatin1_aae02_0 fsJ0_38 ?_
  refine am_if_eq dJ0_isLatin1_aae02_3 (tgt := 17) rfl (fun hc => absurd hc (by decide)) (fun _ => ?_)
  refine am_aload_n rfl rfl dJ0_isLatin1_aae02_6 ?_
  refine am_strC (i := 0) dJ0_isLatin1_aae02_7 fsJ0_15 (by decide) rfl ?_
  refine am_if_ne dJ0_isLatin1_aae02_10 (tgt := 17) rfl (fun hc => absurd hc (by decide)) (fun _ => ?_)
  refine am_iconst 1 rfl dJ0_isLatin1_aae02_13 ?_
  refine am_goto dJ0_isLatin1_aae02_14 (tgt := 18) rfl ?_
  exact am_iret dJ0_isLatin1_aae02_18 rfl (by decide) wp
theorem tJ0_isLatin1_0 (k : Q (some (.int 1)) (hp I J b)) : am_R E mJ0_isLatin1_aae02 0 [some (.ref 1010)] [] (hp I J b) 64 64 Q := bJ0_isLatin1_aae02_w0_0 k
theorem bJ0_length_8abf5_w0_0 {E : Nat × (Nat → Int32)} {I : Nat → Nat → Int32} {J : Nat → Nat → Int64} {b : Bool}  {Q : Option Value → am_H → Prop}  (wp : Q (some (.int ((Int32.ofNat (am_sn.getD 0 0)) >>> (0 &&& 31)))) (hp I J b)) : am_R E mJ0_length_8abf5 0 [some (.ref 1010)] [] (hp I J b) 64 64 Q := by
  refine am_aload_n rfl rfl dJ0_length_8abf5_0 ?_
  refine am_strV (i := 0) dJ0_length_8abf5_1 fsJ0_9 (by decide) rfl ?_
  refine am_strL (i := 0) dJ0_length_8abf5_4 (by decide) rfl ?_
  refine am_aload_n rfl rfl dJ0_length_8abf5_5 ?_
  refine am_invT (i := 0) (As := []) (lsZ := [some (.ref 1010)]) (st := [.int (Int32.ofNat (am_sn.getD 0 0))]) dJ0_length_8abf5_6 hJ0_coder_7d493 lkJ0_335 ⟨by decide, by decide⟩ rfl (by decide) rfl rfl rfl (Nat.le_of_ble_eq_true rfl) rfl (Nat.le_of_ble_eq_true rfl) ⟨Nat.le_refl _, Nat.le_refl _⟩ (tJ0_coder_0  ?_)
  show am_R E mJ0_length_8abf5 9 [some (.ref 1010)] [.int 0, .int (Int32.ofNat (am_sn.getD 0 0))] (hp I J b) 64 64 Q
  refine am_ishr dJ0_length_8abf5_9 ?_
  exact am_iret dJ0_length_8abf5_10 rfl rfl wp
theorem tJ0_length_0 (k : Q (some (.int 4)) (hp I J b)) : am_R E mJ0_length_8abf5 0 [some (.ref 1010)] [] (hp I J b) 64 64 Q := bJ0_length_8abf5_w0_0 k
theorem bJ1_charAt_3b067_w0_0 {E : Nat × (Nat → Int32)} {I : Nat → Nat → Int32} {J : Nat → Nat → Int64} {b : Bool} {a1 : Int32} {Q : Option Value → am_H → Prop}  (wp : (¬ a1 < 0) ∧ (a1 < (Int32.ofNat (am_sn.getD 0 0))) ∧ vp_in a1 4 ∧ (narrow .char (.int (Int32.toUInt32 (((am_sb.getD 0 []).getD (Int32.toNatClampNeg a1) 0) &&& 255) % 65536).toInt32) = .int (Int32.toUInt32 (((am_sb.getD 0 []).getD (Int32.toNatClampNeg a1) 0) &&& 255) % 65536).toInt32) ∧ Q (some (.int (Int32.toUInt32 (((am_sb.getD 0 []).getD (Int32.toNatClampNeg a1) 0) &&& 255) % 65536).toInt32)) (hp I J b)) : am_R E mJ1_charAt_3b067 0 [some (.ref 1020), some (.int a1)] [] (hp I J b) 64 64 Q := by
  refine am_iload_n rfl rfl dJ1_charAt_3b067_0 ?_
  refine am_aload_n rfl rfl dJ1_charAt_3b067_1 ?_
  refine am_strL (i := 0) dJ1_charAt_3b067_2 (by decide) rfl ?_
  obtain ⟨w1, wp⟩ := wp
  obtain ⟨w2, wp⟩ := wp
  refine am_invS (As := [.int a1, .int (Int32.ofNat (am_sn.getD 0 0))]) (lsZ := [some (.int a1), some (.int (Int32.ofNat (am_sn.getD 0 0)))]) (st := []) dJ1_charAt_3b067_3 hJ0_checkIndex_df160 lkJ1_9 ⟨by decide, by decide⟩ rfl rfl (Nat.le_of_ble_eq_true rfl) rfl (Nat.le_of_ble_eq_true rfl) ⟨Nat.le_refl _, Nat.le_refl _⟩ (tJ0_checkIndex w1 w2 ?_)
  show am_R E mJ1_charAt_3b067 6 [some (.ref 1020), some (.int a1)] [] (hp I J b) 64 64 Q
  refine am_aload_n rfl rfl dJ1_charAt_3b067_6 ?_
  refine am_iload_n rfl rfl dJ1_charAt_3b067_7 ?_
  obtain ⟨w3, wp⟩ := wp
  refine am_strB (i := 0) dJ1_charAt_3b067_8 (by decide) rfl w3 ?_
  refine am_sipush 255 rfl dJ1_charAt_3b067_9 ?_
  refine am_iand dJ1_charAt_3b067_12 ?_
  refine am_i2c dJ1_charAt_3b067_13 ?_
  exact am_iret dJ1_charAt_3b067_14 rfl wp.1 wp.2
theorem tJ1_charAt_0 {a1 : Int32} {j : Nat} (e : a1 = nI j) (hj : j < 4) (k : Q (some (.int ((am_sb.getD 0 []).getD j 0))) (hp I J b)) : am_R E mJ1_charAt_3b067 0 [some (.ref 1020), some (.int a1)] [] (hp I J b) 64 64 Q := by
  obtain ⟨v1, v2⟩ := am_vin e hj (by decide)
  obtain ⟨s1, s2, s3⟩ := sb_ok 0 (by decide) j hj
  subst e
  refine bJ1_charAt_3b067_w0_0 ⟨nI_pos (by omega), (nI_ltI (b := 4) (by omega) (by omega)).mpr hj, v1, ?_, ?_⟩
  · rw [v2]; exact s1
  · rw [v2, s2]; exact k
theorem bJ0_charAt_5068e_w0_0 {E : Nat × (Nat → Int32)} {I : Nat → Nat → Int32} {J : Nat → Nat → Int64} {b : Bool} {a1 : Int32} {Q : Option Value → am_H → Prop}  (wp : ∃ j1, a1 = nI j1 ∧ j1 < 4 ∧ (narrow .char (.int ((am_sb.getD 0 []).getD j1 0)) = .int ((am_sb.getD 0 []).getD j1 0)) ∧ Q (some (.int ((am_sb.getD 0 []).getD j1 0))) (hp I J b)) : am_R E mJ0_charAt_5068e 0 [some (.ref 1010), some (.int a1)] [] (hp I J b) 64 64 Q := by
  refine am_aload_n rfl rfl dJ0_charAt_5068e_0 ?_
  refine am_invT (i := 0) (As := []) (lsZ := [some (.ref 1010)]) (st := []) dJ0_charAt_5068e_1 hJ0_isLatin1_aae02 lkJ0_492 ⟨by decide, by decide⟩ rfl (by decide) rfl rfl rfl (Nat.le_of_ble_eq_true rfl) rfl (Nat.le_of_ble_eq_true rfl) ⟨Nat.le_refl _, Nat.le_refl _⟩ (tJ0_isLatin1_0  ?_)
  show am_R E mJ0_charAt_5068e 4 [some (.ref 1010), some (.int a1)] [.int 1] (hp I J b) 64 64 Q
  refine am_if_eq dJ0_charAt_5068e_4 (tgt := 16) rfl (fun hc => absurd hc (by decide)) (fun _ => ?_)
  refine am_aload_n rfl rfl dJ0_charAt_5068e_7 ?_
  refine am_strV (i := 0) dJ0_charAt_5068e_8 fsJ0_9 (by decide) rfl ?_
  refine am_iload_n rfl rfl dJ0_charAt_5068e_11 ?_
  obtain ⟨j1, e1, w1, wp⟩ := wp
  refine am_invS (As := [.ref 1020, .int a1]) (lsZ := [some (.ref 1020), some (.int a1)]) (st := []) dJ0_charAt_5068e_12 hJ1_charAt_3b067 lkJ0_495 ⟨by decide, by decide⟩ rfl rfl (Nat.le_of_ble_eq_true rfl) rfl (Nat.le_of_ble_eq_true rfl) ⟨Nat.le_refl _, Nat.le_refl _⟩ (tJ1_charAt_0 (j := j1) e1 w1 ?_)
  show am_R E mJ0_charAt_5068e 15 [some (.ref 1010), some (.int a1)] [.int ((am_sb.getD 0 []).getD j1 0)] (hp I J b) 64 64 Q
  exact am_iret dJ0_charAt_5068e_15 rfl wp.1 wp.2
theorem tJ0_charAt_0 {a1 : Int32} {j : Nat} (e : a1 = nI j) (hj : j < 4) (k : Q (some (.int ((am_sb.getD 0 []).getD j 0))) (hp I J b)) : am_R E mJ0_charAt_5068e 0 [some (.ref 1010), some (.int a1)] [] (hp I J b) 64 64 Q := by
  refine bJ0_charAt_5068e_w0_0 ⟨j, e, hj, ?_⟩
  exact ⟨(sb_ok 0 (by decide) j hj).2.2, k⟩
theorem bX6_spells_w0_0 {E : Nat × (Nat → Int32)} {I : Nat → Nat → Int32} {J : Nat → Nat → Int64} {b : Bool}  {Q : Option Value → am_H → Prop}  (wp : ((((I 1 5) - (I 1 4)) = 4 → am_R E mX6_spells 20 [some (.ref 1), some (.ref 1010), some (.int 0)] [] (hp I J b) 64 64 Q) ∧ (¬ ((I 1 5) - (I 1 4)) = 4 → Q (some (.int 0)) (hp I J b)))) : am_R E mX6_spells 0 [some (.ref 1), some (.ref 1010), none] [] (hp I J b) 64 64 Q := by
  refine am_aload_n rfl rfl dX6_spells_0 ?_
  refine am_getI dX6_spells_1 flX6_22 (Or.inl rfl) rfl (by decide) ?_
  refine am_aload_n rfl rfl dX6_spells_4 ?_
  refine am_getI dX6_spells_5 flX6_32 (Or.inl rfl) rfl (by decide) ?_
  refine am_isub dX6_spells_8 ?_
  refine am_aload_n rfl rfl dX6_spells_9 ?_
  refine am_invT (i := 0) (As := []) (lsZ := [some (.ref 1010)]) (st := [.int ((I 1 5) - (I 1 4))]) dX6_spells_10 hJ0_length_8abf5 lkX6_82 ⟨by decide, by decide⟩ rfl (by decide) rfl rfl rfl (Nat.le_of_ble_eq_true rfl) rfl (Nat.le_of_ble_eq_true rfl) ⟨Nat.le_refl _, Nat.le_refl _⟩ (tJ0_length_0  ?_)
  show am_R E mX6_spells 13 [some (.ref 1), some (.ref 1010), none] [.int 4, .int ((I 1 5) - (I 1 4))] (hp I J b) 64 64 Q
  refine am_icmp_eq dX6_spells_13 (tgt := 18) rfl (fun hc1 => ?_) (fun hc1 => ?_)
  · have wp := wp.1 hc1
    refine am_iconst 0 rfl dX6_spells_18 ?_
    refine am_istore_n (ls' := [some (.ref 1), some (.ref 1010), some (.int 0)]) rfl (by decide) rfl rfl dX6_spells_19 ?_
    exact am_R.forget wp ⟨rfl, ⟨rfl, ⟨rfl, trivial⟩⟩⟩
  · have wp := wp.2 hc1
    refine am_iconst 0 rfl dX6_spells_16 ?_
    exact am_iret dX6_spells_17 rfl (by decide) wp
theorem bX6_spells_w0_20 {E : Nat × (Nat → Int32)} {I : Nat → Nat → Int32} {J : Nat → Nat → Int64} {b : Bool} {a2 : Int32} {Q : Option Value → am_H → Prop}  (wp : ((4 ≤ a2 → Q (some (.int 1)) (hp I J b)) ∧ (¬ 4 ≤ a2 → ∃ j2, ((I 1 4) + a2) = nI j2 ∧ j2 < 200 ∧ ∃ j3, a2 = nI j3 ∧ j3 < 4 ∧ (((I 2 j2) = ((am_sb.getD 0 []).getD j3 0) → am_R E mX6_spells 20 [some (.ref 1), some (.ref 1010), some (.int (a2 + 1))] [] (hp I J b) 64 64 Q) ∧ (¬ (I 2 j2) = ((am_sb.getD 0 []).getD j3 0) → Q (some (.int 0)) (hp I J b)))))) : am_R E mX6_spells 20 [some (.ref 1), some (.ref 1010), some (.int a2)] [] (hp I J b) 64 64 Q := by
  refine am_iload_n rfl rfl dX6_spells_20 ?_
  refine am_aload_n rfl rfl dX6_spells_21 ?_
  refine am_invT (i := 0) (As := []) (lsZ := [some (.ref 1010)]) (st := [.int a2]) dX6_spells_22 hJ0_length_8abf5 lkX6_82 ⟨by decide, by decide⟩ rfl (by decide) rfl rfl rfl (Nat.le_of_ble_eq_true rfl) rfl (Nat.le_of_ble_eq_true rfl) ⟨Nat.le_refl _, Nat.le_refl _⟩ (tJ0_length_0  ?_)
  show am_R E mX6_spells 25 [some (.ref 1), some (.ref 1010), some (.int a2)] [.int 4, .int a2] (hp I J b) 64 64 Q
  refine am_icmp_ge dX6_spells_25 (tgt := 55) rfl (fun hc1 => ?_) (fun hc1 => ?_)
  · have wp := wp.1 hc1
    refine am_iconst 1 rfl dX6_spells_55 ?_
    exact am_iret dX6_spells_56 rfl (by decide) wp
  · have wp := wp.2 hc1
    refine am_aload_n rfl rfl dX6_spells_28 ?_
    refine am_getA (r := 2) dX6_spells_29 flX6_9 (Or.inr ⟨_, rfl⟩) rfl (by decide) rfl ?_
    refine am_aload_n rfl rfl dX6_spells_32 ?_
    refine am_getI dX6_spells_33 flX6_32 (Or.inl rfl) rfl (by decide) ?_
    refine am_iload_n rfl rfl dX6_spells_36 ?_
    refine am_iadd dX6_spells_37 ?_
    obtain ⟨j2, e2, w2, wp⟩ := wp
    refine am_ialdN (j := j2) dX6_spells_38 rfl (by decide) e2 w2 (by decide) ?_
    refine am_aload_n rfl rfl dX6_spells_39 ?_
    refine am_iload_n rfl rfl dX6_spells_40 ?_
    obtain ⟨j3, e3, w3, wp⟩ := wp
    refine am_invT (i := 0) (As := [.int a2]) (lsZ := [some (.ref 1010), some (.int a2)]) (st := [.int (I 2 j2)]) dX6_spells_41 hJ0_charAt_5068e lkX6_86 ⟨by decide, by decide⟩ rfl (by decide) rfl rfl rfl (Nat.le_of_ble_eq_true rfl) rfl (Nat.le_of_ble_eq_true rfl) ⟨Nat.le_refl _, Nat.le_refl _⟩ (tJ0_charAt_0 (j := j3) e3 w3 ?_)
    show am_R E mX6_spells 44 [some (.ref 1), some (.ref 1010), some (.int a2)] [.int ((am_sb.getD 0 []).getD j3 0), .int (I 2 j2)] (hp I J b) 64 64 Q
    refine am_icmp_eq dX6_spells_44 (tgt := 49) rfl (fun hc4 => ?_) (fun hc4 => ?_)
    · have wp := wp.1 hc4
      refine am_iinc (ls' := [some (.ref 1), some (.ref 1010), some (.int (a2 + 1))]) (by decide) rfl rfl rfl dX6_spells_49 ?_
      refine am_goto dX6_spells_52 (tgt := 20) rfl ?_
      exact am_R.forget wp ⟨rfl, ⟨rfl, ⟨rfl, trivial⟩⟩⟩
    · have wp := wp.2 hc4
      refine am_iconst 0 rfl dX6_spells_47 ?_
      exact am_iret dX6_spells_48 rfl (by decide) wp
theorem bJ0_coder_7d493_w1_0 {E : Nat × (Nat → Int32)} {I : Nat → Nat → Int32} {J : Nat → Nat → Int64} {b : Bool}  {Q : Option Value → am_H → Prop}  (wp : Q (some (.int 0)) (hp I J b)) : am_R E mJ0_coder_7d493 0 [some (.ref 1011)] [] (hp I J b) 64 64 Q := by
  refine am_gsC dJ0_coder_7d493_0 fsJ0_38 ?_
  refine am_if_eq dJ0_coder_7d493_3 (tgt := 13) rfl (fun hc => absurd hc (by decide)) (fun _ => ?_)
  refine am_aload_n rfl rfl dJ0_coder_7d493_6 ?_
  refine am_strC (i := 1) dJ0_coder_7d493_7 fsJ0_15 (by decide) rfl ?_
  refine am_goto dJ0_coder_7d493_10 (tgt := 14) rfl ?_
  exact am_iret dJ0_coder_7d493_14 rfl (by decide) wp
theorem tJ0_coder_1 (k : Q (some (.int 0)) (hp I J b)) : am_R E mJ0_coder_7d493 0 [some (.ref 1011)] [] (hp I J b) 64 64 Q := bJ0_coder_7d493_w1_0 k
theorem bJ0_isLatin1_aae02_w1_0 {E : Nat × (Nat → Int32)} {I : Nat → Nat → Int32} {J : Nat → Nat → Int64} {b : Bool}  {Q : Option Value → am_H → Prop}  (wp : Q (some (.int 1)) (hp I J b)) : am_R E mJ0_isLatin1_aae02 0 [some (.ref 1011)] [] (hp I J b) 64 64 Q := by
  refine am_gsC dJ0_isLatin1_aae02_0 fsJ0_38 ?_
  refine am_if_eq dJ0_isLatin1_aae02_3 (tgt := 17) rfl (fun hc => absurd hc (by decide)) (fun _ => ?_)
  refine am_aload_n rfl rfl dJ0_isLatin1_aae02_6 ?_
  refine am_strC (i := 1) dJ0_isLatin1_aae02_7 fsJ0_15 (by decide) rfl ?_
  refine am_if_ne dJ0_isLatin1_aae02_10 (tgt := 17) rfl (fun hc => absurd hc (by decide)) (fun _ => ?_)
  refine am_iconst 1 rfl dJ0_isLatin1_aae02_13 ?_
  refine am_goto dJ0_isLatin1_aae02_14 (tgt := 18) rfl ?_
  exact am_iret dJ0_isLatin1_aae02_18 rfl (by decide) wp
theorem tJ0_isLatin1_1 (k : Q (some (.int 1)) (hp I J b)) : am_R E mJ0_isLatin1_aae02 0 [some (.ref 1011)] [] (hp I J b) 64 64 Q := bJ0_isLatin1_aae02_w1_0 k
theorem bJ0_length_8abf5_w1_0 {E : Nat × (Nat → Int32)} {I : Nat → Nat → Int32} {J : Nat → Nat → Int64} {b : Bool}  {Q : Option Value → am_H → Prop}  (wp : Q (some (.int ((Int32.ofNat (am_sn.getD 1 0)) >>> (0 &&& 31)))) (hp I J b)) : am_R E mJ0_length_8abf5 0 [some (.ref 1011)] [] (hp I J b) 64 64 Q := by
  refine am_aload_n rfl rfl dJ0_length_8abf5_0 ?_
  refine am_strV (i := 1) dJ0_length_8abf5_1 fsJ0_9 (by decide) rfl ?_
  refine am_strL (i := 1) dJ0_length_8abf5_4 (by decide) rfl ?_
  refine am_aload_n rfl rfl dJ0_length_8abf5_5 ?_
  refine am_invT (i := 1) (As := []) (lsZ := [some (.ref 1011)]) (st := [.int (Int32.ofNat (am_sn.getD 1 0))]) dJ0_length_8abf5_6 hJ0_coder_7d493 lkJ0_335 ⟨by decide, by decide⟩ rfl (by decide) rfl rfl rfl (Nat.le_of_ble_eq_true rfl) rfl (Nat.le_of_ble_eq_true rfl) ⟨Nat.le_refl _, Nat.le_refl _⟩ (tJ0_coder_1  ?_)
  show am_R E mJ0_length_8abf5 9 [some (.ref 1011)] [.int 0, .int (Int32.ofNat (am_sn.getD 1 0))] (hp I J b) 64 64 Q
  refine am_ishr dJ0_length_8abf5_9 ?_
  exact am_iret dJ0_length_8abf5_10 rfl rfl wp
theorem tJ0_length_1 (k : Q (some (.int 5)) (hp I J b)) : am_R E mJ0_length_8abf5 0 [some (.ref 1011)] [] (hp I J b) 64 64 Q := bJ0_length_8abf5_w1_0 k
theorem bJ1_charAt_3b067_w1_0 {E : Nat × (Nat → Int32)} {I : Nat → Nat → Int32} {J : Nat → Nat → Int64} {b : Bool} {a1 : Int32} {Q : Option Value → am_H → Prop}  (wp : (¬ a1 < 0) ∧ (a1 < (Int32.ofNat (am_sn.getD 1 0))) ∧ vp_in a1 5 ∧ (narrow .char (.int (Int32.toUInt32 (((am_sb.getD 1 []).getD (Int32.toNatClampNeg a1) 0) &&& 255) % 65536).toInt32) = .int (Int32.toUInt32 (((am_sb.getD 1 []).getD (Int32.toNatClampNeg a1) 0) &&& 255) % 65536).toInt32) ∧ Q (some (.int (Int32.toUInt32 (((am_sb.getD 1 []).getD (Int32.toNatClampNeg a1) 0) &&& 255) % 65536).toInt32)) (hp I J b)) : am_R E mJ1_charAt_3b067 0 [some (.ref 1021), some (.int a1)] [] (hp I J b) 64 64 Q := by
  refine am_iload_n rfl rfl dJ1_charAt_3b067_0 ?_
  refine am_aload_n rfl rfl dJ1_charAt_3b067_1 ?_
  refine am_strL (i := 1) dJ1_charAt_3b067_2 (by decide) rfl ?_
  obtain ⟨w1, wp⟩ := wp
  obtain ⟨w2, wp⟩ := wp
  refine am_invS (As := [.int a1, .int (Int32.ofNat (am_sn.getD 1 0))]) (lsZ := [some (.int a1), some (.int (Int32.ofNat (am_sn.getD 1 0)))]) (st := []) dJ1_charAt_3b067_3 hJ0_checkIndex_df160 lkJ1_9 ⟨by decide, by decide⟩ rfl rfl (Nat.le_of_ble_eq_true rfl) rfl (Nat.le_of_ble_eq_true rfl) ⟨Nat.le_refl _, Nat.le_refl _⟩ (tJ0_checkIndex w1 w2 ?_)
  show am_R E mJ1_charAt_3b067 6 [some (.ref 1021), some (.int a1)] [] (hp I J b) 64 64 Q
  refine am_aload_n rfl rfl dJ1_charAt_3b067_6 ?_
  refine am_iload_n rfl rfl dJ1_charAt_3b067_7 ?_
  obtain ⟨w3, wp⟩ := wp
  refine am_strB (i := 1) dJ1_charAt_3b067_8 (by decide) rfl w3 ?_
  refine am_sipush 255 rfl dJ1_charAt_3b067_9 ?_
  refine am_iand dJ1_charAt_3b067_12 ?_
  refine am_i2c dJ1_charAt_3b067_13 ?_
  exact am_iret dJ1_charAt_3b067_14 rfl wp.1 wp.2
theorem tJ1_charAt_1 {a1 : Int32} {j : Nat} (e : a1 = nI j) (hj : j < 5) (k : Q (some (.int ((am_sb.getD 1 []).getD j 0))) (hp I J b)) : am_R E mJ1_charAt_3b067 0 [some (.ref 1021), some (.int a1)] [] (hp I J b) 64 64 Q := by
  obtain ⟨v1, v2⟩ := am_vin e hj (by decide)
  obtain ⟨s1, s2, s3⟩ := sb_ok 1 (by decide) j hj
  subst e
  refine bJ1_charAt_3b067_w1_0 ⟨nI_pos (by omega), (nI_ltI (b := 5) (by omega) (by omega)).mpr hj, v1, ?_, ?_⟩
  · rw [v2]; exact s1
  · rw [v2, s2]; exact k
theorem bJ0_charAt_5068e_w1_0 {E : Nat × (Nat → Int32)} {I : Nat → Nat → Int32} {J : Nat → Nat → Int64} {b : Bool} {a1 : Int32} {Q : Option Value → am_H → Prop}  (wp : ∃ j1, a1 = nI j1 ∧ j1 < 5 ∧ (narrow .char (.int ((am_sb.getD 1 []).getD j1 0)) = .int ((am_sb.getD 1 []).getD j1 0)) ∧ Q (some (.int ((am_sb.getD 1 []).getD j1 0))) (hp I J b)) : am_R E mJ0_charAt_5068e 0 [some (.ref 1011), some (.int a1)] [] (hp I J b) 64 64 Q := by
  refine am_aload_n rfl rfl dJ0_charAt_5068e_0 ?_
  refine am_invT (i := 1) (As := []) (lsZ := [some (.ref 1011)]) (st := []) dJ0_charAt_5068e_1 hJ0_isLatin1_aae02 lkJ0_492 ⟨by decide, by decide⟩ rfl (by decide) rfl rfl rfl (Nat.le_of_ble_eq_true rfl) rfl (Nat.le_of_ble_eq_true rfl) ⟨Nat.le_refl _, Nat.le_refl _⟩ (tJ0_isLatin1_1  ?_)
  show am_R E mJ0_charAt_5068e 4 [some (.ref 1011), some (.int a1)] [.int 1] (hp I J b) 64 64 Q
  refine am_if_eq dJ0_charAt_5068e_4 (tgt := 16) rfl (fun hc => absurd hc (by decide)) (fun _ => ?_)
  refine am_aload_n rfl rfl dJ0_charAt_5068e_7 ?_
  refine am_strV (i := 1) dJ0_charAt_5068e_8 fsJ0_9 (by decide) rfl ?_
  refine am_iload_n rfl rfl dJ0_charAt_5068e_11 ?_
  obtain ⟨j1, e1, w1, wp⟩ := wp
  refine am_invS (As := [.ref 1021, .int a1]) (lsZ := [some (.ref 1021), some (.int a1)]) (st := []) dJ0_charAt_5068e_12 hJ1_charAt_3b067 lkJ0_495 ⟨by decide, by decide⟩ rfl rfl (Nat.le_of_ble_eq_true rfl) rfl (Nat.le_of_ble_eq_true rfl) ⟨Nat.le_refl _, Nat.le_refl _⟩ (tJ1_charAt_1 (j := j1) e1 w1 ?_)
  show am_R E mJ0_charAt_5068e 15 [some (.ref 1011), some (.int a1)] [.int ((am_sb.getD 1 []).getD j1 0)] (hp I J b) 64 64 Q
  exact am_iret dJ0_charAt_5068e_15 rfl wp.1 wp.2
theorem tJ0_charAt_1 {a1 : Int32} {j : Nat} (e : a1 = nI j) (hj : j < 5) (k : Q (some (.int ((am_sb.getD 1 []).getD j 0))) (hp I J b)) : am_R E mJ0_charAt_5068e 0 [some (.ref 1011), some (.int a1)] [] (hp I J b) 64 64 Q := by
  refine bJ0_charAt_5068e_w1_0 ⟨j, e, hj, ?_⟩
  exact ⟨(sb_ok 1 (by decide) j hj).2.2, k⟩
theorem bX6_spells_w1_0 {E : Nat × (Nat → Int32)} {I : Nat → Nat → Int32} {J : Nat → Nat → Int64} {b : Bool}  {Q : Option Value → am_H → Prop}  (wp : ((((I 1 5) - (I 1 4)) = 5 → am_R E mX6_spells 20 [some (.ref 1), some (.ref 1011), some (.int 0)] [] (hp I J b) 64 64 Q) ∧ (¬ ((I 1 5) - (I 1 4)) = 5 → Q (some (.int 0)) (hp I J b)))) : am_R E mX6_spells 0 [some (.ref 1), some (.ref 1011), none] [] (hp I J b) 64 64 Q := by
  refine am_aload_n rfl rfl dX6_spells_0 ?_
  refine am_getI dX6_spells_1 flX6_22 (Or.inl rfl) rfl (by decide) ?_
  refine am_aload_n rfl rfl dX6_spells_4 ?_
  refine am_getI dX6_spells_5 flX6_32 (Or.inl rfl) rfl (by decide) ?_
  refine am_isub dX6_spells_8 ?_
  refine am_aload_n rfl rfl dX6_spells_9 ?_
  refine am_invT (i := 1) (As := []) (lsZ := [some (.ref 1011)]) (st := [.int ((I 1 5) - (I 1 4))]) dX6_spells_10 hJ0_length_8abf5 lkX6_82 ⟨by decide, by decide⟩ rfl (by decide) rfl rfl rfl (Nat.le_of_ble_eq_true rfl) rfl (Nat.le_of_ble_eq_true rfl) ⟨Nat.le_refl _, Nat.le_refl _⟩ (tJ0_length_1  ?_)
  show am_R E mX6_spells 13 [some (.ref 1), some (.ref 1011), none] [.int 5, .int ((I 1 5) - (I 1 4))] (hp I J b) 64 64 Q
  refine am_icmp_eq dX6_spells_13 (tgt := 18) rfl (fun hc1 => ?_) (fun hc1 => ?_)
  · have wp := wp.1 hc1
    refine am_iconst 0 rfl dX6_spells_18 ?_
    refine am_istore_n (ls' := [some (.ref 1), some (.ref 1011), some (.int 0)]) rfl (by decide) rfl rfl dX6_spells_19 ?_
    exact am_R.forget wp ⟨rfl, ⟨rfl, ⟨rfl, trivial⟩⟩⟩
  · have wp := wp.2 hc1
    refine am_iconst 0 rfl dX6_spells_16 ?_
    exact am_iret dX6_spells_17 rfl (by decide) wp
theorem bX6_spells_w1_20 {E : Nat × (Nat → Int32)} {I : Nat → Nat → Int32} {J : Nat → Nat → Int64} {b : Bool} {a2 : Int32} {Q : Option Value → am_H → Prop}  (wp : ((5 ≤ a2 → Q (some (.int 1)) (hp I J b)) ∧ (¬ 5 ≤ a2 → ∃ j2, ((I 1 4) + a2) = nI j2 ∧ j2 < 200 ∧ ∃ j3, a2 = nI j3 ∧ j3 < 5 ∧ (((I 2 j2) = ((am_sb.getD 1 []).getD j3 0) → am_R E mX6_spells 20 [some (.ref 1), some (.ref 1011), some (.int (a2 + 1))] [] (hp I J b) 64 64 Q) ∧ (¬ (I 2 j2) = ((am_sb.getD 1 []).getD j3 0) → Q (some (.int 0)) (hp I J b)))))) : am_R E mX6_spells 20 [some (.ref 1), some (.ref 1011), some (.int a2)] [] (hp I J b) 64 64 Q := by
  refine am_iload_n rfl rfl dX6_spells_20 ?_
  refine am_aload_n rfl rfl dX6_spells_21 ?_
  refine am_invT (i := 1) (As := []) (lsZ := [some (.ref 1011)]) (st := [.int a2]) dX6_spells_22 hJ0_length_8abf5 lkX6_82 ⟨by decide, by decide⟩ rfl (by decide) rfl rfl rfl (Nat.le_of_ble_eq_true rfl) rfl (Nat.le_of_ble_eq_true rfl) ⟨Nat.le_refl _, Nat.le_refl _⟩ (tJ0_length_1  ?_)
  show am_R E mX6_spells 25 [some (.ref 1), some (.ref 1011), some (.int a2)] [.int 5, .int a2] (hp I J b) 64 64 Q
  refine am_icmp_ge dX6_spells_25 (tgt := 55) rfl (fun hc1 => ?_) (fun hc1 => ?_)
  · have wp := wp.1 hc1
    refine am_iconst 1 rfl dX6_spells_55 ?_
    exact am_iret dX6_spells_56 rfl (by decide) wp
  · have wp := wp.2 hc1
    refine am_aload_n rfl rfl dX6_spells_28 ?_
    refine am_getA (r := 2) dX6_spells_29 flX6_9 (Or.inr ⟨_, rfl⟩) rfl (by decide) rfl ?_
    refine am_aload_n rfl rfl dX6_spells_32 ?_
    refine am_getI dX6_spells_33 flX6_32 (Or.inl rfl) rfl (by decide) ?_
    refine am_iload_n rfl rfl dX6_spells_36 ?_
    refine am_iadd dX6_spells_37 ?_
    obtain ⟨j2, e2, w2, wp⟩ := wp
    refine am_ialdN (j := j2) dX6_spells_38 rfl (by decide) e2 w2 (by decide) ?_
    refine am_aload_n rfl rfl dX6_spells_39 ?_
    refine am_iload_n rfl rfl dX6_spells_40 ?_
    obtain ⟨j3, e3, w3, wp⟩ := wp
    refine am_invT (i := 1) (As := [.int a2]) (lsZ := [some (.ref 1011), some (.int a2)]) (st := [.int (I 2 j2)]) dX6_spells_41 hJ0_charAt_5068e lkX6_86 ⟨by decide, by decide⟩ rfl (by decide) rfl rfl rfl (Nat.le_of_ble_eq_true rfl) rfl (Nat.le_of_ble_eq_true rfl) ⟨Nat.le_refl _, Nat.le_refl _⟩ (tJ0_charAt_1 (j := j3) e3 w3 ?_)
    show am_R E mX6_spells 44 [some (.ref 1), some (.ref 1011), some (.int a2)] [.int ((am_sb.getD 1 []).getD j3 0), .int (I 2 j2)] (hp I J b) 64 64 Q
    refine am_icmp_eq dX6_spells_44 (tgt := 49) rfl (fun hc4 => ?_) (fun hc4 => ?_)
    · have wp := wp.1 hc4
      refine am_iinc (ls' := [some (.ref 1), some (.ref 1011), some (.int (a2 + 1))]) (by decide) rfl rfl rfl dX6_spells_49 ?_
      refine am_goto dX6_spells_52 (tgt := 20) rfl ?_
      exact am_R.forget wp ⟨rfl, ⟨rfl, ⟨rfl, trivial⟩⟩⟩
    · have wp := wp.2 hc4
      refine am_iconst 0 rfl dX6_spells_47 ?_
      exact am_iret dX6_spells_48 rfl (by decide) wp
theorem bJ0_coder_7d493_w2_0 {E : Nat × (Nat → Int32)} {I : Nat → Nat → Int32} {J : Nat → Nat → Int64} {b : Bool}  {Q : Option Value → am_H → Prop}  (wp : Q (some (.int 0)) (hp I J b)) : am_R E mJ0_coder_7d493 0 [some (.ref 1012)] [] (hp I J b) 64 64 Q := by
  refine am_gsC dJ0_coder_7d493_0 fsJ0_38 ?_
  refine am_if_eq dJ0_coder_7d493_3 (tgt := 13) rfl (fun hc => absurd hc (by decide)) (fun _ => ?_)
  refine am_aload_n rfl rfl dJ0_coder_7d493_6 ?_
  refine am_strC (i := 2) dJ0_coder_7d493_7 fsJ0_15 (by decide) rfl ?_
  refine am_goto dJ0_coder_7d493_10 (tgt := 14) rfl ?_
  exact am_iret dJ0_coder_7d493_14 rfl (by decide) wp
theorem tJ0_coder_2 (k : Q (some (.int 0)) (hp I J b)) : am_R E mJ0_coder_7d493 0 [some (.ref 1012)] [] (hp I J b) 64 64 Q := bJ0_coder_7d493_w2_0 k
theorem bJ0_isLatin1_aae02_w2_0 {E : Nat × (Nat → Int32)} {I : Nat → Nat → Int32} {J : Nat → Nat → Int64} {b : Bool}  {Q : Option Value → am_H → Prop}  (wp : Q (some (.int 1)) (hp I J b)) : am_R E mJ0_isLatin1_aae02 0 [some (.ref 1012)] [] (hp I J b) 64 64 Q := by
  refine am_gsC dJ0_isLatin1_aae02_0 fsJ0_38 ?_
  refine am_if_eq dJ0_isLatin1_aae02_3 (tgt := 17) rfl (fun hc => absurd hc (by decide)) (fun _ => ?_)
  refine am_aload_n rfl rfl dJ0_isLatin1_aae02_6 ?_
  refine am_strC (i := 2) dJ0_isLatin1_aae02_7 fsJ0_15 (by decide) rfl ?_
  refine am_if_ne dJ0_isLatin1_aae02_10 (tgt := 17) rfl (fun hc => absurd hc (by decide)) (fun _ => ?_)
  refine am_iconst 1 rfl dJ0_isLatin1_aae02_13 ?_
  refine am_goto dJ0_isLatin1_aae02_14 (tgt := 18) rfl ?_
  exact am_iret dJ0_isLatin1_aae02_18 rfl (by decide) wp
theorem tJ0_isLatin1_2 (k : Q (some (.int 1)) (hp I J b)) : am_R E mJ0_isLatin1_aae02 0 [some (.ref 1012)] [] (hp I J b) 64 64 Q := bJ0_isLatin1_aae02_w2_0 k
theorem bJ0_length_8abf5_w2_0 {E : Nat × (Nat → Int32)} {I : Nat → Nat → Int32} {J : Nat → Nat → Int64} {b : Bool}  {Q : Option Value → am_H → Prop}  (wp : Q (some (.int ((Int32.ofNat (am_sn.getD 2 0)) >>> (0 &&& 31)))) (hp I J b)) : am_R E mJ0_length_8abf5 0 [some (.ref 1012)] [] (hp I J b) 64 64 Q := by
  refine am_aload_n rfl rfl dJ0_length_8abf5_0 ?_
  refine am_strV (i := 2) dJ0_length_8abf5_1 fsJ0_9 (by decide) rfl ?_
  refine am_strL (i := 2) dJ0_length_8abf5_4 (by decide) rfl ?_
  refine am_aload_n rfl rfl dJ0_length_8abf5_5 ?_
  refine am_invT (i := 2) (As := []) (lsZ := [some (.ref 1012)]) (st := [.int (Int32.ofNat (am_sn.getD 2 0))]) dJ0_length_8abf5_6 hJ0_coder_7d493 lkJ0_335 ⟨by decide, by decide⟩ rfl (by decide) rfl rfl rfl (Nat.le_of_ble_eq_true rfl) rfl (Nat.le_of_ble_eq_true rfl) ⟨Nat.le_refl _, Nat.le_refl _⟩ (tJ0_coder_2  ?_)
  show am_R E mJ0_length_8abf5 9 [some (.ref 1012)] [.int 0, .int (Int32.ofNat (am_sn.getD 2 0))] (hp I J b) 64 64 Q
  refine am_ishr dJ0_length_8abf5_9 ?_
  exact am_iret dJ0_length_8abf5_10 rfl rfl wp
theorem tJ0_length_2 (k : Q (some (.int 4)) (hp I J b)) : am_R E mJ0_length_8abf5 0 [some (.ref 1012)] [] (hp I J b) 64 64 Q := bJ0_length_8abf5_w2_0 k
theorem bJ1_charAt_3b067_w2_0 {E : Nat × (Nat → Int32)} {I : Nat → Nat → Int32} {J : Nat → Nat → Int64} {b : Bool} {a1 : Int32} {Q : Option Value → am_H → Prop}  (wp : (¬ a1 < 0) ∧ (a1 < (Int32.ofNat (am_sn.getD 2 0))) ∧ vp_in a1 4 ∧ (narrow .char (.int (Int32.toUInt32 (((am_sb.getD 2 []).getD (Int32.toNatClampNeg a1) 0) &&& 255) % 65536).toInt32) = .int (Int32.toUInt32 (((am_sb.getD 2 []).getD (Int32.toNatClampNeg a1) 0) &&& 255) % 65536).toInt32) ∧ Q (some (.int (Int32.toUInt32 (((am_sb.getD 2 []).getD (Int32.toNatClampNeg a1) 0) &&& 255) % 65536).toInt32)) (hp I J b)) : am_R E mJ1_charAt_3b067 0 [some (.ref 1022), some (.int a1)] [] (hp I J b) 64 64 Q := by
  refine am_iload_n rfl rfl dJ1_charAt_3b067_0 ?_
  refine am_aload_n rfl rfl dJ1_charAt_3b067_1 ?_
  refine am_strL (i := 2) dJ1_charAt_3b067_2 (by decide) rfl ?_
  obtain ⟨w1, wp⟩ := wp
  obtain ⟨w2, wp⟩ := wp
  refine am_invS (As := [.int a1, .int (Int32.ofNat (am_sn.getD 2 0))]) (lsZ := [some (.int a1), some (.int (Int32.ofNat (am_sn.getD 2 0)))]) (st := []) dJ1_charAt_3b067_3 hJ0_checkIndex_df160 lkJ1_9 ⟨by decide, by decide⟩ rfl rfl (Nat.le_of_ble_eq_true rfl) rfl (Nat.le_of_ble_eq_true rfl) ⟨Nat.le_refl _, Nat.le_refl _⟩ (tJ0_checkIndex w1 w2 ?_)
  show am_R E mJ1_charAt_3b067 6 [some (.ref 1022), some (.int a1)] [] (hp I J b) 64 64 Q
  refine am_aload_n rfl rfl dJ1_charAt_3b067_6 ?_
  refine am_iload_n rfl rfl dJ1_charAt_3b067_7 ?_
  obtain ⟨w3, wp⟩ := wp
  refine am_strB (i := 2) dJ1_charAt_3b067_8 (by decide) rfl w3 ?_
  refine am_sipush 255 rfl dJ1_charAt_3b067_9 ?_
  refine am_iand dJ1_charAt_3b067_12 ?_
  refine am_i2c dJ1_charAt_3b067_13 ?_
  exact am_iret dJ1_charAt_3b067_14 rfl wp.1 wp.2
theorem tJ1_charAt_2 {a1 : Int32} {j : Nat} (e : a1 = nI j) (hj : j < 4) (k : Q (some (.int ((am_sb.getD 2 []).getD j 0))) (hp I J b)) : am_R E mJ1_charAt_3b067 0 [some (.ref 1022), some (.int a1)] [] (hp I J b) 64 64 Q := by
  obtain ⟨v1, v2⟩ := am_vin e hj (by decide)
  obtain ⟨s1, s2, s3⟩ := sb_ok 2 (by decide) j hj
  subst e
  refine bJ1_charAt_3b067_w2_0 ⟨nI_pos (by omega), (nI_ltI (b := 4) (by omega) (by omega)).mpr hj, v1, ?_, ?_⟩
  · rw [v2]; exact s1
  · rw [v2, s2]; exact k
theorem bJ0_charAt_5068e_w2_0 {E : Nat × (Nat → Int32)} {I : Nat → Nat → Int32} {J : Nat → Nat → Int64} {b : Bool} {a1 : Int32} {Q : Option Value → am_H → Prop}  (wp : ∃ j1, a1 = nI j1 ∧ j1 < 4 ∧ (narrow .char (.int ((am_sb.getD 2 []).getD j1 0)) = .int ((am_sb.getD 2 []).getD j1 0)) ∧ Q (some (.int ((am_sb.getD 2 []).getD j1 0))) (hp I J b)) : am_R E mJ0_charAt_5068e 0 [some (.ref 1012), some (.int a1)] [] (hp I J b) 64 64 Q := by
  refine am_aload_n rfl rfl dJ0_charAt_5068e_0 ?_
  refine am_invT (i := 2) (As := []) (lsZ := [some (.ref 1012)]) (st := []) dJ0_charAt_5068e_1 hJ0_isLatin1_aae02 lkJ0_492 ⟨by decide, by decide⟩ rfl (by decide) rfl rfl rfl (Nat.le_of_ble_eq_true rfl) rfl (Nat.le_of_ble_eq_true rfl) ⟨Nat.le_refl _, Nat.le_refl _⟩ (tJ0_isLatin1_2  ?_)
  show am_R E mJ0_charAt_5068e 4 [some (.ref 1012), some (.int a1)] [.int 1] (hp I J b) 64 64 Q
  refine am_if_eq dJ0_charAt_5068e_4 (tgt := 16) rfl (fun hc => absurd hc (by decide)) (fun _ => ?_)
  refine am_aload_n rfl rfl dJ0_charAt_5068e_7 ?_
  refine am_strV (i := 2) dJ0_charAt_5068e_8 fsJ0_9 (by decide) rfl ?_
  refine am_iload_n rfl rfl dJ0_charAt_5068e_11 ?_
  obtain ⟨j1, e1, w1, wp⟩ := wp
  refine am_invS (As := [.ref 1022, .int a1]) (lsZ := [some (.ref 1022), some (.int a1)]) (st := []) dJ0_charAt_5068e_12 hJ1_charAt_3b067 lkJ0_495 ⟨by decide, by decide⟩ rfl rfl (Nat.le_of_ble_eq_true rfl) rfl (Nat.le_of_ble_eq_true rfl) ⟨Nat.le_refl _, Nat.le_refl _⟩ (tJ1_charAt_2 (j := j1) e1 w1 ?_)
  show am_R E mJ0_charAt_5068e 15 [some (.ref 1012), some (.int a1)] [.int ((am_sb.getD 2 []).getD j1 0)] (hp I J b) 64 64 Q
  exact am_iret dJ0_charAt_5068e_15 rfl wp.1 wp.2
theorem tJ0_charAt_2 {a1 : Int32} {j : Nat} (e : a1 = nI j) (hj : j < 4) (k : Q (some (.int ((am_sb.getD 2 []).getD j 0))) (hp I J b)) : am_R E mJ0_charAt_5068e 0 [some (.ref 1012), some (.int a1)] [] (hp I J b) 64 64 Q := by
  refine bJ0_charAt_5068e_w2_0 ⟨j, e, hj, ?_⟩
  exact ⟨(sb_ok 2 (by decide) j hj).2.2, k⟩
theorem bX6_spells_w2_0 {E : Nat × (Nat → Int32)} {I : Nat → Nat → Int32} {J : Nat → Nat → Int64} {b : Bool}  {Q : Option Value → am_H → Prop}  (wp : ((((I 1 5) - (I 1 4)) = 4 → am_R E mX6_spells 20 [some (.ref 1), some (.ref 1012), some (.int 0)] [] (hp I J b) 64 64 Q) ∧ (¬ ((I 1 5) - (I 1 4)) = 4 → Q (some (.int 0)) (hp I J b)))) : am_R E mX6_spells 0 [some (.ref 1), some (.ref 1012), none] [] (hp I J b) 64 64 Q := by
  refine am_aload_n rfl rfl dX6_spells_0 ?_
  refine am_getI dX6_spells_1 flX6_22 (Or.inl rfl) rfl (by decide) ?_
  refine am_aload_n rfl rfl dX6_spells_4 ?_
  refine am_getI dX6_spells_5 flX6_32 (Or.inl rfl) rfl (by decide) ?_
  refine am_isub dX6_spells_8 ?_
  refine am_aload_n rfl rfl dX6_spells_9 ?_
  refine am_invT (i := 2) (As := []) (lsZ := [some (.ref 1012)]) (st := [.int ((I 1 5) - (I 1 4))]) dX6_spells_10 hJ0_length_8abf5 lkX6_82 ⟨by decide, by decide⟩ rfl (by decide) rfl rfl rfl (Nat.le_of_ble_eq_true rfl) rfl (Nat.le_of_ble_eq_true rfl) ⟨Nat.le_refl _, Nat.le_refl _⟩ (tJ0_length_2  ?_)
  show am_R E mX6_spells 13 [some (.ref 1), some (.ref 1012), none] [.int 4, .int ((I 1 5) - (I 1 4))] (hp I J b) 64 64 Q
  refine am_icmp_eq dX6_spells_13 (tgt := 18) rfl (fun hc1 => ?_) (fun hc1 => ?_)
  · have wp := wp.1 hc1
    refine am_iconst 0 rfl dX6_spells_18 ?_
    refine am_istore_n (ls' := [some (.ref 1), some (.ref 1012), some (.int 0)]) rfl (by decide) rfl rfl dX6_spells_19 ?_
    exact am_R.forget wp ⟨rfl, ⟨rfl, ⟨rfl, trivial⟩⟩⟩
  · have wp := wp.2 hc1
    refine am_iconst 0 rfl dX6_spells_16 ?_
    exact am_iret dX6_spells_17 rfl (by decide) wp
theorem bX6_spells_w2_20 {E : Nat × (Nat → Int32)} {I : Nat → Nat → Int32} {J : Nat → Nat → Int64} {b : Bool} {a2 : Int32} {Q : Option Value → am_H → Prop}  (wp : ((4 ≤ a2 → Q (some (.int 1)) (hp I J b)) ∧ (¬ 4 ≤ a2 → ∃ j2, ((I 1 4) + a2) = nI j2 ∧ j2 < 200 ∧ ∃ j3, a2 = nI j3 ∧ j3 < 4 ∧ (((I 2 j2) = ((am_sb.getD 2 []).getD j3 0) → am_R E mX6_spells 20 [some (.ref 1), some (.ref 1012), some (.int (a2 + 1))] [] (hp I J b) 64 64 Q) ∧ (¬ (I 2 j2) = ((am_sb.getD 2 []).getD j3 0) → Q (some (.int 0)) (hp I J b)))))) : am_R E mX6_spells 20 [some (.ref 1), some (.ref 1012), some (.int a2)] [] (hp I J b) 64 64 Q := by
  refine am_iload_n rfl rfl dX6_spells_20 ?_
  refine am_aload_n rfl rfl dX6_spells_21 ?_
  refine am_invT (i := 2) (As := []) (lsZ := [some (.ref 1012)]) (st := [.int a2]) dX6_spells_22 hJ0_length_8abf5 lkX6_82 ⟨by decide, by decide⟩ rfl (by decide) rfl rfl rfl (Nat.le_of_ble_eq_true rfl) rfl (Nat.le_of_ble_eq_true rfl) ⟨Nat.le_refl _, Nat.le_refl _⟩ (tJ0_length_2  ?_)
  show am_R E mX6_spells 25 [some (.ref 1), some (.ref 1012), some (.int a2)] [.int 4, .int a2] (hp I J b) 64 64 Q
  refine am_icmp_ge dX6_spells_25 (tgt := 55) rfl (fun hc1 => ?_) (fun hc1 => ?_)
  · have wp := wp.1 hc1
    refine am_iconst 1 rfl dX6_spells_55 ?_
    exact am_iret dX6_spells_56 rfl (by decide) wp
  · have wp := wp.2 hc1
    refine am_aload_n rfl rfl dX6_spells_28 ?_
    refine am_getA (r := 2) dX6_spells_29 flX6_9 (Or.inr ⟨_, rfl⟩) rfl (by decide) rfl ?_
    refine am_aload_n rfl rfl dX6_spells_32 ?_
    refine am_getI dX6_spells_33 flX6_32 (Or.inl rfl) rfl (by decide) ?_
    refine am_iload_n rfl rfl dX6_spells_36 ?_
    refine am_iadd dX6_spells_37 ?_
    obtain ⟨j2, e2, w2, wp⟩ := wp
    refine am_ialdN (j := j2) dX6_spells_38 rfl (by decide) e2 w2 (by decide) ?_
    refine am_aload_n rfl rfl dX6_spells_39 ?_
    refine am_iload_n rfl rfl dX6_spells_40 ?_
    obtain ⟨j3, e3, w3, wp⟩ := wp
    refine am_invT (i := 2) (As := [.int a2]) (lsZ := [some (.ref 1012), some (.int a2)]) (st := [.int (I 2 j2)]) dX6_spells_41 hJ0_charAt_5068e lkX6_86 ⟨by decide, by decide⟩ rfl (by decide) rfl rfl rfl (Nat.le_of_ble_eq_true rfl) rfl (Nat.le_of_ble_eq_true rfl) ⟨Nat.le_refl _, Nat.le_refl _⟩ (tJ0_charAt_2 (j := j3) e3 w3 ?_)
    show am_R E mX6_spells 44 [some (.ref 1), some (.ref 1012), some (.int a2)] [.int ((am_sb.getD 2 []).getD j3 0), .int (I 2 j2)] (hp I J b) 64 64 Q
    refine am_icmp_eq dX6_spells_44 (tgt := 49) rfl (fun hc4 => ?_) (fun hc4 => ?_)
    · have wp := wp.1 hc4
      refine am_iinc (ls' := [some (.ref 1), some (.ref 1012), some (.int (a2 + 1))]) (by decide) rfl rfl rfl dX6_spells_49 ?_
      refine am_goto dX6_spells_52 (tgt := 20) rfl ?_
      exact am_R.forget wp ⟨rfl, ⟨rfl, ⟨rfl, trivial⟩⟩⟩
    · have wp := wp.2 hc4
      refine am_iconst 0 rfl dX6_spells_47 ?_
      exact am_iret dX6_spells_48 rfl (by decide) wp
theorem bJ0_coder_7d493_w3_0 {E : Nat × (Nat → Int32)} {I : Nat → Nat → Int32} {J : Nat → Nat → Int64} {b : Bool}  {Q : Option Value → am_H → Prop}  (wp : Q (some (.int 0)) (hp I J b)) : am_R E mJ0_coder_7d493 0 [some (.ref 1013)] [] (hp I J b) 64 64 Q := by
  refine am_gsC dJ0_coder_7d493_0 fsJ0_38 ?_
  refine am_if_eq dJ0_coder_7d493_3 (tgt := 13) rfl (fun hc => absurd hc (by decide)) (fun _ => ?_)
  refine am_aload_n rfl rfl dJ0_coder_7d493_6 ?_
  refine am_strC (i := 3) dJ0_coder_7d493_7 fsJ0_15 (by decide) rfl ?_
  refine am_goto dJ0_coder_7d493_10 (tgt := 14) rfl ?_
  exact am_iret dJ0_coder_7d493_14 rfl (by decide) wp
theorem tJ0_coder_3 (k : Q (some (.int 0)) (hp I J b)) : am_R E mJ0_coder_7d493 0 [some (.ref 1013)] [] (hp I J b) 64 64 Q := bJ0_coder_7d493_w3_0 k
theorem bJ0_isLatin1_aae02_w3_0 {E : Nat × (Nat → Int32)} {I : Nat → Nat → Int32} {J : Nat → Nat → Int64} {b : Bool}  {Q : Option Value → am_H → Prop}  (wp : Q (some (.int 1)) (hp I J b)) : am_R E mJ0_isLatin1_aae02 0 [some (.ref 1013)] [] (hp I J b) 64 64 Q := by
  refine am_gsC dJ0_isLatin1_aae02_0 fsJ0_38 ?_
  refine am_if_eq dJ0_isLatin1_aae02_3 (tgt := 17) rfl (fun hc => absurd hc (by decide)) (fun _ => ?_)
  refine am_aload_n rfl rfl dJ0_isLatin1_aae02_6 ?_
  refine am_strC (i := 3) dJ0_isLatin1_aae02_7 fsJ0_15 (by decide) rfl ?_
  refine am_if_ne dJ0_isLatin1_aae02_10 (tgt := 17) rfl (fun hc => absurd hc (by decide)) (fun _ => ?_)
  refine am_iconst 1 rfl dJ0_isLatin1_aae02_13 ?_
  refine am_goto dJ0_isLatin1_aae02_14 (tgt := 18) rfl ?_
  exact am_iret dJ0_isLatin1_aae02_18 rfl (by decide) wp
theorem tJ0_isLatin1_3 (k : Q (some (.int 1)) (hp I J b)) : am_R E mJ0_isLatin1_aae02 0 [some (.ref 1013)] [] (hp I J b) 64 64 Q := bJ0_isLatin1_aae02_w3_0 k
theorem bJ0_length_8abf5_w3_0 {E : Nat × (Nat → Int32)} {I : Nat → Nat → Int32} {J : Nat → Nat → Int64} {b : Bool}  {Q : Option Value → am_H → Prop}  (wp : Q (some (.int ((Int32.ofNat (am_sn.getD 3 0)) >>> (0 &&& 31)))) (hp I J b)) : am_R E mJ0_length_8abf5 0 [some (.ref 1013)] [] (hp I J b) 64 64 Q := by
  refine am_aload_n rfl rfl dJ0_length_8abf5_0 ?_
  refine am_strV (i := 3) dJ0_length_8abf5_1 fsJ0_9 (by decide) rfl ?_
  refine am_strL (i := 3) dJ0_length_8abf5_4 (by decide) rfl ?_
  refine am_aload_n rfl rfl dJ0_length_8abf5_5 ?_
  refine am_invT (i := 3) (As := []) (lsZ := [some (.ref 1013)]) (st := [.int (Int32.ofNat (am_sn.getD 3 0))]) dJ0_length_8abf5_6 hJ0_coder_7d493 lkJ0_335 ⟨by decide, by decide⟩ rfl (by decide) rfl rfl rfl (Nat.le_of_ble_eq_true rfl) rfl (Nat.le_of_ble_eq_true rfl) ⟨Nat.le_refl _, Nat.le_refl _⟩ (tJ0_coder_3  ?_)
  show am_R E mJ0_length_8abf5 9 [some (.ref 1013)] [.int 0, .int (Int32.ofNat (am_sn.getD 3 0))] (hp I J b) 64 64 Q
  refine am_ishr dJ0_length_8abf5_9 ?_
  exact am_iret dJ0_length_8abf5_10 rfl rfl wp
theorem tJ0_length_3 (k : Q (some (.int 5)) (hp I J b)) : am_R E mJ0_length_8abf5 0 [some (.ref 1013)] [] (hp I J b) 64 64 Q := bJ0_length_8abf5_w3_0 k
theorem bJ1_charAt_3b067_w3_0 {E : Nat × (Nat → Int32)} {I : Nat → Nat → Int32} {J : Nat → Nat → Int64} {b : Bool} {a1 : Int32} {Q : Option Value → am_H → Prop}  (wp : (¬ a1 < 0) ∧ (a1 < (Int32.ofNat (am_sn.getD 3 0))) ∧ vp_in a1 5 ∧ (narrow .char (.int (Int32.toUInt32 (((am_sb.getD 3 []).getD (Int32.toNatClampNeg a1) 0) &&& 255) % 65536).toInt32) = .int (Int32.toUInt32 (((am_sb.getD 3 []).getD (Int32.toNatClampNeg a1) 0) &&& 255) % 65536).toInt32) ∧ Q (some (.int (Int32.toUInt32 (((am_sb.getD 3 []).getD (Int32.toNatClampNeg a1) 0) &&& 255) % 65536).toInt32)) (hp I J b)) : am_R E mJ1_charAt_3b067 0 [some (.ref 1023), some (.int a1)] [] (hp I J b) 64 64 Q := by
  refine am_iload_n rfl rfl dJ1_charAt_3b067_0 ?_
  refine am_aload_n rfl rfl dJ1_charAt_3b067_1 ?_
  refine am_strL (i := 3) dJ1_charAt_3b067_2 (by decide) rfl ?_
  obtain ⟨w1, wp⟩ := wp
  obtain ⟨w2, wp⟩ := wp
  refine am_invS (As := [.int a1, .int (Int32.ofNat (am_sn.getD 3 0))]) (lsZ := [some (.int a1), some (.int (Int32.ofNat (am_sn.getD 3 0)))]) (st := []) dJ1_charAt_3b067_3 hJ0_checkIndex_df160 lkJ1_9 ⟨by decide, by decide⟩ rfl rfl (Nat.le_of_ble_eq_true rfl) rfl (Nat.le_of_ble_eq_true rfl) ⟨Nat.le_refl _, Nat.le_refl _⟩ (tJ0_checkIndex w1 w2 ?_)
  show am_R E mJ1_charAt_3b067 6 [some (.ref 1023), some (.int a1)] [] (hp I J b) 64 64 Q
  refine am_aload_n rfl rfl dJ1_charAt_3b067_6 ?_
  refine am_iload_n rfl rfl dJ1_charAt_3b067_7 ?_
  obtain ⟨w3, wp⟩ := wp
  refine am_strB (i := 3) dJ1_charAt_3b067_8 (by decide) rfl w3 ?_
  refine am_sipush 255 rfl dJ1_charAt_3b067_9 ?_
  refine am_iand dJ1_charAt_3b067_12 ?_
  refine am_i2c dJ1_charAt_3b067_13 ?_
  exact am_iret dJ1_charAt_3b067_14 rfl wp.1 wp.2
theorem tJ1_charAt_3 {a1 : Int32} {j : Nat} (e : a1 = nI j) (hj : j < 5) (k : Q (some (.int ((am_sb.getD 3 []).getD j 0))) (hp I J b)) : am_R E mJ1_charAt_3b067 0 [some (.ref 1023), some (.int a1)] [] (hp I J b) 64 64 Q := by
  obtain ⟨v1, v2⟩ := am_vin e hj (by decide)
  obtain ⟨s1, s2, s3⟩ := sb_ok 3 (by decide) j hj
  subst e
  refine bJ1_charAt_3b067_w3_0 ⟨nI_pos (by omega), (nI_ltI (b := 5) (by omega) (by omega)).mpr hj, v1, ?_, ?_⟩
  · rw [v2]; exact s1
  · rw [v2, s2]; exact k
theorem bJ0_charAt_5068e_w3_0 {E : Nat × (Nat → Int32)} {I : Nat → Nat → Int32} {J : Nat → Nat → Int64} {b : Bool} {a1 : Int32} {Q : Option Value → am_H → Prop}  (wp : ∃ j1, a1 = nI j1 ∧ j1 < 5 ∧ (narrow .char (.int ((am_sb.getD 3 []).getD j1 0)) = .int ((am_sb.getD 3 []).getD j1 0)) ∧ Q (some (.int ((am_sb.getD 3 []).getD j1 0))) (hp I J b)) : am_R E mJ0_charAt_5068e 0 [some (.ref 1013), some (.int a1)] [] (hp I J b) 64 64 Q := by
  refine am_aload_n rfl rfl dJ0_charAt_5068e_0 ?_
  refine am_invT (i := 3) (As := []) (lsZ := [some (.ref 1013)]) (st := []) dJ0_charAt_5068e_1 hJ0_isLatin1_aae02 lkJ0_492 ⟨by decide, by decide⟩ rfl (by decide) rfl rfl rfl (Nat.le_of_ble_eq_true rfl) rfl (Nat.le_of_ble_eq_true rfl) ⟨Nat.le_refl _, Nat.le_refl _⟩ (tJ0_isLatin1_3  ?_)
  show am_R E mJ0_charAt_5068e 4 [some (.ref 1013), some (.int a1)] [.int 1] (hp I J b) 64 64 Q
  refine am_if_eq dJ0_charAt_5068e_4 (tgt := 16) rfl (fun hc => absurd hc (by decide)) (fun _ => ?_)
  refine am_aload_n rfl rfl dJ0_charAt_5068e_7 ?_
  refine am_strV (i := 3) dJ0_charAt_5068e_8 fsJ0_9 (by decide) rfl ?_
  refine am_iload_n rfl rfl dJ0_charAt_5068e_11 ?_
  obtain ⟨j1, e1, w1, wp⟩ := wp
  refine am_invS (As := [.ref 1023, .int a1]) (lsZ := [some (.ref 1023), some (.int a1)]) (st := []) dJ0_charAt_5068e_12 hJ1_charAt_3b067 lkJ0_495 ⟨by decide, by decide⟩ rfl rfl (Nat.le_of_ble_eq_true rfl) rfl (Nat.le_of_ble_eq_true rfl) ⟨Nat.le_refl _, Nat.le_refl _⟩ (tJ1_charAt_3 (j := j1) e1 w1 ?_)
  show am_R E mJ0_charAt_5068e 15 [some (.ref 1013), some (.int a1)] [.int ((am_sb.getD 3 []).getD j1 0)] (hp I J b) 64 64 Q
  exact am_iret dJ0_charAt_5068e_15 rfl wp.1 wp.2
theorem tJ0_charAt_3 {a1 : Int32} {j : Nat} (e : a1 = nI j) (hj : j < 5) (k : Q (some (.int ((am_sb.getD 3 []).getD j 0))) (hp I J b)) : am_R E mJ0_charAt_5068e 0 [some (.ref 1013), some (.int a1)] [] (hp I J b) 64 64 Q := by
  refine bJ0_charAt_5068e_w3_0 ⟨j, e, hj, ?_⟩
  exact ⟨(sb_ok 3 (by decide) j hj).2.2, k⟩
theorem bX6_spells_w3_0 {E : Nat × (Nat → Int32)} {I : Nat → Nat → Int32} {J : Nat → Nat → Int64} {b : Bool}  {Q : Option Value → am_H → Prop}  (wp : ((((I 1 5) - (I 1 4)) = 5 → am_R E mX6_spells 20 [some (.ref 1), some (.ref 1013), some (.int 0)] [] (hp I J b) 64 64 Q) ∧ (¬ ((I 1 5) - (I 1 4)) = 5 → Q (some (.int 0)) (hp I J b)))) : am_R E mX6_spells 0 [some (.ref 1), some (.ref 1013), none] [] (hp I J b) 64 64 Q := by
  refine am_aload_n rfl rfl dX6_spells_0 ?_
  refine am_getI dX6_spells_1 flX6_22 (Or.inl rfl) rfl (by decide) ?_
  refine am_aload_n rfl rfl dX6_spells_4 ?_
  refine am_getI dX6_spells_5 flX6_32 (Or.inl rfl) rfl (by decide) ?_
  refine am_isub dX6_spells_8 ?_
  refine am_aload_n rfl rfl dX6_spells_9 ?_
  refine am_invT (i := 3) (As := []) (lsZ := [some (.ref 1013)]) (st := [.int ((I 1 5) - (I 1 4))]) dX6_spells_10 hJ0_length_8abf5 lkX6_82 ⟨by decide, by decide⟩ rfl (by decide) rfl rfl rfl (Nat.le_of_ble_eq_true rfl) rfl (Nat.le_of_ble_eq_true rfl) ⟨Nat.le_refl _, Nat.le_refl _⟩ (tJ0_length_3  ?_)
  show am_R E mX6_spells 13 [some (.ref 1), some (.ref 1013), none] [.int 5, .int ((I 1 5) - (I 1 4))] (hp I J b) 64 64 Q
  refine am_icmp_eq dX6_spells_13 (tgt := 18) rfl (fun hc1 => ?_) (fun hc1 => ?_)
  · have wp := wp.1 hc1
    refine am_iconst 0 rfl dX6_spells_18 ?_
    refine am_istore_n (ls' := [some (.ref 1), some (.ref 1013), some (.int 0)]) rfl (by decide) rfl rfl dX6_spells_19 ?_
    exact am_R.forget wp ⟨rfl, ⟨rfl, ⟨rfl, trivial⟩⟩⟩
  · have wp := wp.2 hc1
    refine am_iconst 0 rfl dX6_spells_16 ?_
    exact am_iret dX6_spells_17 rfl (by decide) wp
theorem bX6_spells_w3_20 {E : Nat × (Nat → Int32)} {I : Nat → Nat → Int32} {J : Nat → Nat → Int64} {b : Bool} {a2 : Int32} {Q : Option Value → am_H → Prop}  (wp : ((5 ≤ a2 → Q (some (.int 1)) (hp I J b)) ∧ (¬ 5 ≤ a2 → ∃ j2, ((I 1 4) + a2) = nI j2 ∧ j2 < 200 ∧ ∃ j3, a2 = nI j3 ∧ j3 < 5 ∧ (((I 2 j2) = ((am_sb.getD 3 []).getD j3 0) → am_R E mX6_spells 20 [some (.ref 1), some (.ref 1013), some (.int (a2 + 1))] [] (hp I J b) 64 64 Q) ∧ (¬ (I 2 j2) = ((am_sb.getD 3 []).getD j3 0) → Q (some (.int 0)) (hp I J b)))))) : am_R E mX6_spells 20 [some (.ref 1), some (.ref 1013), some (.int a2)] [] (hp I J b) 64 64 Q := by
  refine am_iload_n rfl rfl dX6_spells_20 ?_
  refine am_aload_n rfl rfl dX6_spells_21 ?_
  refine am_invT (i := 3) (As := []) (lsZ := [some (.ref 1013)]) (st := [.int a2]) dX6_spells_22 hJ0_length_8abf5 lkX6_82 ⟨by decide, by decide⟩ rfl (by decide) rfl rfl rfl (Nat.le_of_ble_eq_true rfl) rfl (Nat.le_of_ble_eq_true rfl) ⟨Nat.le_refl _, Nat.le_refl _⟩ (tJ0_length_3  ?_)
  show am_R E mX6_spells 25 [some (.ref 1), some (.ref 1013), some (.int a2)] [.int 5, .int a2] (hp I J b) 64 64 Q
  refine am_icmp_ge dX6_spells_25 (tgt := 55) rfl (fun hc1 => ?_) (fun hc1 => ?_)
  · have wp := wp.1 hc1
    refine am_iconst 1 rfl dX6_spells_55 ?_
    exact am_iret dX6_spells_56 rfl (by decide) wp
  · have wp := wp.2 hc1
    refine am_aload_n rfl rfl dX6_spells_28 ?_
    refine am_getA (r := 2) dX6_spells_29 flX6_9 (Or.inr ⟨_, rfl⟩) rfl (by decide) rfl ?_
    refine am_aload_n rfl rfl dX6_spells_32 ?_
    refine am_getI dX6_spells_33 flX6_32 (Or.inl rfl) rfl (by decide) ?_
    refine am_iload_n rfl rfl dX6_spells_36 ?_
    refine am_iadd dX6_spells_37 ?_
    obtain ⟨j2, e2, w2, wp⟩ := wp
    refine am_ialdN (j := j2) dX6_spells_38 rfl (by decide) e2 w2 (by decide) ?_
    refine am_aload_n rfl rfl dX6_spells_39 ?_
    refine am_iload_n rfl rfl dX6_spells_40 ?_
    obtain ⟨j3, e3, w3, wp⟩ := wp
    refine am_invT (i := 3) (As := [.int a2]) (lsZ := [some (.ref 1013), some (.int a2)]) (st := [.int (I 2 j2)]) dX6_spells_41 hJ0_charAt_5068e lkX6_86 ⟨by decide, by decide⟩ rfl (by decide) rfl rfl rfl (Nat.le_of_ble_eq_true rfl) rfl (Nat.le_of_ble_eq_true rfl) ⟨Nat.le_refl _, Nat.le_refl _⟩ (tJ0_charAt_3 (j := j3) e3 w3 ?_)
    show am_R E mX6_spells 44 [some (.ref 1), some (.ref 1013), some (.int a2)] [.int ((am_sb.getD 3 []).getD j3 0), .int (I 2 j2)] (hp I J b) 64 64 Q
    refine am_icmp_eq dX6_spells_44 (tgt := 49) rfl (fun hc4 => ?_) (fun hc4 => ?_)
    · have wp := wp.1 hc4
      refine am_iinc (ls' := [some (.ref 1), some (.ref 1013), some (.int (a2 + 1))]) (by decide) rfl rfl rfl dX6_spells_49 ?_
      refine am_goto dX6_spells_52 (tgt := 20) rfl ?_
      exact am_R.forget wp ⟨rfl, ⟨rfl, ⟨rfl, trivial⟩⟩⟩
    · have wp := wp.2 hc4
      refine am_iconst 0 rfl dX6_spells_47 ?_
      exact am_iret dX6_spells_48 rfl (by decide) wp
theorem bJ0_coder_7d493_w4_0 {E : Nat × (Nat → Int32)} {I : Nat → Nat → Int32} {J : Nat → Nat → Int64} {b : Bool}  {Q : Option Value → am_H → Prop}  (wp : Q (some (.int 0)) (hp I J b)) : am_R E mJ0_coder_7d493 0 [some (.ref 1014)] [] (hp I J b) 64 64 Q := by
  refine am_gsC dJ0_coder_7d493_0 fsJ0_38 ?_
  refine am_if_eq dJ0_coder_7d493_3 (tgt := 13) rfl (fun hc => absurd hc (by decide)) (fun _ => ?_)
  refine am_aload_n rfl rfl dJ0_coder_7d493_6 ?_
  refine am_strC (i := 4) dJ0_coder_7d493_7 fsJ0_15 (by decide) rfl ?_
  refine am_goto dJ0_coder_7d493_10 (tgt := 14) rfl ?_
  exact am_iret dJ0_coder_7d493_14 rfl (by decide) wp
theorem tJ0_coder_4 (k : Q (some (.int 0)) (hp I J b)) : am_R E mJ0_coder_7d493 0 [some (.ref 1014)] [] (hp I J b) 64 64 Q := bJ0_coder_7d493_w4_0 k
theorem bJ0_isLatin1_aae02_w4_0 {E : Nat × (Nat → Int32)} {I : Nat → Nat → Int32} {J : Nat → Nat → Int64} {b : Bool}  {Q : Option Value → am_H → Prop}  (wp : Q (some (.int 1)) (hp I J b)) : am_R E mJ0_isLatin1_aae02 0 [some (.ref 1014)] [] (hp I J b) 64 64 Q := by
  refine am_gsC dJ0_isLatin1_aae02_0 fsJ0_38 ?_
  refine am_if_eq dJ0_isLatin1_aae02_3 (tgt := 17) rfl (fun hc => absurd hc (by decide)) (fun _ => ?_)
  refine am_aload_n rfl rfl dJ0_isLatin1_aae02_6 ?_
  refine am_strC (i := 4) dJ0_isLatin1_aae02_7 fsJ0_15 (by decide) rfl ?_
  refine am_if_ne dJ0_isLatin1_aae02_10 (tgt := 17) rfl (fun hc => absurd hc (by decide)) (fun _ => ?_)
  refine am_iconst 1 rfl dJ0_isLatin1_aae02_13 ?_
  refine am_goto dJ0_isLatin1_aae02_14 (tgt := 18) rfl ?_
  exact am_iret dJ0_isLatin1_aae02_18 rfl (by decide) wp
theorem tJ0_isLatin1_4 (k : Q (some (.int 1)) (hp I J b)) : am_R E mJ0_isLatin1_aae02 0 [some (.ref 1014)] [] (hp I J b) 64 64 Q := bJ0_isLatin1_aae02_w4_0 k
theorem bJ0_length_8abf5_w4_0 {E : Nat × (Nat → Int32)} {I : Nat → Nat → Int32} {J : Nat → Nat → Int64} {b : Bool}  {Q : Option Value → am_H → Prop}  (wp : Q (some (.int ((Int32.ofNat (am_sn.getD 4 0)) >>> (0 &&& 31)))) (hp I J b)) : am_R E mJ0_length_8abf5 0 [some (.ref 1014)] [] (hp I J b) 64 64 Q := by
  refine am_aload_n rfl rfl dJ0_length_8abf5_0 ?_
  refine am_strV (i := 4) dJ0_length_8abf5_1 fsJ0_9 (by decide) rfl ?_
  refine am_strL (i := 4) dJ0_length_8abf5_4 (by decide) rfl ?_
  refine am_aload_n rfl rfl dJ0_length_8abf5_5 ?_
  refine am_invT (i := 4) (As := []) (lsZ := [some (.ref 1014)]) (st := [.int (Int32.ofNat (am_sn.getD 4 0))]) dJ0_length_8abf5_6 hJ0_coder_7d493 lkJ0_335 ⟨by decide, by decide⟩ rfl (by decide) rfl rfl rfl (Nat.le_of_ble_eq_true rfl) rfl (Nat.le_of_ble_eq_true rfl) ⟨Nat.le_refl _, Nat.le_refl _⟩ (tJ0_coder_4  ?_)
  show am_R E mJ0_length_8abf5 9 [some (.ref 1014)] [.int 0, .int (Int32.ofNat (am_sn.getD 4 0))] (hp I J b) 64 64 Q
  refine am_ishr dJ0_length_8abf5_9 ?_
  exact am_iret dJ0_length_8abf5_10 rfl rfl wp
theorem tJ0_length_4 (k : Q (some (.int 6)) (hp I J b)) : am_R E mJ0_length_8abf5 0 [some (.ref 1014)] [] (hp I J b) 64 64 Q := bJ0_length_8abf5_w4_0 k
theorem bJ1_charAt_3b067_w4_0 {E : Nat × (Nat → Int32)} {I : Nat → Nat → Int32} {J : Nat → Nat → Int64} {b : Bool} {a1 : Int32} {Q : Option Value → am_H → Prop}  (wp : (¬ a1 < 0) ∧ (a1 < (Int32.ofNat (am_sn.getD 4 0))) ∧ vp_in a1 6 ∧ (narrow .char (.int (Int32.toUInt32 (((am_sb.getD 4 []).getD (Int32.toNatClampNeg a1) 0) &&& 255) % 65536).toInt32) = .int (Int32.toUInt32 (((am_sb.getD 4 []).getD (Int32.toNatClampNeg a1) 0) &&& 255) % 65536).toInt32) ∧ Q (some (.int (Int32.toUInt32 (((am_sb.getD 4 []).getD (Int32.toNatClampNeg a1) 0) &&& 255) % 65536).toInt32)) (hp I J b)) : am_R E mJ1_charAt_3b067 0 [some (.ref 1024), some (.int a1)] [] (hp I J b) 64 64 Q := by
  refine am_iload_n rfl rfl dJ1_charAt_3b067_0 ?_
  refine am_aload_n rfl rfl dJ1_charAt_3b067_1 ?_
  refine am_strL (i := 4) dJ1_charAt_3b067_2 (by decide) rfl ?_
  obtain ⟨w1, wp⟩ := wp
  obtain ⟨w2, wp⟩ := wp
  refine am_invS (As := [.int a1, .int (Int32.ofNat (am_sn.getD 4 0))]) (lsZ := [some (.int a1), some (.int (Int32.ofNat (am_sn.getD 4 0)))]) (st := []) dJ1_charAt_3b067_3 hJ0_checkIndex_df160 lkJ1_9 ⟨by decide, by decide⟩ rfl rfl (Nat.le_of_ble_eq_true rfl) rfl (Nat.le_of_ble_eq_true rfl) ⟨Nat.le_refl _, Nat.le_refl _⟩ (tJ0_checkIndex w1 w2 ?_)
  show am_R E mJ1_charAt_3b067 6 [some (.ref 1024), some (.int a1)] [] (hp I J b) 64 64 Q
  refine am_aload_n rfl rfl dJ1_charAt_3b067_6 ?_
  refine am_iload_n rfl rfl dJ1_charAt_3b067_7 ?_
  obtain ⟨w3, wp⟩ := wp
  refine am_strB (i := 4) dJ1_charAt_3b067_8 (by decide) rfl w3 ?_
  refine am_sipush 255 rfl dJ1_charAt_3b067_9 ?_
  refine am_iand dJ1_charAt_3b067_12 ?_
  refine am_i2c dJ1_charAt_3b067_13 ?_
  exact am_iret dJ1_charAt_3b067_14 rfl wp.1 wp.2
theorem tJ1_charAt_4 {a1 : Int32} {j : Nat} (e : a1 = nI j) (hj : j < 6) (k : Q (some (.int ((am_sb.getD 4 []).getD j 0))) (hp I J b)) : am_R E mJ1_charAt_3b067 0 [some (.ref 1024), some (.int a1)] [] (hp I J b) 64 64 Q := by
  obtain ⟨v1, v2⟩ := am_vin e hj (by decide)
  obtain ⟨s1, s2, s3⟩ := sb_ok 4 (by decide) j hj
  subst e
  refine bJ1_charAt_3b067_w4_0 ⟨nI_pos (by omega), (nI_ltI (b := 6) (by omega) (by omega)).mpr hj, v1, ?_, ?_⟩
  · rw [v2]; exact s1
  · rw [v2, s2]; exact k
theorem bJ0_charAt_5068e_w4_0 {E : Nat × (Nat → Int32)} {I : Nat → Nat → Int32} {J : Nat → Nat → Int64} {b : Bool} {a1 : Int32} {Q : Option Value → am_H → Prop}  (wp : ∃ j1, a1 = nI j1 ∧ j1 < 6 ∧ (narrow .char (.int ((am_sb.getD 4 []).getD j1 0)) = .int ((am_sb.getD 4 []).getD j1 0)) ∧ Q (some (.int ((am_sb.getD 4 []).getD j1 0))) (hp I J b)) : am_R E mJ0_charAt_5068e 0 [some (.ref 1014), some (.int a1)] [] (hp I J b) 64 64 Q := by
  refine am_aload_n rfl rfl dJ0_charAt_5068e_0 ?_
  refine am_invT (i := 4) (As := []) (lsZ := [some (.ref 1014)]) (st := []) dJ0_charAt_5068e_1 hJ0_isLatin1_aae02 lkJ0_492 ⟨by decide, by decide⟩ rfl (by decide) rfl rfl rfl (Nat.le_of_ble_eq_true rfl) rfl (Nat.le_of_ble_eq_true rfl) ⟨Nat.le_refl _, Nat.le_refl _⟩ (tJ0_isLatin1_4  ?_)
  show am_R E mJ0_charAt_5068e 4 [some (.ref 1014), some (.int a1)] [.int 1] (hp I J b) 64 64 Q
  refine am_if_eq dJ0_charAt_5068e_4 (tgt := 16) rfl (fun hc => absurd hc (by decide)) (fun _ => ?_)
  refine am_aload_n rfl rfl dJ0_charAt_5068e_7 ?_
  refine am_strV (i := 4) dJ0_charAt_5068e_8 fsJ0_9 (by decide) rfl ?_
  refine am_iload_n rfl rfl dJ0_charAt_5068e_11 ?_
  obtain ⟨j1, e1, w1, wp⟩ := wp
  refine am_invS (As := [.ref 1024, .int a1]) (lsZ := [some (.ref 1024), some (.int a1)]) (st := []) dJ0_charAt_5068e_12 hJ1_charAt_3b067 lkJ0_495 ⟨by decide, by decide⟩ rfl rfl (Nat.le_of_ble_eq_true rfl) rfl (Nat.le_of_ble_eq_true rfl) ⟨Nat.le_refl _, Nat.le_refl _⟩ (tJ1_charAt_4 (j := j1) e1 w1 ?_)
  show am_R E mJ0_charAt_5068e 15 [some (.ref 1014), some (.int a1)] [.int ((am_sb.getD 4 []).getD j1 0)] (hp I J b) 64 64 Q
  exact am_iret dJ0_charAt_5068e_15 rfl wp.1 wp.2
theorem tJ0_charAt_4 {a1 : Int32} {j : Nat} (e : a1 = nI j) (hj : j < 6) (k : Q (some (.int ((am_sb.getD 4 []).getD j 0))) (hp I J b)) : am_R E mJ0_charAt_5068e 0 [some (.ref 1014), some (.int a1)] [] (hp I J b) 64 64 Q := by
  refine bJ0_charAt_5068e_w4_0 ⟨j, e, hj, ?_⟩
  exact ⟨(sb_ok 4 (by decide) j hj).2.2, k⟩
theorem bX6_spells_w4_0 {E : Nat × (Nat → Int32)} {I : Nat → Nat → Int32} {J : Nat → Nat → Int64} {b : Bool}  {Q : Option Value → am_H → Prop}  (wp : ((((I 1 5) - (I 1 4)) = 6 → am_R E mX6_spells 20 [some (.ref 1), some (.ref 1014), some (.int 0)] [] (hp I J b) 64 64 Q) ∧ (¬ ((I 1 5) - (I 1 4)) = 6 → Q (some (.int 0)) (hp I J b)))) : am_R E mX6_spells 0 [some (.ref 1), some (.ref 1014), none] [] (hp I J b) 64 64 Q := by
  refine am_aload_n rfl rfl dX6_spells_0 ?_
  refine am_getI dX6_spells_1 flX6_22 (Or.inl rfl) rfl (by decide) ?_
  refine am_aload_n rfl rfl dX6_spells_4 ?_
  refine am_getI dX6_spells_5 flX6_32 (Or.inl rfl) rfl (by decide) ?_
  refine am_isub dX6_spells_8 ?_
  refine am_aload_n rfl rfl dX6_spells_9 ?_
  refine am_invT (i := 4) (As := []) (lsZ := [some (.ref 1014)]) (st := [.int ((I 1 5) - (I 1 4))]) dX6_spells_10 hJ0_length_8abf5 lkX6_82 ⟨by decide, by decide⟩ rfl (by decide) rfl rfl rfl (Nat.le_of_ble_eq_true rfl) rfl (Nat.le_of_ble_eq_true rfl) ⟨Nat.le_refl _, Nat.le_refl _⟩ (tJ0_length_4  ?_)
  show am_R E mX6_spells 13 [some (.ref 1), some (.ref 1014), none] [.int 6, .int ((I 1 5) - (I 1 4))] (hp I J b) 64 64 Q
  refine am_icmp_eq dX6_spells_13 (tgt := 18) rfl (fun hc1 => ?_) (fun hc1 => ?_)
  · have wp := wp.1 hc1
    refine am_iconst 0 rfl dX6_spells_18 ?_
    refine am_istore_n (ls' := [some (.ref 1), some (.ref 1014), some (.int 0)]) rfl (by decide) rfl rfl dX6_spells_19 ?_
    exact am_R.forget wp ⟨rfl, ⟨rfl, ⟨rfl, trivial⟩⟩⟩
  · have wp := wp.2 hc1
    refine am_iconst 0 rfl dX6_spells_16 ?_
    exact am_iret dX6_spells_17 rfl (by decide) wp
theorem bX6_spells_w4_20 {E : Nat × (Nat → Int32)} {I : Nat → Nat → Int32} {J : Nat → Nat → Int64} {b : Bool} {a2 : Int32} {Q : Option Value → am_H → Prop}  (wp : ((6 ≤ a2 → Q (some (.int 1)) (hp I J b)) ∧ (¬ 6 ≤ a2 → ∃ j2, ((I 1 4) + a2) = nI j2 ∧ j2 < 200 ∧ ∃ j3, a2 = nI j3 ∧ j3 < 6 ∧ (((I 2 j2) = ((am_sb.getD 4 []).getD j3 0) → am_R E mX6_spells 20 [some (.ref 1), some (.ref 1014), some (.int (a2 + 1))] [] (hp I J b) 64 64 Q) ∧ (¬ (I 2 j2) = ((am_sb.getD 4 []).getD j3 0) → Q (some (.int 0)) (hp I J b)))))) : am_R E mX6_spells 20 [some (.ref 1), some (.ref 1014), some (.int a2)] [] (hp I J b) 64 64 Q := by
  refine am_iload_n rfl rfl dX6_spells_20 ?_
  refine am_aload_n rfl rfl dX6_spells_21 ?_
  refine am_invT (i := 4) (As := []) (lsZ := [some (.ref 1014)]) (st := [.int a2]) dX6_spells_22 hJ0_length_8abf5 lkX6_82 ⟨by decide, by decide⟩ rfl (by decide) rfl rfl rfl (Nat.le_of_ble_eq_true rfl) rfl (Nat.le_of_ble_eq_true rfl) ⟨Nat.le_refl _, Nat.le_refl _⟩ (tJ0_length_4  ?_)
  show am_R E mX6_spells 25 [some (.ref 1), some (.ref 1014), some (.int a2)] [.int 6, .int a2] (hp I J b) 64 64 Q
  refine am_icmp_ge dX6_spells_25 (tgt := 55) rfl (fun hc1 => ?_) (fun hc1 => ?_)
  · have wp := wp.1 hc1
    refine am_iconst 1 rfl dX6_spells_55 ?_
    exact am_iret dX6_spells_56 rfl (by decide) wp
  · have wp := wp.2 hc1
    refine am_aload_n rfl rfl dX6_spells_28 ?_
    refine am_getA (r := 2) dX6_spells_29 flX6_9 (Or.inr ⟨_, rfl⟩) rfl (by decide) rfl ?_
    refine am_aload_n rfl rfl dX6_spells_32 ?_
    refine am_getI dX6_spells_33 flX6_32 (Or.inl rfl) rfl (by decide) ?_
    refine am_iload_n rfl rfl dX6_spells_36 ?_
    refine am_iadd dX6_spells_37 ?_
    obtain ⟨j2, e2, w2, wp⟩ := wp
    refine am_ialdN (j := j2) dX6_spells_38 rfl (by decide) e2 w2 (by decide) ?_
    refine am_aload_n rfl rfl dX6_spells_39 ?_
    refine am_iload_n rfl rfl dX6_spells_40 ?_
    obtain ⟨j3, e3, w3, wp⟩ := wp
    refine am_invT (i := 4) (As := [.int a2]) (lsZ := [some (.ref 1014), some (.int a2)]) (st := [.int (I 2 j2)]) dX6_spells_41 hJ0_charAt_5068e lkX6_86 ⟨by decide, by decide⟩ rfl (by decide) rfl rfl rfl (Nat.le_of_ble_eq_true rfl) rfl (Nat.le_of_ble_eq_true rfl) ⟨Nat.le_refl _, Nat.le_refl _⟩ (tJ0_charAt_4 (j := j3) e3 w3 ?_)
    show am_R E mX6_spells 44 [some (.ref 1), some (.ref 1014), some (.int a2)] [.int ((am_sb.getD 4 []).getD j3 0), .int (I 2 j2)] (hp I J b) 64 64 Q
    refine am_icmp_eq dX6_spells_44 (tgt := 49) rfl (fun hc4 => ?_) (fun hc4 => ?_)
    · have wp := wp.1 hc4
      refine am_iinc (ls' := [some (.ref 1), some (.ref 1014), some (.int (a2 + 1))]) (by decide) rfl rfl rfl dX6_spells_49 ?_
      refine am_goto dX6_spells_52 (tgt := 20) rfl ?_
      exact am_R.forget wp ⟨rfl, ⟨rfl, ⟨rfl, trivial⟩⟩⟩
    · have wp := wp.2 hc4
      refine am_iconst 0 rfl dX6_spells_47 ?_
      exact am_iret dX6_spells_48 rfl (by decide) wp
theorem bJ0_coder_7d493_w5_0 {E : Nat × (Nat → Int32)} {I : Nat → Nat → Int32} {J : Nat → Nat → Int64} {b : Bool}  {Q : Option Value → am_H → Prop}  (wp : Q (some (.int 0)) (hp I J b)) : am_R E mJ0_coder_7d493 0 [some (.ref 1015)] [] (hp I J b) 64 64 Q := by
  refine am_gsC dJ0_coder_7d493_0 fsJ0_38 ?_
  refine am_if_eq dJ0_coder_7d493_3 (tgt := 13) rfl (fun hc => absurd hc (by decide)) (fun _ => ?_)
  refine am_aload_n rfl rfl dJ0_coder_7d493_6 ?_
  refine am_strC (i := 5) dJ0_coder_7d493_7 fsJ0_15 (by decide) rfl ?_
  refine am_goto dJ0_coder_7d493_10 (tgt := 14) rfl ?_
  exact am_iret dJ0_coder_7d493_14 rfl (by decide) wp
theorem tJ0_coder_5 (k : Q (some (.int 0)) (hp I J b)) : am_R E mJ0_coder_7d493 0 [some (.ref 1015)] [] (hp I J b) 64 64 Q := bJ0_coder_7d493_w5_0 k
theorem bJ0_isLatin1_aae02_w5_0 {E : Nat × (Nat → Int32)} {I : Nat → Nat → Int32} {J : Nat → Nat → Int64} {b : Bool}  {Q : Option Value → am_H → Prop}  (wp : Q (some (.int 1)) (hp I J b)) : am_R E mJ0_isLatin1_aae02 0 [some (.ref 1015)] [] (hp I J b) 64 64 Q := by
  refine am_gsC dJ0_isLatin1_aae02_0 fsJ0_38 ?_
  refine am_if_eq dJ0_isLatin1_aae02_3 (tgt := 17) rfl (fun hc => absurd hc (by decide)) (fun _ => ?_)
  refine am_aload_n rfl rfl dJ0_isLatin1_aae02_6 ?_
  refine am_strC (i := 5) dJ0_isLatin1_aae02_7 fsJ0_15 (by decide) rfl ?_
  refine am_if_ne dJ0_isLatin1_aae02_10 (tgt := 17) rfl (fun hc => absurd hc (by decide)) (fun _ => ?_)
  refine am_iconst 1 rfl dJ0_isLatin1_aae02_13 ?_
  refine am_goto dJ0_isLatin1_aae02_14 (tgt := 18) rfl ?_
  exact am_iret dJ0_isLatin1_aae02_18 rfl (by decide) wp
theorem tJ0_isLatin1_5 (k : Q (some (.int 1)) (hp I J b)) : am_R E mJ0_isLatin1_aae02 0 [some (.ref 1015)] [] (hp I J b) 64 64 Q := bJ0_isLatin1_aae02_w5_0 k
theorem bJ0_length_8abf5_w5_0 {E : Nat × (Nat → Int32)} {I : Nat → Nat → Int32} {J : Nat → Nat → Int64} {b : Bool}  {Q : Option Value → am_H → Prop}  (wp : Q (some (.int ((Int32.ofNat (am_sn.getD 5 0)) >>> (0 &&& 31)))) (hp I J b)) : am_R E mJ0_length_8abf5 0 [some (.ref 1015)] [] (hp I J b) 64 64 Q := by
  refine am_aload_n rfl rfl dJ0_length_8abf5_0 ?_
  refine am_strV (i := 5) dJ0_length_8abf5_1 fsJ0_9 (by decide) rfl ?_
  refine am_strL (i := 5) dJ0_length_8abf5_4 (by decide) rfl ?_
  refine am_aload_n rfl rfl dJ0_length_8abf5_5 ?_
  refine am_invT (i := 5) (As := []) (lsZ := [some (.ref 1015)]) (st := [.int (Int32.ofNat (am_sn.getD 5 0))]) dJ0_length_8abf5_6 hJ0_coder_7d493 lkJ0_335 ⟨by decide, by decide⟩ rfl (by decide) rfl rfl rfl (Nat.le_of_ble_eq_true rfl) rfl (Nat.le_of_ble_eq_true rfl) ⟨Nat.le_refl _, Nat.le_refl _⟩ (tJ0_coder_5  ?_)
  show am_R E mJ0_length_8abf5 9 [some (.ref 1015)] [.int 0, .int (Int32.ofNat (am_sn.getD 5 0))] (hp I J b) 64 64 Q
  refine am_ishr dJ0_length_8abf5_9 ?_
  exact am_iret dJ0_length_8abf5_10 rfl rfl wp
theorem tJ0_length_5 (k : Q (some (.int 4)) (hp I J b)) : am_R E mJ0_length_8abf5 0 [some (.ref 1015)] [] (hp I J b) 64 64 Q := bJ0_length_8abf5_w5_0 k
theorem bJ1_charAt_3b067_w5_0 {E : Nat × (Nat → Int32)} {I : Nat → Nat → Int32} {J : Nat → Nat → Int64} {b : Bool} {a1 : Int32} {Q : Option Value → am_H → Prop}  (wp : (¬ a1 < 0) ∧ (a1 < (Int32.ofNat (am_sn.getD 5 0))) ∧ vp_in a1 4 ∧ (narrow .char (.int (Int32.toUInt32 (((am_sb.getD 5 []).getD (Int32.toNatClampNeg a1) 0) &&& 255) % 65536).toInt32) = .int (Int32.toUInt32 (((am_sb.getD 5 []).getD (Int32.toNatClampNeg a1) 0) &&& 255) % 65536).toInt32) ∧ Q (some (.int (Int32.toUInt32 (((am_sb.getD 5 []).getD (Int32.toNatClampNeg a1) 0) &&& 255) % 65536).toInt32)) (hp I J b)) : am_R E mJ1_charAt_3b067 0 [some (.ref 1025), some (.int a1)] [] (hp I J b) 64 64 Q := by
  refine am_iload_n rfl rfl dJ1_charAt_3b067_0 ?_
  refine am_aload_n rfl rfl dJ1_charAt_3b067_1 ?_
  refine am_strL (i := 5) dJ1_charAt_3b067_2 (by decide) rfl ?_
  obtain ⟨w1, wp⟩ := wp
  obtain ⟨w2, wp⟩ := wp
  refine am_invS (As := [.int a1, .int (Int32.ofNat (am_sn.getD 5 0))]) (lsZ := [some (.int a1), some (.int (Int32.ofNat (am_sn.getD 5 0)))]) (st := []) dJ1_charAt_3b067_3 hJ0_checkIndex_df160 lkJ1_9 ⟨by decide, by decide⟩ rfl rfl (Nat.le_of_ble_eq_true rfl) rfl (Nat.le_of_ble_eq_true rfl) ⟨Nat.le_refl _, Nat.le_refl _⟩ (tJ0_checkIndex w1 w2 ?_)
  show am_R E mJ1_charAt_3b067 6 [some (.ref 1025), some (.int a1)] [] (hp I J b) 64 64 Q
  refine am_aload_n rfl rfl dJ1_charAt_3b067_6 ?_
  refine am_iload_n rfl rfl dJ1_charAt_3b067_7 ?_
  obtain ⟨w3, wp⟩ := wp
  refine am_strB (i := 5) dJ1_charAt_3b067_8 (by decide) rfl w3 ?_
  refine am_sipush 255 rfl dJ1_charAt_3b067_9 ?_
  refine am_iand dJ1_charAt_3b067_12 ?_
  refine am_i2c dJ1_charAt_3b067_13 ?_
  exact am_iret dJ1_charAt_3b067_14 rfl wp.1 wp.2
theorem tJ1_charAt_5 {a1 : Int32} {j : Nat} (e : a1 = nI j) (hj : j < 4) (k : Q (some (.int ((am_sb.getD 5 []).getD j 0))) (hp I J b)) : am_R E mJ1_charAt_3b067 0 [some (.ref 1025), some (.int a1)] [] (hp I J b) 64 64 Q := by
  obtain ⟨v1, v2⟩ := am_vin e hj (by decide)
  obtain ⟨s1, s2, s3⟩ := sb_ok 5 (by decide) j hj
  subst e
  refine bJ1_charAt_3b067_w5_0 ⟨nI_pos (by omega), (nI_ltI (b := 4) (by omega) (by omega)).mpr hj, v1, ?_, ?_⟩
  · rw [v2]; exact s1
  · rw [v2, s2]; exact k
theorem bJ0_charAt_5068e_w5_0 {E : Nat × (Nat → Int32)} {I : Nat → Nat → Int32} {J : Nat → Nat → Int64} {b : Bool} {a1 : Int32} {Q : Option Value → am_H → Prop}  (wp : ∃ j1, a1 = nI j1 ∧ j1 < 4 ∧ (narrow .char (.int ((am_sb.getD 5 []).getD j1 0)) = .int ((am_sb.getD 5 []).getD j1 0)) ∧ Q (some (.int ((am_sb.getD 5 []).getD j1 0))) (hp I J b)) : am_R E mJ0_charAt_5068e 0 [some (.ref 1015), some (.int a1)] [] (hp I J b) 64 64 Q := by
  refine am_aload_n rfl rfl dJ0_charAt_5068e_0 ?_
  refine am_invT (i := 5) (As := []) (lsZ := [some (.ref 1015)]) (st := []) dJ0_charAt_5068e_1 hJ0_isLatin1_aae02 lkJ0_492 ⟨by decide, by decide⟩ rfl (by decide) rfl rfl rfl (Nat.le_of_ble_eq_true rfl) rfl (Nat.le_of_ble_eq_true rfl) ⟨Nat.le_refl _, Nat.le_refl _⟩ (tJ0_isLatin1_5  ?_)
  show am_R E mJ0_charAt_5068e 4 [some (.ref 1015), some (.int a1)] [.int 1] (hp I J b) 64 64 Q
  refine am_if_eq dJ0_charAt_5068e_4 (tgt := 16) rfl (fun hc => absurd hc (by decide)) (fun _ => ?_)
  refine am_aload_n rfl rfl dJ0_charAt_5068e_7 ?_
  refine am_strV (i := 5) dJ0_charAt_5068e_8 fsJ0_9 (by decide) rfl ?_
  refine am_iload_n rfl rfl dJ0_charAt_5068e_11 ?_
  obtain ⟨j1, e1, w1, wp⟩ := wp
  refine am_invS (As := [.ref 1025, .int a1]) (lsZ := [some (.ref 1025), some (.int a1)]) (st := []) dJ0_charAt_5068e_12 hJ1_charAt_3b067 lkJ0_495 ⟨by decide, by decide⟩ rfl rfl (Nat.le_of_ble_eq_true rfl) rfl (Nat.le_of_ble_eq_true rfl) ⟨Nat.le_refl _, Nat.le_refl _⟩ (tJ1_charAt_5 (j := j1) e1 w1 ?_)
  show am_R E mJ0_charAt_5068e 15 [some (.ref 1015), some (.int a1)] [.int ((am_sb.getD 5 []).getD j1 0)] (hp I J b) 64 64 Q
  exact am_iret dJ0_charAt_5068e_15 rfl wp.1 wp.2
theorem tJ0_charAt_5 {a1 : Int32} {j : Nat} (e : a1 = nI j) (hj : j < 4) (k : Q (some (.int ((am_sb.getD 5 []).getD j 0))) (hp I J b)) : am_R E mJ0_charAt_5068e 0 [some (.ref 1015), some (.int a1)] [] (hp I J b) 64 64 Q := by
  refine bJ0_charAt_5068e_w5_0 ⟨j, e, hj, ?_⟩
  exact ⟨(sb_ok 5 (by decide) j hj).2.2, k⟩
theorem bX6_spells_w5_0 {E : Nat × (Nat → Int32)} {I : Nat → Nat → Int32} {J : Nat → Nat → Int64} {b : Bool}  {Q : Option Value → am_H → Prop}  (wp : ((((I 1 5) - (I 1 4)) = 4 → am_R E mX6_spells 20 [some (.ref 1), some (.ref 1015), some (.int 0)] [] (hp I J b) 64 64 Q) ∧ (¬ ((I 1 5) - (I 1 4)) = 4 → Q (some (.int 0)) (hp I J b)))) : am_R E mX6_spells 0 [some (.ref 1), some (.ref 1015), none] [] (hp I J b) 64 64 Q := by
  refine am_aload_n rfl rfl dX6_spells_0 ?_
  refine am_getI dX6_spells_1 flX6_22 (Or.inl rfl) rfl (by decide) ?_
  refine am_aload_n rfl rfl dX6_spells_4 ?_
  refine am_getI dX6_spells_5 flX6_32 (Or.inl rfl) rfl (by decide) ?_
  refine am_isub dX6_spells_8 ?_
  refine am_aload_n rfl rfl dX6_spells_9 ?_
  refine am_invT (i := 5) (As := []) (lsZ := [some (.ref 1015)]) (st := [.int ((I 1 5) - (I 1 4))]) dX6_spells_10 hJ0_length_8abf5 lkX6_82 ⟨by decide, by decide⟩ rfl (by decide) rfl rfl rfl (Nat.le_of_ble_eq_true rfl) rfl (Nat.le_of_ble_eq_true rfl) ⟨Nat.le_refl _, Nat.le_refl _⟩ (tJ0_length_5  ?_)
  show am_R E mX6_spells 13 [some (.ref 1), some (.ref 1015), none] [.int 4, .int ((I 1 5) - (I 1 4))] (hp I J b) 64 64 Q
  refine am_icmp_eq dX6_spells_13 (tgt := 18) rfl (fun hc1 => ?_) (fun hc1 => ?_)
  · have wp := wp.1 hc1
    refine am_iconst 0 rfl dX6_spells_18 ?_
    refine am_istore_n (ls' := [some (.ref 1), some (.ref 1015), some (.int 0)]) rfl (by decide) rfl rfl dX6_spells_19 ?_
    exact am_R.forget wp ⟨rfl, ⟨rfl, ⟨rfl, trivial⟩⟩⟩
  · have wp := wp.2 hc1
    refine am_iconst 0 rfl dX6_spells_16 ?_
    exact am_iret dX6_spells_17 rfl (by decide) wp
theorem bX6_spells_w5_20 {E : Nat × (Nat → Int32)} {I : Nat → Nat → Int32} {J : Nat → Nat → Int64} {b : Bool} {a2 : Int32} {Q : Option Value → am_H → Prop}  (wp : ((4 ≤ a2 → Q (some (.int 1)) (hp I J b)) ∧ (¬ 4 ≤ a2 → ∃ j2, ((I 1 4) + a2) = nI j2 ∧ j2 < 200 ∧ ∃ j3, a2 = nI j3 ∧ j3 < 4 ∧ (((I 2 j2) = ((am_sb.getD 5 []).getD j3 0) → am_R E mX6_spells 20 [some (.ref 1), some (.ref 1015), some (.int (a2 + 1))] [] (hp I J b) 64 64 Q) ∧ (¬ (I 2 j2) = ((am_sb.getD 5 []).getD j3 0) → Q (some (.int 0)) (hp I J b)))))) : am_R E mX6_spells 20 [some (.ref 1), some (.ref 1015), some (.int a2)] [] (hp I J b) 64 64 Q := by
  refine am_iload_n rfl rfl dX6_spells_20 ?_
  refine am_aload_n rfl rfl dX6_spells_21 ?_
  refine am_invT (i := 5) (As := []) (lsZ := [some (.ref 1015)]) (st := [.int a2]) dX6_spells_22 hJ0_length_8abf5 lkX6_82 ⟨by decide, by decide⟩ rfl (by decide) rfl rfl rfl (Nat.le_of_ble_eq_true rfl) rfl (Nat.le_of_ble_eq_true rfl) ⟨Nat.le_refl _, Nat.le_refl _⟩ (tJ0_length_5  ?_)
  show am_R E mX6_spells 25 [some (.ref 1), some (.ref 1015), some (.int a2)] [.int 4, .int a2] (hp I J b) 64 64 Q
  refine am_icmp_ge dX6_spells_25 (tgt := 55) rfl (fun hc1 => ?_) (fun hc1 => ?_)
  · have wp := wp.1 hc1
    refine am_iconst 1 rfl dX6_spells_55 ?_
    exact am_iret dX6_spells_56 rfl (by decide) wp
  · have wp := wp.2 hc1
    refine am_aload_n rfl rfl dX6_spells_28 ?_
    refine am_getA (r := 2) dX6_spells_29 flX6_9 (Or.inr ⟨_, rfl⟩) rfl (by decide) rfl ?_
    refine am_aload_n rfl rfl dX6_spells_32 ?_
    refine am_getI dX6_spells_33 flX6_32 (Or.inl rfl) rfl (by decide) ?_
    refine am_iload_n rfl rfl dX6_spells_36 ?_
    refine am_iadd dX6_spells_37 ?_
    obtain ⟨j2, e2, w2, wp⟩ := wp
    refine am_ialdN (j := j2) dX6_spells_38 rfl (by decide) e2 w2 (by decide) ?_
    refine am_aload_n rfl rfl dX6_spells_39 ?_
    refine am_iload_n rfl rfl dX6_spells_40 ?_
    obtain ⟨j3, e3, w3, wp⟩ := wp
    refine am_invT (i := 5) (As := [.int a2]) (lsZ := [some (.ref 1015), some (.int a2)]) (st := [.int (I 2 j2)]) dX6_spells_41 hJ0_charAt_5068e lkX6_86 ⟨by decide, by decide⟩ rfl (by decide) rfl rfl rfl (Nat.le_of_ble_eq_true rfl) rfl (Nat.le_of_ble_eq_true rfl) ⟨Nat.le_refl _, Nat.le_refl _⟩ (tJ0_charAt_5 (j := j3) e3 w3 ?_)
    show am_R E mX6_spells 44 [some (.ref 1), some (.ref 1015), some (.int a2)] [.int ((am_sb.getD 5 []).getD j3 0), .int (I 2 j2)] (hp I J b) 64 64 Q
    refine am_icmp_eq dX6_spells_44 (tgt := 49) rfl (fun hc4 => ?_) (fun hc4 => ?_)
    · have wp := wp.1 hc4
      refine am_iinc (ls' := [some (.ref 1), some (.ref 1015), some (.int (a2 + 1))]) (by decide) rfl rfl rfl dX6_spells_49 ?_
      refine am_goto dX6_spells_52 (tgt := 20) rfl ?_
      exact am_R.forget wp ⟨rfl, ⟨rfl, ⟨rfl, trivial⟩⟩⟩
    · have wp := wp.2 hc4
      refine am_iconst 0 rfl dX6_spells_47 ?_
      exact am_iret dX6_spells_48 rfl (by decide) wp
theorem bJ0_coder_7d493_w6_0 {E : Nat × (Nat → Int32)} {I : Nat → Nat → Int32} {J : Nat → Nat → Int64} {b : Bool}  {Q : Option Value → am_H → Prop}  (wp : Q (some (.int 0)) (hp I J b)) : am_R E mJ0_coder_7d493 0 [some (.ref 1016)] [] (hp I J b) 64 64 Q := by
  refine am_gsC dJ0_coder_7d493_0 fsJ0_38 ?_
  refine am_if_eq dJ0_coder_7d493_3 (tgt := 13) rfl (fun hc => absurd hc (by decide)) (fun _ => ?_)
  refine am_aload_n rfl rfl dJ0_coder_7d493_6 ?_
  refine am_strC (i := 6) dJ0_coder_7d493_7 fsJ0_15 (by decide) rfl ?_
  refine am_goto dJ0_coder_7d493_10 (tgt := 14) rfl ?_
  exact am_iret dJ0_coder_7d493_14 rfl (by decide) wp
theorem tJ0_coder_6 (k : Q (some (.int 0)) (hp I J b)) : am_R E mJ0_coder_7d493 0 [some (.ref 1016)] [] (hp I J b) 64 64 Q := bJ0_coder_7d493_w6_0 k
theorem bJ0_isLatin1_aae02_w6_0 {E : Nat × (Nat → Int32)} {I : Nat → Nat → Int32} {J : Nat → Nat → Int64} {b : Bool}  {Q : Option Value → am_H → Prop}  (wp : Q (some (.int 1)) (hp I J b)) : am_R E mJ0_isLatin1_aae02 0 [some (.ref 1016)] [] (hp I J b) 64 64 Q := by
  refine am_gsC dJ0_isLatin1_aae02_0 fsJ0_38 ?_
  refine am_if_eq dJ0_isLatin1_aae02_3 (tgt := 17) rfl (fun hc => absurd hc (by decide)) (fun _ => ?_)
  refine am_aload_n rfl rfl dJ0_isLatin1_aae02_6 ?_
  refine am_strC (i := 6) dJ0_isLatin1_aae02_7 fsJ0_15 (by decide) rfl ?_
  refine am_if_ne dJ0_isLatin1_aae02_10 (tgt := 17) rfl (fun hc => absurd hc (by decide)) (fun _ => ?_)
  refine am_iconst 1 rfl dJ0_isLatin1_aae02_13 ?_
  refine am_goto dJ0_isLatin1_aae02_14 (tgt := 18) rfl ?_
  exact am_iret dJ0_isLatin1_aae02_18 rfl (by decide) wp
theorem tJ0_isLatin1_6 (k : Q (some (.int 1)) (hp I J b)) : am_R E mJ0_isLatin1_aae02 0 [some (.ref 1016)] [] (hp I J b) 64 64 Q := bJ0_isLatin1_aae02_w6_0 k
theorem bJ0_length_8abf5_w6_0 {E : Nat × (Nat → Int32)} {I : Nat → Nat → Int32} {J : Nat → Nat → Int64} {b : Bool}  {Q : Option Value → am_H → Prop}  (wp : Q (some (.int ((Int32.ofNat (am_sn.getD 6 0)) >>> (0 &&& 31)))) (hp I J b)) : am_R E mJ0_length_8abf5 0 [some (.ref 1016)] [] (hp I J b) 64 64 Q := by
  refine am_aload_n rfl rfl dJ0_length_8abf5_0 ?_
  refine am_strV (i := 6) dJ0_length_8abf5_1 fsJ0_9 (by decide) rfl ?_
  refine am_strL (i := 6) dJ0_length_8abf5_4 (by decide) rfl ?_
  refine am_aload_n rfl rfl dJ0_length_8abf5_5 ?_
  refine am_invT (i := 6) (As := []) (lsZ := [some (.ref 1016)]) (st := [.int (Int32.ofNat (am_sn.getD 6 0))]) dJ0_length_8abf5_6 hJ0_coder_7d493 lkJ0_335 ⟨by decide, by decide⟩ rfl (by decide) rfl rfl rfl (Nat.le_of_ble_eq_true rfl) rfl (Nat.le_of_ble_eq_true rfl) ⟨Nat.le_refl _, Nat.le_refl _⟩ (tJ0_coder_6  ?_)
  show am_R E mJ0_length_8abf5 9 [some (.ref 1016)] [.int 0, .int (Int32.ofNat (am_sn.getD 6 0))] (hp I J b) 64 64 Q
  refine am_ishr dJ0_length_8abf5_9 ?_
  exact am_iret dJ0_length_8abf5_10 rfl rfl wp
theorem tJ0_length_6 (k : Q (some (.int 5)) (hp I J b)) : am_R E mJ0_length_8abf5 0 [some (.ref 1016)] [] (hp I J b) 64 64 Q := bJ0_length_8abf5_w6_0 k
theorem bJ1_charAt_3b067_w6_0 {E : Nat × (Nat → Int32)} {I : Nat → Nat → Int32} {J : Nat → Nat → Int64} {b : Bool} {a1 : Int32} {Q : Option Value → am_H → Prop}  (wp : (¬ a1 < 0) ∧ (a1 < (Int32.ofNat (am_sn.getD 6 0))) ∧ vp_in a1 5 ∧ (narrow .char (.int (Int32.toUInt32 (((am_sb.getD 6 []).getD (Int32.toNatClampNeg a1) 0) &&& 255) % 65536).toInt32) = .int (Int32.toUInt32 (((am_sb.getD 6 []).getD (Int32.toNatClampNeg a1) 0) &&& 255) % 65536).toInt32) ∧ Q (some (.int (Int32.toUInt32 (((am_sb.getD 6 []).getD (Int32.toNatClampNeg a1) 0) &&& 255) % 65536).toInt32)) (hp I J b)) : am_R E mJ1_charAt_3b067 0 [some (.ref 1026), some (.int a1)] [] (hp I J b) 64 64 Q := by
  refine am_iload_n rfl rfl dJ1_charAt_3b067_0 ?_
  refine am_aload_n rfl rfl dJ1_charAt_3b067_1 ?_
  refine am_strL (i := 6) dJ1_charAt_3b067_2 (by decide) rfl ?_
  obtain ⟨w1, wp⟩ := wp
  obtain ⟨w2, wp⟩ := wp
  refine am_invS (As := [.int a1, .int (Int32.ofNat (am_sn.getD 6 0))]) (lsZ := [some (.int a1), some (.int (Int32.ofNat (am_sn.getD 6 0)))]) (st := []) dJ1_charAt_3b067_3 hJ0_checkIndex_df160 lkJ1_9 ⟨by decide, by decide⟩ rfl rfl (Nat.le_of_ble_eq_true rfl) rfl (Nat.le_of_ble_eq_true rfl) ⟨Nat.le_refl _, Nat.le_refl _⟩ (tJ0_checkIndex w1 w2 ?_)
  show am_R E mJ1_charAt_3b067 6 [some (.ref 1026), some (.int a1)] [] (hp I J b) 64 64 Q
  refine am_aload_n rfl rfl dJ1_charAt_3b067_6 ?_
  refine am_iload_n rfl rfl dJ1_charAt_3b067_7 ?_
  obtain ⟨w3, wp⟩ := wp
  refine am_strB (i := 6) dJ1_charAt_3b067_8 (by decide) rfl w3 ?_
  refine am_sipush 255 rfl dJ1_charAt_3b067_9 ?_
  refine am_iand dJ1_charAt_3b067_12 ?_
  refine am_i2c dJ1_charAt_3b067_13 ?_
  exact am_iret dJ1_charAt_3b067_14 rfl wp.1 wp.2
theorem tJ1_charAt_6 {a1 : Int32} {j : Nat} (e : a1 = nI j) (hj : j < 5) (k : Q (some (.int ((am_sb.getD 6 []).getD j 0))) (hp I J b)) : am_R E mJ1_charAt_3b067 0 [some (.ref 1026), some (.int a1)] [] (hp I J b) 64 64 Q := by
  obtain ⟨v1, v2⟩ := am_vin e hj (by decide)
  obtain ⟨s1, s2, s3⟩ := sb_ok 6 (by decide) j hj
  subst e
  refine bJ1_charAt_3b067_w6_0 ⟨nI_pos (by omega), (nI_ltI (b := 5) (by omega) (by omega)).mpr hj, v1, ?_, ?_⟩
  · rw [v2]; exact s1
  · rw [v2, s2]; exact k
theorem bJ0_charAt_5068e_w6_0 {E : Nat × (Nat → Int32)} {I : Nat → Nat → Int32} {J : Nat → Nat → Int64} {b : Bool} {a1 : Int32} {Q : Option Value → am_H → Prop}  (wp : ∃ j1, a1 = nI j1 ∧ j1 < 5 ∧ (narrow .char (.int ((am_sb.getD 6 []).getD j1 0)) = .int ((am_sb.getD 6 []).getD j1 0)) ∧ Q (some (.int ((am_sb.getD 6 []).getD j1 0))) (hp I J b)) : am_R E mJ0_charAt_5068e 0 [some (.ref 1016), some (.int a1)] [] (hp I J b) 64 64 Q := by
  refine am_aload_n rfl rfl dJ0_charAt_5068e_0 ?_
  refine am_invT (i := 6) (As := []) (lsZ := [some (.ref 1016)]) (st := []) dJ0_charAt_5068e_1 hJ0_isLatin1_aae02 lkJ0_492 ⟨by decide, by decide⟩ rfl (by decide) rfl rfl rfl (Nat.le_of_ble_eq_true rfl) rfl (Nat.le_of_ble_eq_true rfl) ⟨Nat.le_refl _, Nat.le_refl _⟩ (tJ0_isLatin1_6  ?_)
  show am_R E mJ0_charAt_5068e 4 [some (.ref 1016), some (.int a1)] [.int 1] (hp I J b) 64 64 Q
  refine am_if_eq dJ0_charAt_5068e_4 (tgt := 16) rfl (fun hc => absurd hc (by decide)) (fun _ => ?_)
  refine am_aload_n rfl rfl dJ0_charAt_5068e_7 ?_
  refine am_strV (i := 6) dJ0_charAt_5068e_8 fsJ0_9 (by decide) rfl ?_
  refine am_iload_n rfl rfl dJ0_charAt_5068e_11 ?_
  obtain ⟨j1, e1, w1, wp⟩ := wp
  refine am_invS (As := [.ref 1026, .int a1]) (lsZ := [some (.ref 1026), some (.int a1)]) (st := []) dJ0_charAt_5068e_12 hJ1_charAt_3b067 lkJ0_495 ⟨by decide, by decide⟩ rfl rfl (Nat.le_of_ble_eq_true rfl) rfl (Nat.le_of_ble_eq_true rfl) ⟨Nat.le_refl _, Nat.le_refl _⟩ (tJ1_charAt_6 (j := j1) e1 w1 ?_)
  show am_R E mJ0_charAt_5068e 15 [some (.ref 1016), some (.int a1)] [.int ((am_sb.getD 6 []).getD j1 0)] (hp I J b) 64 64 Q
  exact am_iret dJ0_charAt_5068e_15 rfl wp.1 wp.2
theorem tJ0_charAt_6 {a1 : Int32} {j : Nat} (e : a1 = nI j) (hj : j < 5) (k : Q (some (.int ((am_sb.getD 6 []).getD j 0))) (hp I J b)) : am_R E mJ0_charAt_5068e 0 [some (.ref 1016), some (.int a1)] [] (hp I J b) 64 64 Q := by
  refine bJ0_charAt_5068e_w6_0 ⟨j, e, hj, ?_⟩
  exact ⟨(sb_ok 6 (by decide) j hj).2.2, k⟩
theorem bX6_spells_w6_0 {E : Nat × (Nat → Int32)} {I : Nat → Nat → Int32} {J : Nat → Nat → Int64} {b : Bool}  {Q : Option Value → am_H → Prop}  (wp : ((((I 1 5) - (I 1 4)) = 5 → am_R E mX6_spells 20 [some (.ref 1), some (.ref 1016), some (.int 0)] [] (hp I J b) 64 64 Q) ∧ (¬ ((I 1 5) - (I 1 4)) = 5 → Q (some (.int 0)) (hp I J b)))) : am_R E mX6_spells 0 [some (.ref 1), some (.ref 1016), none] [] (hp I J b) 64 64 Q := by
  refine am_aload_n rfl rfl dX6_spells_0 ?_
  refine am_getI dX6_spells_1 flX6_22 (Or.inl rfl) rfl (by decide) ?_
  refine am_aload_n rfl rfl dX6_spells_4 ?_
  refine am_getI dX6_spells_5 flX6_32 (Or.inl rfl) rfl (by decide) ?_
  refine am_isub dX6_spells_8 ?_
  refine am_aload_n rfl rfl dX6_spells_9 ?_
  refine am_invT (i := 6) (As := []) (lsZ := [some (.ref 1016)]) (st := [.int ((I 1 5) - (I 1 4))]) dX6_spells_10 hJ0_length_8abf5 lkX6_82 ⟨by decide, by decide⟩ rfl (by decide) rfl rfl rfl (Nat.le_of_ble_eq_true rfl) rfl (Nat.le_of_ble_eq_true rfl) ⟨Nat.le_refl _, Nat.le_refl _⟩ (tJ0_length_6  ?_)
  show am_R E mX6_spells 13 [some (.ref 1), some (.ref 1016), none] [.int 5, .int ((I 1 5) - (I 1 4))] (hp I J b) 64 64 Q
  refine am_icmp_eq dX6_spells_13 (tgt := 18) rfl (fun hc1 => ?_) (fun hc1 => ?_)
  · have wp := wp.1 hc1
    refine am_iconst 0 rfl dX6_spells_18 ?_
    refine am_istore_n (ls' := [some (.ref 1), some (.ref 1016), some (.int 0)]) rfl (by decide) rfl rfl dX6_spells_19 ?_
    exact am_R.forget wp ⟨rfl, ⟨rfl, ⟨rfl, trivial⟩⟩⟩
  · have wp := wp.2 hc1
    refine am_iconst 0 rfl dX6_spells_16 ?_
    exact am_iret dX6_spells_17 rfl (by decide) wp
theorem bX6_spells_w6_20 {E : Nat × (Nat → Int32)} {I : Nat → Nat → Int32} {J : Nat → Nat → Int64} {b : Bool} {a2 : Int32} {Q : Option Value → am_H → Prop}  (wp : ((5 ≤ a2 → Q (some (.int 1)) (hp I J b)) ∧ (¬ 5 ≤ a2 → ∃ j2, ((I 1 4) + a2) = nI j2 ∧ j2 < 200 ∧ ∃ j3, a2 = nI j3 ∧ j3 < 5 ∧ (((I 2 j2) = ((am_sb.getD 6 []).getD j3 0) → am_R E mX6_spells 20 [some (.ref 1), some (.ref 1016), some (.int (a2 + 1))] [] (hp I J b) 64 64 Q) ∧ (¬ (I 2 j2) = ((am_sb.getD 6 []).getD j3 0) → Q (some (.int 0)) (hp I J b)))))) : am_R E mX6_spells 20 [some (.ref 1), some (.ref 1016), some (.int a2)] [] (hp I J b) 64 64 Q := by
  refine am_iload_n rfl rfl dX6_spells_20 ?_
  refine am_aload_n rfl rfl dX6_spells_21 ?_
  refine am_invT (i := 6) (As := []) (lsZ := [some (.ref 1016)]) (st := [.int a2]) dX6_spells_22 hJ0_length_8abf5 lkX6_82 ⟨by decide, by decide⟩ rfl (by decide) rfl rfl rfl (Nat.le_of_ble_eq_true rfl) rfl (Nat.le_of_ble_eq_true rfl) ⟨Nat.le_refl _, Nat.le_refl _⟩ (tJ0_length_6  ?_)
  show am_R E mX6_spells 25 [some (.ref 1), some (.ref 1016), some (.int a2)] [.int 5, .int a2] (hp I J b) 64 64 Q
  refine am_icmp_ge dX6_spells_25 (tgt := 55) rfl (fun hc1 => ?_) (fun hc1 => ?_)
  · have wp := wp.1 hc1
    refine am_iconst 1 rfl dX6_spells_55 ?_
    exact am_iret dX6_spells_56 rfl (by decide) wp
  · have wp := wp.2 hc1
    refine am_aload_n rfl rfl dX6_spells_28 ?_
    refine am_getA (r := 2) dX6_spells_29 flX6_9 (Or.inr ⟨_, rfl⟩) rfl (by decide) rfl ?_
    refine am_aload_n rfl rfl dX6_spells_32 ?_
    refine am_getI dX6_spells_33 flX6_32 (Or.inl rfl) rfl (by decide) ?_
    refine am_iload_n rfl rfl dX6_spells_36 ?_
    refine am_iadd dX6_spells_37 ?_
    obtain ⟨j2, e2, w2, wp⟩ := wp
    refine am_ialdN (j := j2) dX6_spells_38 rfl (by decide) e2 w2 (by decide) ?_
    refine am_aload_n rfl rfl dX6_spells_39 ?_
    refine am_iload_n rfl rfl dX6_spells_40 ?_
    obtain ⟨j3, e3, w3, wp⟩ := wp
    refine am_invT (i := 6) (As := [.int a2]) (lsZ := [some (.ref 1016), some (.int a2)]) (st := [.int (I 2 j2)]) dX6_spells_41 hJ0_charAt_5068e lkX6_86 ⟨by decide, by decide⟩ rfl (by decide) rfl rfl rfl (Nat.le_of_ble_eq_true rfl) rfl (Nat.le_of_ble_eq_true rfl) ⟨Nat.le_refl _, Nat.le_refl _⟩ (tJ0_charAt_6 (j := j3) e3 w3 ?_)
    show am_R E mX6_spells 44 [some (.ref 1), some (.ref 1016), some (.int a2)] [.int ((am_sb.getD 6 []).getD j3 0), .int (I 2 j2)] (hp I J b) 64 64 Q
    refine am_icmp_eq dX6_spells_44 (tgt := 49) rfl (fun hc4 => ?_) (fun hc4 => ?_)
    · have wp := wp.1 hc4
      refine am_iinc (ls' := [some (.ref 1), some (.ref 1016), some (.int (a2 + 1))]) (by decide) rfl rfl rfl dX6_spells_49 ?_
      refine am_goto dX6_spells_52 (tgt := 20) rfl ?_
      exact am_R.forget wp ⟨rfl, ⟨rfl, ⟨rfl, trivial⟩⟩⟩
    · have wp := wp.2 hc4
      refine am_iconst 0 rfl dX6_spells_47 ?_
      exact am_iret dX6_spells_48 rfl (by decide) wp
theorem bJ0_coder_7d493_w7_0 {E : Nat × (Nat → Int32)} {I : Nat → Nat → Int32} {J : Nat → Nat → Int64} {b : Bool}  {Q : Option Value → am_H → Prop}  (wp : Q (some (.int 0)) (hp I J b)) : am_R E mJ0_coder_7d493 0 [some (.ref 1017)] [] (hp I J b) 64 64 Q := by
  refine am_gsC dJ0_coder_7d493_0 fsJ0_38 ?_
  refine am_if_eq dJ0_coder_7d493_3 (tgt := 13) rfl (fun hc => absurd hc (by decide)) (fun _ => ?_)
  refine am_aload_n rfl rfl dJ0_coder_7d493_6 ?_
  refine am_strC (i := 7) dJ0_coder_7d493_7 fsJ0_15 (by decide) rfl ?_
  refine am_goto dJ0_coder_7d493_10 (tgt := 14) rfl ?_
  exact am_iret dJ0_coder_7d493_14 rfl (by decide) wp
theorem tJ0_coder_7 (k : Q (some (.int 0)) (hp I J b)) : am_R E mJ0_coder_7d493 0 [some (.ref 1017)] [] (hp I J b) 64 64 Q := bJ0_coder_7d493_w7_0 k
theorem bJ0_isLatin1_aae02_w7_0 {E : Nat × (Nat → Int32)} {I : Nat → Nat → Int32} {J : Nat → Nat → Int64} {b : Bool}  {Q : Option Value → am_H → Prop}  (wp : Q (some (.int 1)) (hp I J b)) : am_R E mJ0_isLatin1_aae02 0 [some (.ref 1017)] [] (hp I J b) 64 64 Q := by
  refine am_gsC dJ0_isLatin1_aae02_0 fsJ0_38 ?_
  refine am_if_eq dJ0_isLatin1_aae02_3 (tgt := 17) rfl (fun hc => absurd hc (by decide)) (fun _ => ?_)
  refine am_aload_n rfl rfl dJ0_isLatin1_aae02_6 ?_
  refine am_strC (i := 7) dJ0_isLatin1_aae02_7 fsJ0_15 (by decide) rfl ?_
  refine am_if_ne dJ0_isLatin1_aae02_10 (tgt := 17) rfl (fun hc => absurd hc (by decide)) (fun _ => ?_)
  refine am_iconst 1 rfl dJ0_isLatin1_aae02_13 ?_
  refine am_goto dJ0_isLatin1_aae02_14 (tgt := 18) rfl ?_
  exact am_iret dJ0_isLatin1_aae02_18 rfl (by decide) wp
theorem tJ0_isLatin1_7 (k : Q (some (.int 1)) (hp I J b)) : am_R E mJ0_isLatin1_aae02 0 [some (.ref 1017)] [] (hp I J b) 64 64 Q := bJ0_isLatin1_aae02_w7_0 k
theorem bJ0_length_8abf5_w7_0 {E : Nat × (Nat → Int32)} {I : Nat → Nat → Int32} {J : Nat → Nat → Int64} {b : Bool}  {Q : Option Value → am_H → Prop}  (wp : Q (some (.int ((Int32.ofNat (am_sn.getD 7 0)) >>> (0 &&& 31)))) (hp I J b)) : am_R E mJ0_length_8abf5 0 [some (.ref 1017)] [] (hp I J b) 64 64 Q := by
  refine am_aload_n rfl rfl dJ0_length_8abf5_0 ?_
  refine am_strV (i := 7) dJ0_length_8abf5_1 fsJ0_9 (by decide) rfl ?_
  refine am_strL (i := 7) dJ0_length_8abf5_4 (by decide) rfl ?_
  refine am_aload_n rfl rfl dJ0_length_8abf5_5 ?_
  refine am_invT (i := 7) (As := []) (lsZ := [some (.ref 1017)]) (st := [.int (Int32.ofNat (am_sn.getD 7 0))]) dJ0_length_8abf5_6 hJ0_coder_7d493 lkJ0_335 ⟨by decide, by decide⟩ rfl (by decide) rfl rfl rfl (Nat.le_of_ble_eq_true rfl) rfl (Nat.le_of_ble_eq_true rfl) ⟨Nat.le_refl _, Nat.le_refl _⟩ (tJ0_coder_7  ?_)
  show am_R E mJ0_length_8abf5 9 [some (.ref 1017)] [.int 0, .int (Int32.ofNat (am_sn.getD 7 0))] (hp I J b) 64 64 Q
  refine am_ishr dJ0_length_8abf5_9 ?_
  exact am_iret dJ0_length_8abf5_10 rfl rfl wp
theorem tJ0_length_7 (k : Q (some (.int 4)) (hp I J b)) : am_R E mJ0_length_8abf5 0 [some (.ref 1017)] [] (hp I J b) 64 64 Q := bJ0_length_8abf5_w7_0 k
theorem bJ1_charAt_3b067_w7_0 {E : Nat × (Nat → Int32)} {I : Nat → Nat → Int32} {J : Nat → Nat → Int64} {b : Bool} {a1 : Int32} {Q : Option Value → am_H → Prop}  (wp : (¬ a1 < 0) ∧ (a1 < (Int32.ofNat (am_sn.getD 7 0))) ∧ vp_in a1 4 ∧ (narrow .char (.int (Int32.toUInt32 (((am_sb.getD 7 []).getD (Int32.toNatClampNeg a1) 0) &&& 255) % 65536).toInt32) = .int (Int32.toUInt32 (((am_sb.getD 7 []).getD (Int32.toNatClampNeg a1) 0) &&& 255) % 65536).toInt32) ∧ Q (some (.int (Int32.toUInt32 (((am_sb.getD 7 []).getD (Int32.toNatClampNeg a1) 0) &&& 255) % 65536).toInt32)) (hp I J b)) : am_R E mJ1_charAt_3b067 0 [some (.ref 1027), some (.int a1)] [] (hp I J b) 64 64 Q := by
  refine am_iload_n rfl rfl dJ1_charAt_3b067_0 ?_
  refine am_aload_n rfl rfl dJ1_charAt_3b067_1 ?_
  refine am_strL (i := 7) dJ1_charAt_3b067_2 (by decide) rfl ?_
  obtain ⟨w1, wp⟩ := wp
  obtain ⟨w2, wp⟩ := wp
  refine am_invS (As := [.int a1, .int (Int32.ofNat (am_sn.getD 7 0))]) (lsZ := [some (.int a1), some (.int (Int32.ofNat (am_sn.getD 7 0)))]) (st := []) dJ1_charAt_3b067_3 hJ0_checkIndex_df160 lkJ1_9 ⟨by decide, by decide⟩ rfl rfl (Nat.le_of_ble_eq_true rfl) rfl (Nat.le_of_ble_eq_true rfl) ⟨Nat.le_refl _, Nat.le_refl _⟩ (tJ0_checkIndex w1 w2 ?_)
  show am_R E mJ1_charAt_3b067 6 [some (.ref 1027), some (.int a1)] [] (hp I J b) 64 64 Q
  refine am_aload_n rfl rfl dJ1_charAt_3b067_6 ?_
  refine am_iload_n rfl rfl dJ1_charAt_3b067_7 ?_
  obtain ⟨w3, wp⟩ := wp
  refine am_strB (i := 7) dJ1_charAt_3b067_8 (by decide) rfl w3 ?_
  refine am_sipush 255 rfl dJ1_charAt_3b067_9 ?_
  refine am_iand dJ1_charAt_3b067_12 ?_
  refine am_i2c dJ1_charAt_3b067_13 ?_
  exact am_iret dJ1_charAt_3b067_14 rfl wp.1 wp.2
theorem tJ1_charAt_7 {a1 : Int32} {j : Nat} (e : a1 = nI j) (hj : j < 4) (k : Q (some (.int ((am_sb.getD 7 []).getD j 0))) (hp I J b)) : am_R E mJ1_charAt_3b067 0 [some (.ref 1027), some (.int a1)] [] (hp I J b) 64 64 Q := by
  obtain ⟨v1, v2⟩ := am_vin e hj (by decide)
  obtain ⟨s1, s2, s3⟩ := sb_ok 7 (by decide) j hj
  subst e
  refine bJ1_charAt_3b067_w7_0 ⟨nI_pos (by omega), (nI_ltI (b := 4) (by omega) (by omega)).mpr hj, v1, ?_, ?_⟩
  · rw [v2]; exact s1
  · rw [v2, s2]; exact k
theorem bJ0_charAt_5068e_w7_0 {E : Nat × (Nat → Int32)} {I : Nat → Nat → Int32} {J : Nat → Nat → Int64} {b : Bool} {a1 : Int32} {Q : Option Value → am_H → Prop}  (wp : ∃ j1, a1 = nI j1 ∧ j1 < 4 ∧ (narrow .char (.int ((am_sb.getD 7 []).getD j1 0)) = .int ((am_sb.getD 7 []).getD j1 0)) ∧ Q (some (.int ((am_sb.getD 7 []).getD j1 0))) (hp I J b)) : am_R E mJ0_charAt_5068e 0 [some (.ref 1017), some (.int a1)] [] (hp I J b) 64 64 Q := by
  refine am_aload_n rfl rfl dJ0_charAt_5068e_0 ?_
  refine am_invT (i := 7) (As := []) (lsZ := [some (.ref 1017)]) (st := []) dJ0_charAt_5068e_1 hJ0_isLatin1_aae02 lkJ0_492 ⟨by decide, by decide⟩ rfl (by decide) rfl rfl rfl (Nat.le_of_ble_eq_true rfl) rfl (Nat.le_of_ble_eq_true rfl) ⟨Nat.le_refl _, Nat.le_refl _⟩ (tJ0_isLatin1_7  ?_)
  show am_R E mJ0_charAt_5068e 4 [some (.ref 1017), some (.int a1)] [.int 1] (hp I J b) 64 64 Q
  refine am_if_eq dJ0_charAt_5068e_4 (tgt := 16) rfl (fun hc => absurd hc (by decide)) (fun _ => ?_)
  refine am_aload_n rfl rfl dJ0_charAt_5068e_7 ?_
  refine am_strV (i := 7) dJ0_charAt_5068e_8 fsJ0_9 (by decide) rfl ?_
  refine am_iload_n rfl rfl dJ0_charAt_5068e_11 ?_
  obtain ⟨j1, e1, w1, wp⟩ := wp
  refine am_invS (As := [.ref 1027, .int a1]) (lsZ := [some (.ref 1027), some (.int a1)]) (st := []) dJ0_charAt_5068e_12 hJ1_charAt_3b067 lkJ0_495 ⟨by decide, by decide⟩ rfl rfl (Nat.le_of_ble_eq_true rfl) rfl (Nat.le_of_ble_eq_true rfl) ⟨Nat.le_refl _, Nat.le_refl _⟩ (tJ1_charAt_7 (j := j1) e1 w1 ?_)
  show am_R E mJ0_charAt_5068e 15 [some (.ref 1017), some (.int a1)] [.int ((am_sb.getD 7 []).getD j1 0)] (hp I J b) 64 64 Q
  exact am_iret dJ0_charAt_5068e_15 rfl wp.1 wp.2
theorem tJ0_charAt_7 {a1 : Int32} {j : Nat} (e : a1 = nI j) (hj : j < 4) (k : Q (some (.int ((am_sb.getD 7 []).getD j 0))) (hp I J b)) : am_R E mJ0_charAt_5068e 0 [some (.ref 1017), some (.int a1)] [] (hp I J b) 64 64 Q := by
  refine bJ0_charAt_5068e_w7_0 ⟨j, e, hj, ?_⟩
  exact ⟨(sb_ok 7 (by decide) j hj).2.2, k⟩
theorem bX6_spells_w7_0 {E : Nat × (Nat → Int32)} {I : Nat → Nat → Int32} {J : Nat → Nat → Int64} {b : Bool}  {Q : Option Value → am_H → Prop}  (wp : ((((I 1 5) - (I 1 4)) = 4 → am_R E mX6_spells 20 [some (.ref 1), some (.ref 1017), some (.int 0)] [] (hp I J b) 64 64 Q) ∧ (¬ ((I 1 5) - (I 1 4)) = 4 → Q (some (.int 0)) (hp I J b)))) : am_R E mX6_spells 0 [some (.ref 1), some (.ref 1017), none] [] (hp I J b) 64 64 Q := by
  refine am_aload_n rfl rfl dX6_spells_0 ?_
  refine am_getI dX6_spells_1 flX6_22 (Or.inl rfl) rfl (by decide) ?_
  refine am_aload_n rfl rfl dX6_spells_4 ?_
  refine am_getI dX6_spells_5 flX6_32 (Or.inl rfl) rfl (by decide) ?_
  refine am_isub dX6_spells_8 ?_
  refine am_aload_n rfl rfl dX6_spells_9 ?_
  refine am_invT (i := 7) (As := []) (lsZ := [some (.ref 1017)]) (st := [.int ((I 1 5) - (I 1 4))]) dX6_spells_10 hJ0_length_8abf5 lkX6_82 ⟨by decide, by decide⟩ rfl (by decide) rfl rfl rfl (Nat.le_of_ble_eq_true rfl) rfl (Nat.le_of_ble_eq_true rfl) ⟨Nat.le_refl _, Nat.le_refl _⟩ (tJ0_length_7  ?_)
  show am_R E mX6_spells 13 [some (.ref 1), some (.ref 1017), none] [.int 4, .int ((I 1 5) - (I 1 4))] (hp I J b) 64 64 Q
  refine am_icmp_eq dX6_spells_13 (tgt := 18) rfl (fun hc1 => ?_) (fun hc1 => ?_)
  · have wp := wp.1 hc1
    refine am_iconst 0 rfl dX6_spells_18 ?_
    refine am_istore_n (ls' := [some (.ref 1), some (.ref 1017), some (.int 0)]) rfl (by decide) rfl rfl dX6_spells_19 ?_
    exact am_R.forget wp ⟨rfl, ⟨rfl, ⟨rfl, trivial⟩⟩⟩
  · have wp := wp.2 hc1
    refine am_iconst 0 rfl dX6_spells_16 ?_
    exact am_iret dX6_spells_17 rfl (by decide) wp
theorem bX6_spells_w7_20 {E : Nat × (Nat → Int32)} {I : Nat → Nat → Int32} {J : Nat → Nat → Int64} {b : Bool} {a2 : Int32} {Q : Option Value → am_H → Prop}  (wp : ((4 ≤ a2 → Q (some (.int 1)) (hp I J b)) ∧ (¬ 4 ≤ a2 → ∃ j2, ((I 1 4) + a2) = nI j2 ∧ j2 < 200 ∧ ∃ j3, a2 = nI j3 ∧ j3 < 4 ∧ (((I 2 j2) = ((am_sb.getD 7 []).getD j3 0) → am_R E mX6_spells 20 [some (.ref 1), some (.ref 1017), some (.int (a2 + 1))] [] (hp I J b) 64 64 Q) ∧ (¬ (I 2 j2) = ((am_sb.getD 7 []).getD j3 0) → Q (some (.int 0)) (hp I J b)))))) : am_R E mX6_spells 20 [some (.ref 1), some (.ref 1017), some (.int a2)] [] (hp I J b) 64 64 Q := by
  refine am_iload_n rfl rfl dX6_spells_20 ?_
  refine am_aload_n rfl rfl dX6_spells_21 ?_
  refine am_invT (i := 7) (As := []) (lsZ := [some (.ref 1017)]) (st := [.int a2]) dX6_spells_22 hJ0_length_8abf5 lkX6_82 ⟨by decide, by decide⟩ rfl (by decide) rfl rfl rfl (Nat.le_of_ble_eq_true rfl) rfl (Nat.le_of_ble_eq_true rfl) ⟨Nat.le_refl _, Nat.le_refl _⟩ (tJ0_length_7  ?_)
  show am_R E mX6_spells 25 [some (.ref 1), some (.ref 1017), some (.int a2)] [.int 4, .int a2] (hp I J b) 64 64 Q
  refine am_icmp_ge dX6_spells_25 (tgt := 55) rfl (fun hc1 => ?_) (fun hc1 => ?_)
  · have wp := wp.1 hc1
    refine am_iconst 1 rfl dX6_spells_55 ?_
    exact am_iret dX6_spells_56 rfl (by decide) wp
  · have wp := wp.2 hc1
    refine am_aload_n rfl rfl dX6_spells_28 ?_
    refine am_getA (r := 2) dX6_spells_29 flX6_9 (Or.inr ⟨_, rfl⟩) rfl (by decide) rfl ?_
    refine am_aload_n rfl rfl dX6_spells_32 ?_
    refine am_getI dX6_spells_33 flX6_32 (Or.inl rfl) rfl (by decide) ?_
    refine am_iload_n rfl rfl dX6_spells_36 ?_
    refine am_iadd dX6_spells_37 ?_
    obtain ⟨j2, e2, w2, wp⟩ := wp
    refine am_ialdN (j := j2) dX6_spells_38 rfl (by decide) e2 w2 (by decide) ?_
    refine am_aload_n rfl rfl dX6_spells_39 ?_
    refine am_iload_n rfl rfl dX6_spells_40 ?_
    obtain ⟨j3, e3, w3, wp⟩ := wp
    refine am_invT (i := 7) (As := [.int a2]) (lsZ := [some (.ref 1017), some (.int a2)]) (st := [.int (I 2 j2)]) dX6_spells_41 hJ0_charAt_5068e lkX6_86 ⟨by decide, by decide⟩ rfl (by decide) rfl rfl rfl (Nat.le_of_ble_eq_true rfl) rfl (Nat.le_of_ble_eq_true rfl) ⟨Nat.le_refl _, Nat.le_refl _⟩ (tJ0_charAt_7 (j := j3) e3 w3 ?_)
    show am_R E mX6_spells 44 [some (.ref 1), some (.ref 1017), some (.int a2)] [.int ((am_sb.getD 7 []).getD j3 0), .int (I 2 j2)] (hp I J b) 64 64 Q
    refine am_icmp_eq dX6_spells_44 (tgt := 49) rfl (fun hc4 => ?_) (fun hc4 => ?_)
    · have wp := wp.1 hc4
      refine am_iinc (ls' := [some (.ref 1), some (.ref 1017), some (.int (a2 + 1))]) (by decide) rfl rfl rfl dX6_spells_49 ?_
      refine am_goto dX6_spells_52 (tgt := 20) rfl ?_
      exact am_R.forget wp ⟨rfl, ⟨rfl, ⟨rfl, trivial⟩⟩⟩
    · have wp := wp.2 hc4
      refine am_iconst 0 rfl dX6_spells_47 ?_
      exact am_iret dX6_spells_48 rfl (by decide) wp
theorem bJ0_coder_7d493_w8_0 {E : Nat × (Nat → Int32)} {I : Nat → Nat → Int32} {J : Nat → Nat → Int64} {b : Bool}  {Q : Option Value → am_H → Prop}  (wp : Q (some (.int 0)) (hp I J b)) : am_R E mJ0_coder_7d493 0 [some (.ref 1018)] [] (hp I J b) 64 64 Q := by
  refine am_gsC dJ0_coder_7d493_0 fsJ0_38 ?_
  refine am_if_eq dJ0_coder_7d493_3 (tgt := 13) rfl (fun hc => absurd hc (by decide)) (fun _ => ?_)
  refine am_aload_n rfl rfl dJ0_coder_7d493_6 ?_
  refine am_strC (i := 8) dJ0_coder_7d493_7 fsJ0_15 (by decide) rfl ?_
  refine am_goto dJ0_coder_7d493_10 (tgt := 14) rfl ?_
  exact am_iret dJ0_coder_7d493_14 rfl (by decide) wp
theorem tJ0_coder_8 (k : Q (some (.int 0)) (hp I J b)) : am_R E mJ0_coder_7d493 0 [some (.ref 1018)] [] (hp I J b) 64 64 Q := bJ0_coder_7d493_w8_0 k
theorem bJ0_isLatin1_aae02_w8_0 {E : Nat × (Nat → Int32)} {I : Nat → Nat → Int32} {J : Nat → Nat → Int64} {b : Bool}  {Q : Option Value → am_H → Prop}  (wp : Q (some (.int 1)) (hp I J b)) : am_R E mJ0_isLatin1_aae02 0 [some (.ref 1018)] [] (hp I J b) 64 64 Q := by
  refine am_gsC dJ0_isLatin1_aae02_0 fsJ0_38 ?_
  refine am_if_eq dJ0_isLatin1_aae02_3 (tgt := 17) rfl (fun hc => absurd hc (by decide)) (fun _ => ?_)
  refine am_aload_n rfl rfl dJ0_isLatin1_aae02_6 ?_
  refine am_strC (i := 8) dJ0_isLatin1_aae02_7 fsJ0_15 (by decide) rfl ?_
  refine am_if_ne dJ0_isLatin1_aae02_10 (tgt := 17) rfl (fun hc => absurd hc (by decide)) (fun _ => ?_)
  refine am_iconst 1 rfl dJ0_isLatin1_aae02_13 ?_
  refine am_goto dJ0_isLatin1_aae02_14 (tgt := 18) rfl ?_
  exact am_iret dJ0_isLatin1_aae02_18 rfl (by decide) wp
theorem tJ0_isLatin1_8 (k : Q (some (.int 1)) (hp I J b)) : am_R E mJ0_isLatin1_aae02 0 [some (.ref 1018)] [] (hp I J b) 64 64 Q := bJ0_isLatin1_aae02_w8_0 k
theorem bJ0_length_8abf5_w8_0 {E : Nat × (Nat → Int32)} {I : Nat → Nat → Int32} {J : Nat → Nat → Int64} {b : Bool}  {Q : Option Value → am_H → Prop}  (wp : Q (some (.int ((Int32.ofNat (am_sn.getD 8 0)) >>> (0 &&& 31)))) (hp I J b)) : am_R E mJ0_length_8abf5 0 [some (.ref 1018)] [] (hp I J b) 64 64 Q := by
  refine am_aload_n rfl rfl dJ0_length_8abf5_0 ?_
  refine am_strV (i := 8) dJ0_length_8abf5_1 fsJ0_9 (by decide) rfl ?_
  refine am_strL (i := 8) dJ0_length_8abf5_4 (by decide) rfl ?_
  refine am_aload_n rfl rfl dJ0_length_8abf5_5 ?_
  refine am_invT (i := 8) (As := []) (lsZ := [some (.ref 1018)]) (st := [.int (Int32.ofNat (am_sn.getD 8 0))]) dJ0_length_8abf5_6 hJ0_coder_7d493 lkJ0_335 ⟨by decide, by decide⟩ rfl (by decide) rfl rfl rfl (Nat.le_of_ble_eq_true rfl) rfl (Nat.le_of_ble_eq_true rfl) ⟨Nat.le_refl _, Nat.le_refl _⟩ (tJ0_coder_8  ?_)
  show am_R E mJ0_length_8abf5 9 [some (.ref 1018)] [.int 0, .int (Int32.ofNat (am_sn.getD 8 0))] (hp I J b) 64 64 Q
  refine am_ishr dJ0_length_8abf5_9 ?_
  exact am_iret dJ0_length_8abf5_10 rfl rfl wp
theorem tJ0_length_8 (k : Q (some (.int 3)) (hp I J b)) : am_R E mJ0_length_8abf5 0 [some (.ref 1018)] [] (hp I J b) 64 64 Q := bJ0_length_8abf5_w8_0 k
theorem bJ1_charAt_3b067_w8_0 {E : Nat × (Nat → Int32)} {I : Nat → Nat → Int32} {J : Nat → Nat → Int64} {b : Bool} {a1 : Int32} {Q : Option Value → am_H → Prop}  (wp : (¬ a1 < 0) ∧ (a1 < (Int32.ofNat (am_sn.getD 8 0))) ∧ vp_in a1 3 ∧ (narrow .char (.int (Int32.toUInt32 (((am_sb.getD 8 []).getD (Int32.toNatClampNeg a1) 0) &&& 255) % 65536).toInt32) = .int (Int32.toUInt32 (((am_sb.getD 8 []).getD (Int32.toNatClampNeg a1) 0) &&& 255) % 65536).toInt32) ∧ Q (some (.int (Int32.toUInt32 (((am_sb.getD 8 []).getD (Int32.toNatClampNeg a1) 0) &&& 255) % 65536).toInt32)) (hp I J b)) : am_R E mJ1_charAt_3b067 0 [some (.ref 1028), some (.int a1)] [] (hp I J b) 64 64 Q := by
  refine am_iload_n rfl rfl dJ1_charAt_3b067_0 ?_
  refine am_aload_n rfl rfl dJ1_charAt_3b067_1 ?_
  refine am_strL (i := 8) dJ1_charAt_3b067_2 (by decide) rfl ?_
  obtain ⟨w1, wp⟩ := wp
  obtain ⟨w2, wp⟩ := wp
  refine am_invS (As := [.int a1, .int (Int32.ofNat (am_sn.getD 8 0))]) (lsZ := [some (.int a1), some (.int (Int32.ofNat (am_sn.getD 8 0)))]) (st := []) dJ1_charAt_3b067_3 hJ0_checkIndex_df160 lkJ1_9 ⟨by decide, by decide⟩ rfl rfl (Nat.le_of_ble_eq_true rfl) rfl (Nat.le_of_ble_eq_true rfl) ⟨Nat.le_refl _, Nat.le_refl _⟩ (tJ0_checkIndex w1 w2 ?_)
  show am_R E mJ1_charAt_3b067 6 [some (.ref 1028), some (.int a1)] [] (hp I J b) 64 64 Q
  refine am_aload_n rfl rfl dJ1_charAt_3b067_6 ?_
  refine am_iload_n rfl rfl dJ1_charAt_3b067_7 ?_
  obtain ⟨w3, wp⟩ := wp
  refine am_strB (i := 8) dJ1_charAt_3b067_8 (by decide) rfl w3 ?_
  refine am_sipush 255 rfl dJ1_charAt_3b067_9 ?_
  refine am_iand dJ1_charAt_3b067_12 ?_
  refine am_i2c dJ1_charAt_3b067_13 ?_
  exact am_iret dJ1_charAt_3b067_14 rfl wp.1 wp.2
theorem tJ1_charAt_8 {a1 : Int32} {j : Nat} (e : a1 = nI j) (hj : j < 3) (k : Q (some (.int ((am_sb.getD 8 []).getD j 0))) (hp I J b)) : am_R E mJ1_charAt_3b067 0 [some (.ref 1028), some (.int a1)] [] (hp I J b) 64 64 Q := by
  obtain ⟨v1, v2⟩ := am_vin e hj (by decide)
  obtain ⟨s1, s2, s3⟩ := sb_ok 8 (by decide) j hj
  subst e
  refine bJ1_charAt_3b067_w8_0 ⟨nI_pos (by omega), (nI_ltI (b := 3) (by omega) (by omega)).mpr hj, v1, ?_, ?_⟩
  · rw [v2]; exact s1
  · rw [v2, s2]; exact k
theorem bJ0_charAt_5068e_w8_0 {E : Nat × (Nat → Int32)} {I : Nat → Nat → Int32} {J : Nat → Nat → Int64} {b : Bool} {a1 : Int32} {Q : Option Value → am_H → Prop}  (wp : ∃ j1, a1 = nI j1 ∧ j1 < 3 ∧ (narrow .char (.int ((am_sb.getD 8 []).getD j1 0)) = .int ((am_sb.getD 8 []).getD j1 0)) ∧ Q (some (.int ((am_sb.getD 8 []).getD j1 0))) (hp I J b)) : am_R E mJ0_charAt_5068e 0 [some (.ref 1018), some (.int a1)] [] (hp I J b) 64 64 Q := by
  refine am_aload_n rfl rfl dJ0_charAt_5068e_0 ?_
  refine am_invT (i := 8) (As := []) (lsZ := [some (.ref 1018)]) (st := []) dJ0_charAt_5068e_1 hJ0_isLatin1_aae02 lkJ0_492 ⟨by decide, by decide⟩ rfl (by decide) rfl rfl rfl (Nat.le_of_ble_eq_true rfl) rfl (Nat.le_of_ble_eq_true rfl) ⟨Nat.le_refl _, Nat.le_refl _⟩ (tJ0_isLatin1_8  ?_)
  show am_R E mJ0_charAt_5068e 4 [some (.ref 1018), some (.int a1)] [.int 1] (hp I J b) 64 64 Q
  refine am_if_eq dJ0_charAt_5068e_4 (tgt := 16) rfl (fun hc => absurd hc (by decide)) (fun _ => ?_)
  refine am_aload_n rfl rfl dJ0_charAt_5068e_7 ?_
  refine am_strV (i := 8) dJ0_charAt_5068e_8 fsJ0_9 (by decide) rfl ?_
  refine am_iload_n rfl rfl dJ0_charAt_5068e_11 ?_
  obtain ⟨j1, e1, w1, wp⟩ := wp
  refine am_invS (As := [.ref 1028, .int a1]) (lsZ := [some (.ref 1028), some (.int a1)]) (st := []) dJ0_charAt_5068e_12 hJ1_charAt_3b067 lkJ0_495 ⟨by decide, by decide⟩ rfl rfl (Nat.le_of_ble_eq_true rfl) rfl (Nat.le_of_ble_eq_true rfl) ⟨Nat.le_refl _, Nat.le_refl _⟩ (tJ1_charAt_8 (j := j1) e1 w1 ?_)
  show am_R E mJ0_charAt_5068e 15 [some (.ref 1018), some (.int a1)] [.int ((am_sb.getD 8 []).getD j1 0)] (hp I J b) 64 64 Q
  exact am_iret dJ0_charAt_5068e_15 rfl wp.1 wp.2
theorem tJ0_charAt_8 {a1 : Int32} {j : Nat} (e : a1 = nI j) (hj : j < 3) (k : Q (some (.int ((am_sb.getD 8 []).getD j 0))) (hp I J b)) : am_R E mJ0_charAt_5068e 0 [some (.ref 1018), some (.int a1)] [] (hp I J b) 64 64 Q := by
  refine bJ0_charAt_5068e_w8_0 ⟨j, e, hj, ?_⟩
  exact ⟨(sb_ok 8 (by decide) j hj).2.2, k⟩
theorem bX6_spells_w8_0 {E : Nat × (Nat → Int32)} {I : Nat → Nat → Int32} {J : Nat → Nat → Int64} {b : Bool}  {Q : Option Value → am_H → Prop}  (wp : ((((I 1 5) - (I 1 4)) = 3 → am_R E mX6_spells 20 [some (.ref 1), some (.ref 1018), some (.int 0)] [] (hp I J b) 64 64 Q) ∧ (¬ ((I 1 5) - (I 1 4)) = 3 → Q (some (.int 0)) (hp I J b)))) : am_R E mX6_spells 0 [some (.ref 1), some (.ref 1018), none] [] (hp I J b) 64 64 Q := by
  refine am_aload_n rfl rfl dX6_spells_0 ?_
  refine am_getI dX6_spells_1 flX6_22 (Or.inl rfl) rfl (by decide) ?_
  refine am_aload_n rfl rfl dX6_spells_4 ?_
  refine am_getI dX6_spells_5 flX6_32 (Or.inl rfl) rfl (by decide) ?_
  refine am_isub dX6_spells_8 ?_
  refine am_aload_n rfl rfl dX6_spells_9 ?_
  refine am_invT (i := 8) (As := []) (lsZ := [some (.ref 1018)]) (st := [.int ((I 1 5) - (I 1 4))]) dX6_spells_10 hJ0_length_8abf5 lkX6_82 ⟨by decide, by decide⟩ rfl (by decide) rfl rfl rfl (Nat.le_of_ble_eq_true rfl) rfl (Nat.le_of_ble_eq_true rfl) ⟨Nat.le_refl _, Nat.le_refl _⟩ (tJ0_length_8  ?_)
  show am_R E mX6_spells 13 [some (.ref 1), some (.ref 1018), none] [.int 3, .int ((I 1 5) - (I 1 4))] (hp I J b) 64 64 Q
  refine am_icmp_eq dX6_spells_13 (tgt := 18) rfl (fun hc1 => ?_) (fun hc1 => ?_)
  · have wp := wp.1 hc1
    refine am_iconst 0 rfl dX6_spells_18 ?_
    refine am_istore_n (ls' := [some (.ref 1), some (.ref 1018), some (.int 0)]) rfl (by decide) rfl rfl dX6_spells_19 ?_
    exact am_R.forget wp ⟨rfl, ⟨rfl, ⟨rfl, trivial⟩⟩⟩
  · have wp := wp.2 hc1
    refine am_iconst 0 rfl dX6_spells_16 ?_
    exact am_iret dX6_spells_17 rfl (by decide) wp
theorem bX6_spells_w8_20 {E : Nat × (Nat → Int32)} {I : Nat → Nat → Int32} {J : Nat → Nat → Int64} {b : Bool} {a2 : Int32} {Q : Option Value → am_H → Prop}  (wp : ((3 ≤ a2 → Q (some (.int 1)) (hp I J b)) ∧ (¬ 3 ≤ a2 → ∃ j2, ((I 1 4) + a2) = nI j2 ∧ j2 < 200 ∧ ∃ j3, a2 = nI j3 ∧ j3 < 3 ∧ (((I 2 j2) = ((am_sb.getD 8 []).getD j3 0) → am_R E mX6_spells 20 [some (.ref 1), some (.ref 1018), some (.int (a2 + 1))] [] (hp I J b) 64 64 Q) ∧ (¬ (I 2 j2) = ((am_sb.getD 8 []).getD j3 0) → Q (some (.int 0)) (hp I J b)))))) : am_R E mX6_spells 20 [some (.ref 1), some (.ref 1018), some (.int a2)] [] (hp I J b) 64 64 Q := by
  refine am_iload_n rfl rfl dX6_spells_20 ?_
  refine am_aload_n rfl rfl dX6_spells_21 ?_
  refine am_invT (i := 8) (As := []) (lsZ := [some (.ref 1018)]) (st := [.int a2]) dX6_spells_22 hJ0_length_8abf5 lkX6_82 ⟨by decide, by decide⟩ rfl (by decide) rfl rfl rfl (Nat.le_of_ble_eq_true rfl) rfl (Nat.le_of_ble_eq_true rfl) ⟨Nat.le_refl _, Nat.le_refl _⟩ (tJ0_length_8  ?_)
  show am_R E mX6_spells 25 [some (.ref 1), some (.ref 1018), some (.int a2)] [.int 3, .int a2] (hp I J b) 64 64 Q
  refine am_icmp_ge dX6_spells_25 (tgt := 55) rfl (fun hc1 => ?_) (fun hc1 => ?_)
  · have wp := wp.1 hc1
    refine am_iconst 1 rfl dX6_spells_55 ?_
    exact am_iret dX6_spells_56 rfl (by decide) wp
  · have wp := wp.2 hc1
    refine am_aload_n rfl rfl dX6_spells_28 ?_
    refine am_getA (r := 2) dX6_spells_29 flX6_9 (Or.inr ⟨_, rfl⟩) rfl (by decide) rfl ?_
    refine am_aload_n rfl rfl dX6_spells_32 ?_
    refine am_getI dX6_spells_33 flX6_32 (Or.inl rfl) rfl (by decide) ?_
    refine am_iload_n rfl rfl dX6_spells_36 ?_
    refine am_iadd dX6_spells_37 ?_
    obtain ⟨j2, e2, w2, wp⟩ := wp
    refine am_ialdN (j := j2) dX6_spells_38 rfl (by decide) e2 w2 (by decide) ?_
    refine am_aload_n rfl rfl dX6_spells_39 ?_
    refine am_iload_n rfl rfl dX6_spells_40 ?_
    obtain ⟨j3, e3, w3, wp⟩ := wp
    refine am_invT (i := 8) (As := [.int a2]) (lsZ := [some (.ref 1018), some (.int a2)]) (st := [.int (I 2 j2)]) dX6_spells_41 hJ0_charAt_5068e lkX6_86 ⟨by decide, by decide⟩ rfl (by decide) rfl rfl rfl (Nat.le_of_ble_eq_true rfl) rfl (Nat.le_of_ble_eq_true rfl) ⟨Nat.le_refl _, Nat.le_refl _⟩ (tJ0_charAt_8 (j := j3) e3 w3 ?_)
    show am_R E mX6_spells 44 [some (.ref 1), some (.ref 1018), some (.int a2)] [.int ((am_sb.getD 8 []).getD j3 0), .int (I 2 j2)] (hp I J b) 64 64 Q
    refine am_icmp_eq dX6_spells_44 (tgt := 49) rfl (fun hc4 => ?_) (fun hc4 => ?_)
    · have wp := wp.1 hc4
      refine am_iinc (ls' := [some (.ref 1), some (.ref 1018), some (.int (a2 + 1))]) (by decide) rfl rfl rfl dX6_spells_49 ?_
      refine am_goto dX6_spells_52 (tgt := 20) rfl ?_
      exact am_R.forget wp ⟨rfl, ⟨rfl, ⟨rfl, trivial⟩⟩⟩
    · have wp := wp.2 hc4
      refine am_iconst 0 rfl dX6_spells_47 ?_
      exact am_iret dX6_spells_48 rfl (by decide) wp
end P18
