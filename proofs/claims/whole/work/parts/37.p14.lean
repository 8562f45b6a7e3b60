/-! ===== pair: week, the calls ===== -/
section P14
variable {E : Nat × (Nat → Int32)} {I I' : Nat → Nat → Int32} {J : Nat → Nat → Int64} {b : Bool} {n : Nat} {Q : Option Value → am_H → Prop}
theorem bX4_greatest_0 {E : Nat × (Nat → Int32)} {I : Nat → Nat → Int32} {J : Nat → Nat → Int64} {b : Bool} {a2 : Int32} {Q : Option Value → am_H → Prop}  (wp : (((I 4 0) ≤ 5 → ∃ j2, (I 4 0) = nI j2 ∧ j2 < 8 ∧ am_R E mX4_layRows 0 [some (.ref 41), some (.int (am_fa j2)), none, none, none] [] (hp I J b) 64 64 (fun r h' => am_R E mX4_greatest 30 [some (.ref 41), some (.ref 11), some (.int a2), some (.int (am_fa j2)), none, none] (r.toList ++ []) h' 64 64 Q)) ∧ (¬ (I 4 0) ≤ 5 → Q (some (.int (-1))) (hp I J b)))) : am_R E mX4_greatest 0 [some (.ref 41), some (.ref 11), some (.int a2), none, none, none] [] (hp I J b) 64 64 Q := by
  refine am_aload_n rfl rfl dX4_greatest_0 ?_
  refine am_getA (r := 4) dX4_greatest_1 flX4_27 (Or.inl ⟨_, rfl⟩) rfl (by decide) rfl ?_
  refine am_getI dX4_greatest_4 flX4_31 (Or.inl rfl) rfl (by decide) ?_
  refine am_iconst 5 rfl dX4_greatest_7 ?_
  refine am_icmp_le dX4_greatest_8 (tgt := 13) rfl (fun hc1 => ?_) (fun hc1 => ?_)
  · have wp := wp.1 hc1
    refine am_gsFN dX4_greatest_13 (by decide +kernel) ?_
    refine am_aload_n rfl rfl dX4_greatest_16 ?_
    refine am_getA (r := 4) dX4_greatest_17 flX4_27 (Or.inl ⟨_, rfl⟩) rfl (by decide) rfl ?_
    refine am_getI dX4_greatest_20 flX4_31 (Or.inl rfl) rfl (by decide) ?_
    obtain ⟨j2, e2, w2, wp⟩ := wp
    refine am_ildFN (j := j2) dX4_greatest_23 e2 w2 ?_
    refine am_istore_n (ls' := [some (.ref 41), some (.ref 11), some (.int a2), some (.int (am_fa j2)), none, none]) rfl (by decide) rfl rfl dX4_greatest_24 ?_
    refine am_aload_n rfl rfl dX4_greatest_25 ?_
    refine am_iload_n rfl rfl dX4_greatest_26 ?_
    refine am_invV (ci := 2) (As := [.int (am_fa j2)]) (lsZ := [some (.ref 41), some (.int (am_fa j2)), none, none, none]) (st := []) dX4_greatest_27 hX4_layRows lkX4_40 ⟨by decide, by decide⟩ (by decide) rfl (by decide) rfl rfl rfl (Nat.le_of_ble_eq_true rfl) rfl (Nat.le_of_ble_eq_true rfl) ⟨Nat.le_refl _, Nat.le_refl _⟩ (am_R.mono wp (fun r h' q => am_R.forget q ⟨rfl, ⟨rfl, ⟨rfl, ⟨rfl, trivial⟩⟩⟩⟩))
  · have wp := wp.2 hc1
    refine am_iconst (-1) rfl dX4_greatest_11 ?_
    exact am_iret dX4_greatest_12 rfl rfl wp
theorem bX4_greatest_30 {E : Nat × (Nat → Int32)} {I : Nat → Nat → Int32} {J : Nat → Nat → Int64} {b : Bool} {a2 : Int32} {a3 : Int32} {Q : Option Value → am_H → Prop}  (wp : am_R E mX4_greatest 33 [some (.ref 41), some (.ref 11), some (.int a2), some (.int a3), some (.int 0), none] [] (hp I J b) 64 64 Q) : am_R E mX4_greatest 30 [some (.ref 41), some (.ref 11), some (.int a2), some (.int a3), none, none] [] (hp I J b) 64 64 Q := by
  refine am_iconst 0 rfl dX4_greatest_30 ?_
  refine am_istore (ls' := [some (.ref 41), some (.ref 11), some (.int a2), some (.int a3), some (.int 0), none]) (by decide) rfl rfl dX4_greatest_31 ?_
  exact am_R.forget wp ⟨rfl, ⟨rfl, ⟨rfl, ⟨rfl, ⟨rfl, trivial⟩⟩⟩⟩⟩
theorem bX4_greatest_33 {E : Nat × (Nat → Int32)} {I : Nat → Nat → Int32} {J : Nat → Nat → Int64} {b : Bool} {a2 : Int32} {a3 : Int32} {a4 : Int32} {Q : Option Value → am_H → Prop}  (wp : ((a3 ≤ a4 → am_R E mX4_greatest 77 [some (.ref 41), none, some (.int a2), some (.int a3), some (.int 1), none] [] (hp I J b) 64 64 Q) ∧ (¬ a3 ≤ a4 → am_R E mX4_mayComeBehind 0 [some (.ref 41), some (.ref 11), some (.int 0), some (.int a4), none] [] (hp I J b) 64 64 (fun r h' => am_R E mX4_greatest 53 [some (.ref 41), some (.ref 11), some (.int a2), some (.int a3), some (.int a4), none] (r.toList ++ [.int a4, .ref (pbst b)]) h' 64 64 Q)))) : am_R E mX4_greatest 33 [some (.ref 41), some (.ref 11), some (.int a2), some (.int a3), some (.int a4), none] [] (hp I J b) 64 64 Q := by
  refine am_iload rfl dX4_greatest_33 ?_
  refine am_iload_n rfl rfl dX4_greatest_35 ?_
  refine am_icmp_ge dX4_greatest_36 (tgt := 74) rfl (fun hc1 => ?_) (fun hc1 => ?_)
  · have wp := wp.1 hc1
    refine am_iconst 1 rfl dX4_greatest_74 ?_
    refine am_istore (ls' := [some (.ref 41), some (.ref 11), some (.int a2), some (.int a3), some (.int 1), none]) (by decide) rfl rfl dX4_greatest_75 ?_
    exact am_R.forget wp ⟨rfl, ⟨rfl, ⟨rfl, ⟨rfl, trivial⟩⟩⟩⟩
  · have wp := wp.2 hc1
    refine am_aload_n rfl rfl dX4_greatest_39 ?_
    refine am_getA (r := (pbst b)) dX4_greatest_40 flX4_21 (Or.inr ⟨_, rfl⟩) rfl (by decide) rfl ?_
    refine am_iload rfl dX4_greatest_43 ?_
    refine am_aload_n rfl rfl dX4_greatest_45 ?_
    refine am_aload_n rfl rfl dX4_greatest_46 ?_
    refine am_iconst 0 rfl dX4_greatest_47 ?_
    refine am_iload rfl dX4_greatest_48 ?_
    refine am_invV (ci := 2) (As := [.ref 11, .int 0, .int a4]) (lsZ := [some (.ref 41), some (.ref 11), some (.int 0), some (.int a4), none]) (st := [.int a4, .ref (pbst b)]) dX4_greatest_50 hX4_mayComeBehind lkX4_44 ⟨by decide, by decide⟩ (by decide) rfl (by decide) rfl rfl rfl (Nat.le_of_ble_eq_true rfl) rfl (Nat.le_of_ble_eq_true rfl) ⟨Nat.le_refl _, Nat.le_refl _⟩ (am_R.mono wp (fun r h' q => am_R.forget q ⟨rfl, ⟨rfl, ⟨rfl, ⟨rfl, ⟨rfl, trivial⟩⟩⟩⟩⟩))
theorem bX4_greatest_53 {E : Nat × (Nat → Int32)} {I : Nat → Nat → Int32} {J : Nat → Nat → Int64} {b : Bool} {a2 : Int32} {a3 : Int32} {a4 : Int32} {x0 : Int32} {x1 : Int32} {Q : Option Value → am_H → Prop}  (wp : ((x0 = 0 → ∃ j2, x1 = nI j2 ∧ j2 < 120 ∧ am_R E mX4_greatest 33 [some (.ref 41), some (.ref 11), some (.int a2), some (.int a3), some (.int (a4 + 1)), none] [] (hp (u2 I (pbst b) j2 (-1)) J b) 64 64 Q) ∧ (¬ x0 = 0 → ∃ j3, a4 = nI j3 ∧ j3 < 120 ∧ ∃ j4, x1 = nI j4 ∧ j4 < 120 ∧ am_R E mX4_greatest 33 [some (.ref 41), some (.ref 11), some (.int a2), some (.int a3), some (.int (a4 + 1)), none] [] (hp (u2 I (pbst b) j4 (I 44 j3)) J b) 64 64 Q))) : am_R E mX4_greatest 53 [some (.ref 41), some (.ref 11), some (.int a2), some (.int a3), some (.int a4), none] [.int x0, .int x1, .ref (pbst b)] (hp I J b) 64 64 Q := by
  refine am_if_eq dX4_greatest_53 (tgt := 66) rfl (fun hc1 => ?_) (fun hc1 => ?_)
  · have wp := wp.1 hc1
    refine am_iconst (-1) rfl dX4_greatest_66 ?_
    obtain ⟨j2, e2, w2, wp⟩ := wp
    refine am_iastN (j := j2) dX4_greatest_67 (am_s_pb b) (am_k_pb b) e2 w2 (by decide) ?_
    refine am_iinc (ls' := [some (.ref 41), some (.ref 11), some (.int a2), some (.int a3), some (.int (a4 + 1)), none]) (by decide) rfl rfl rfl dX4_greatest_68 ?_
    refine am_goto dX4_greatest_71 (tgt := 33) rfl ?_
    exact am_R.forget wp ⟨rfl, ⟨rfl, ⟨rfl, ⟨rfl, ⟨rfl, trivial⟩⟩⟩⟩⟩
  · have wp := wp.2 hc1
    refine am_aload_n rfl rfl dX4_greatest_56 ?_
    refine am_getA (r := 44) dX4_greatest_57 flX4_18 (Or.inr ⟨_, rfl⟩) rfl (by decide) rfl ?_
    refine am_iload rfl dX4_greatest_60 ?_
    obtain ⟨j3, e3, w3, wp⟩ := wp
    refine am_ialdN (j := j3) dX4_greatest_62 rfl (by decide) e3 w3 (by decide) ?_
    refine am_goto dX4_greatest_63 (tgt := 67) rfl ?_
    obtain ⟨j4, e4, w4, wp⟩ := wp
    refine am_iastN (j := j4) dX4_greatest_67 (am_s_pb b) (am_k_pb b) e4 w4 (by decide) ?_
    refine am_iinc (ls' := [some (.ref 41), some (.ref 11), some (.int a2), some (.int a3), some (.int (a4 + 1)), none]) (by decide) rfl rfl rfl dX4_greatest_68 ?_
    refine am_goto dX4_greatest_71 (tgt := 33) rfl ?_
    exact am_R.forget wp ⟨rfl, ⟨rfl, ⟨rfl, ⟨rfl, ⟨rfl, trivial⟩⟩⟩⟩⟩
theorem bX4_greatest_77 {E : Nat × (Nat → Int32)} {I : Nat → Nat → Int32} {J : Nat → Nat → Int64} {b : Bool} {a2 : Int32} {a3 : Int32} {a4 : Int32} {Q : Option Value → am_H → Prop}  (wp : ((a2 ≤ a4 → am_R E mX4_greatest 100 [some (.ref 41), none, none, some (.int a3), some (.int (-1)), some (.int 0)] [] (hp I J b) 64 64 Q) ∧ (¬ a2 ≤ a4 → am_R E mX4_addDay 0 [some (.ref 41), some (.int a3), none, none] [] (hp I J b) 64 64 (fun r h' => am_R E mX4_greatest 88 [some (.ref 41), none, some (.int a2), some (.int a3), some (.int a4), none] (r.toList ++ []) h' 64 64 Q)))) : am_R E mX4_greatest 77 [some (.ref 41), none, some (.int a2), some (.int a3), some (.int a4), none] [] (hp I J b) 64 64 Q := by
  refine am_iload rfl dX4_greatest_77 ?_
  refine am_iload_n rfl rfl dX4_greatest_79 ?_
  refine am_icmp_ge dX4_greatest_80 (tgt := 94) rfl (fun hc1 => ?_) (fun hc1 => ?_)
  · have wp := wp.1 hc1
    refine am_iconst (-1) rfl dX4_greatest_94 ?_
    refine am_istore (ls' := [some (.ref 41), none, some (.int a2), some (.int a3), some (.int (-1)), none]) (by decide) rfl rfl dX4_greatest_95 ?_
    refine am_iconst 0 rfl dX4_greatest_97 ?_
    refine am_istore (ls' := [some (.ref 41), none, some (.int a2), some (.int a3), some (.int (-1)), some (.int 0)]) (by decide) rfl rfl dX4_greatest_98 ?_
    exact am_R.forget wp ⟨rfl, ⟨rfl, ⟨rfl, ⟨rfl, trivial⟩⟩⟩⟩
  · have wp := wp.2 hc1
    refine am_aload_n rfl rfl dX4_greatest_83 ?_
    refine am_iload_n rfl rfl dX4_greatest_84 ?_
    refine am_invV (ci := 2) (As := [.int a3]) (lsZ := [some (.ref 41), some (.int a3), none, none]) (st := []) dX4_greatest_85 hX4_addDay lkX4_48 ⟨by decide, by decide⟩ (by decide) rfl (by decide) rfl rfl rfl (Nat.le_of_ble_eq_true rfl) rfl (Nat.le_of_ble_eq_true rfl) ⟨Nat.le_refl _, Nat.le_refl _⟩ (am_R.mono wp (fun r h' q => am_R.forget q ⟨rfl, ⟨rfl, ⟨rfl, ⟨rfl, trivial⟩⟩⟩⟩))
theorem bX4_greatest_88 {E : Nat × (Nat → Int32)} {I : Nat → Nat → Int32} {J : Nat → Nat → Int64} {b : Bool} {a2 : Int32} {a3 : Int32} {a4 : Int32} {Q : Option Value → am_H → Prop}  (wp : am_R E mX4_greatest 77 [some (.ref 41), none, some (.int a2), some (.int a3), some (.int (a4 + 1)), none] [] (hp I J b) 64 64 Q) : am_R E mX4_greatest 88 [some (.ref 41), none, some (.int a2), some (.int a3), some (.int a4), none] [] (hp I J b) 64 64 Q := by
  refine am_iinc (ls' := [some (.ref 41), none, some (.int a2), some (.int a3), some (.int (a4 + 1)), none]) (by decide) rfl rfl rfl dX4_greatest_88 ?_
  refine am_goto dX4_greatest_91 (tgt := 77) rfl ?_
  exact am_R.forget wp ⟨rfl, ⟨rfl, ⟨rfl, ⟨rfl, trivial⟩⟩⟩⟩
theorem bX4_greatest_100 {E : Nat × (Nat → Int32)} {I : Nat → Nat → Int32} {J : Nat → Nat → Int64} {b : Bool} {a3 : Int32} {a4 : Int32} {a5 : Int32} {Q : Option Value → am_H → Prop}  (wp : ((a3 ≤ a5 → Q (some (.int a4)) (hp I J b)) ∧ (¬ a3 ≤ a5 → ∃ j2, a5 = nI j2 ∧ j2 < 120 ∧ am_R E mX4_greatest 100 [some (.ref 41), none, none, some (.int a3), some (.int (if a4 < (I (pbst b) j2) then (I (pbst b) j2) else a4)), some (.int (a5 + 1))] [] (hp I J b) 64 64 Q))) : am_R E mX4_greatest 100 [some (.ref 41), none, none, some (.int a3), some (.int a4), some (.int a5)] [] (hp I J b) 64 64 Q := by
  refine am_iload rfl dX4_greatest_100 ?_
  refine am_iload_n rfl rfl dX4_greatest_102 ?_
  refine am_icmp_ge dX4_greatest_103 (tgt := 126) rfl (fun hc1 => ?_) (fun hc1 => ?_)
  · have wp := wp.1 hc1
    refine am_iload rfl dX4_greatest_126 ?_
    exact am_iret dX4_greatest_128 rfl rfl wp
  · have wp := wp.2 hc1
    refine am_iload rfl dX4_greatest_106 ?_
    refine am_aload_n rfl rfl dX4_greatest_108 ?_
    refine am_getA (r := (pbst b)) dX4_greatest_109 flX4_21 (Or.inr ⟨_, rfl⟩) rfl (by decide) rfl ?_
    refine am_iload rfl dX4_greatest_112 ?_
    obtain ⟨j2, e2, w2, wp⟩ := wp
    refine am_ialdN (j := j2) dX4_greatest_114 (am_s_pb b) (am_k_pb b) e2 w2 (by decide) ?_
    refine am_max dX4_greatest_115 lkX4_51 kn_max (Nat.le_of_ble_eq_true rfl) (by decide) ?_
    refine am_istore (ls' := [some (.ref 41), none, none, some (.int a3), some (.int (if a4 < (I (pbst b) j2) then (I (pbst b) j2) else a4)), some (.int a5)]) (by decide) rfl rfl dX4_greatest_118 ?_
    refine am_iinc (ls' := [some (.ref 41), none, none, some (.int a3), some (.int (if a4 < (I (pbst b) j2) then (I (pbst b) j2) else a4)), some (.int (a5 + 1))]) (by decide) rfl rfl rfl dX4_greatest_120 ?_
    refine am_goto dX4_greatest_123 (tgt := 100) rfl ?_
    exact am_R.forget wp ⟨rfl, ⟨rfl, ⟨rfl, ⟨rfl, trivial⟩⟩⟩⟩
theorem Wk.w63 (hW : Wk I n) : ∀ c, c < fct n → wn I n c ≤ 63 := fun c hc => (wn_ok (I := I) hW.1.2.1.2 hW.2.2.2.2.1 hc).2
theorem tX4_greatest {a2 : Int32} {w : Nat} (hW : Wk I n) (ew : a2 = nI w) (h1 : 1 ≤ w) (hw7 : w ≤ 7) (k : ∀ I2 b2, Ag pS I I2 → Q (some (.int (oI (mxx (be I n (w - 1)) (fct n))))) (hp I2 J b2)) : am_R E mX4_greatest 0 [some (.ref 41), some (.ref 11), some (.int a2), none, none, none] [] (hp I J b) 64 64 Q := by
  subst ew
  have n7 : n ≤ 7 := hW.1.2.1.2
  have n5 := hW.2.1
  have hfl := f5 n (by omega)
  have hbd := be_bd (I := I) (n := n) hW.w63
  obtain ⟨x1, x2, x3, x4, x5, x6, x7, x8, x9⟩ := pb45 b
  refine bX4_greatest_0 ⟨fun _ => ⟨n, hW.1.1, by omega, ?_⟩, fun q => absurd (by rw [hW.1.1]; exact (nI_leI (b := 5) (by omega) (by omega)).mpr n5) q⟩
  rw [fa_fct n (by omega)]
  refine tX4_layRows hW rfl (fun I0 hA0 hT0 hw0 => bX4_greatest_30 ?_)
  -- the greatest of all
  have last : ∀ (I1 : Nat → Nat → Int32) (b1 : Bool), Ag pS I I1 → (∀ c, c < fct n → I1 (pbst b1) c = oI (be I n (w - 1) c)) → am_R E mX4_greatest 100 [some (.ref 41), none, none, some (.int (nI (fct n))), some (.int (-1)), some (.int 0)] [] (hp I1 J b1) 64 64 Q := by
    intro I1 b1 hA hB
    refine lp_up (n := fct n) (P := fun j => am_R E mX4_greatest 100 [some (.ref 41), none, none, some (.int (nI (fct n))), some (.int (oI (mxx (be I n (w - 1)) j))), some (.int (nI j))] [] (hp I1 J b1) 64 64 Q) ?_ ?_
    · exact bX4_greatest_100 (le_br rfl rfl (by omega) (by omega) (fun _ => k I1 b1 hA) (fun h => by omega))
    · intro j hj ih
      have hlt := oI_lt (a := mxx (be I n (w - 1)) j) (e := be I n (w - 1) j) (fun v hv => by have := mxx_bd (hbd (w - 1)) j (by omega) v hv; omega) (fun v hv => by have := hbd (w - 1) j v hj hv; omega)
      refine bX4_greatest_100 (le_br rfl rfl (by omega) (by omega) (fun h => by omega) (fun _ => ⟨j, rfl, by omega, ?_⟩))
      rw [hB j hj, n1]
      rw [mxx] at ih
      by_cases q : olt (mxx (be I n (w - 1)) j) (be I n (w - 1) j) = true
      · rw [if_pos q] at ih; rw [if_pos (hlt.mpr q)]; exact ih
      · rw [if_neg q] at ih; rw [if_neg (fun z => q (hlt.mp z))]; exact ih
  -- the days
  have days : ∀ j d, d + j = w → 1 ≤ d → ∀ (I1 : Nat → Nat → Int32) (b1 : Bool), Ag pS I I1 → RT I1 n → WT I I1 n → (∀ c, c < fct n → I1 (pbst b1) c = oI (be I n (d - 1) c)) → am_R E mX4_greatest 77 [some (.ref 41), none, some (.int (nI w)), some (.int (nI (fct n))), some (.int (nI d)), none] [] (hp I1 J b1) 64 64 Q := by
    intro j
    induction j with
    | zero =>
      intro d hd h1d I1 b1 hA hT hw hB
      have e : d = w := by omega
      subst e
      exact bX4_greatest_77 (le_br rfl rfl (by omega) (by omega) (fun _ => last I1 b1 hA hB) (fun h => by omega))
    | succ j ih =>
      intro d hd h1d I1 b1 hA hT hw hB
      refine bX4_greatest_77 (le_br rfl rfl (by omega) (by omega) (fun h => by omega) (fun _ => ?_))
      refine tX4_addDay (M := 63 * (d - 1 + 1)) (B := be I n (d - 1)) hW hA hT hw (hbd (d - 1)) (by omega) hB rfl (fun I2 hA2 hT2 hw2 hB2 => bX4_greatest_88 ?_)
      rw [n1]
      refine ih (d + 1) (by omega) (by omega) I2 (!b1) hA2 hT2 hw2 (fun c hc => ?_)
      rw [hB2 c hc, show d + 1 - 1 = (d - 1) + 1 by omega, be]
  have first : ∀ j c, c + j = fct n → ∀ I1, Ag pS I I1 → RT I1 n → WT I I1 n → (∀ c', c' < c → I1 (pbst b) c' = oI (be I n 0 c')) → am_R E mX4_greatest 33 [some (.ref 41), some (.ref 11), some (.int (nI w)), some (.int (nI (fct n))), some (.int (nI c)), none] [] (hp I1 J b) 64 64 Q := by
    intro j
    induction j with
    | zero =>
      intro c hc I1 hA hT hw hB
      have e : c = fct n := by omega
      subst e
      exact bX4_greatest_33 (le_br rfl rfl (by omega) (by omega) (fun _ => days (w - 1) 1 (by omega) (by omega) I1 b hA hT hw hB) (fun h => by omega))
    | succ j ih =>
      intro c hc I1 hA hT hw hB
      have hcl : c < fct n := by omega
      have hup := (ur_pm n7 hcl).1
      have fin : ∀ x : Int32, x = oI (be I n 0 c) → am_R E mX4_greatest 33 [some (.ref 41), some (.ref 11), some (.int (nI w)), some (.int (nI (fct n))), some (.int (nI c + 1)), none] [] (hp (u2 I1 (pbst b) c x) J b) 64 64 Q := by
        intro x hx
        rw [n1]
        refine ih (c + 1) (by omega) _ (hA.u2 x1) (fun c' hc' m hm => ?_) (fun c' hc' => ?_) (fun c' hc' => ?_)
        · rw [u2_n _ _ _ (Ne.symm x4)]; exact hT c' hc' m hm
        · rw [u2_n _ _ _ (Ne.symm x5)]; exact hw c' hc'
        · rw [u2_s]; unfold upd
          by_cases q : c' = c
          · rw [if_pos q, q]; exact hx
          · rw [if_neg q]; exact hB c' (by omega)
      have hy7 : ∀ m, m < n → I 55 (8 + m) = -1 ∨ ∃ e, e < 7 ∧ I 55 (8 + m) = nI e := fun m hm => hW.2.2.2.2.2.2.seven n7 hm
      have hlc : lc I n c = true ↔ (able I n c = true ∧ ∀ m, m < n → mf I (ur n c m) (I 55 (8 + m))) := by
        unfold lc able
        rw [decide_eq_true_iff, decide_eq_true_iff]
        constructor
        · intro q
          exact ⟨fun m hm => (q m hm).1, fun m hm => ((hW.mb (by omega) (by have := hup m hm; omega) (hy7 m hm)).mpr (q m hm)).2⟩
        · intro q m hm
          exact (hW.mb (by omega) (by have := hup m hm; omega) (hy7 m hm)).mp ⟨q.1 m hm, q.2 m hm⟩
      refine bX4_greatest_33 (le_br rfl rfl (by omega) (by omega) (fun h => by omega) (fun _ => ?_))
      refine tX4_mcbY hW hA hT rfl hcl (fun q => bX4_greatest_53 (z01 rfl ⟨c, rfl, by omega, c, rfl, by omega, fin _ ?_⟩)) (fun q => bX4_greatest_53 (z00 rfl ⟨c, rfl, by omega, fin (-1) ?_⟩))
      · rw [hw c hcl, be]
        congr 1
        cases hab : able I n c with
        | true =>
          rw [if_pos rfl, if_pos (hlc.mpr ⟨hab, q⟩)]
        | false =>
          rw [if_neg (by decide), if_neg (fun z => by have := (hlc.mp z).1; rw [hab] at this; cases this)]
      · rw [be, if_neg (fun z => q (hlc.mp z).2)]; rfl
  exact first (fct n) 0 (by omega) I0 hA0 hT0 hw0 (fun c' hc' => by omega)
theorem bX9_week_0 {E : Nat × (Nat → Int32)} {I : Nat → Nat → Int32} {J : Nat → Nat → Int64} {b : Bool} {a1 : Int32} {Q : Option Value → am_H → Prop}  (wp : ((a1 < 1 → Q (some (.int (-3))) (hp I J b)) ∧ (¬ a1 < 1 → ((a1 ≤ 7 → (((I 4 0) ≤ 5 → am_R E mX4_greatest 0 [some (.ref 41), some (.ref 11), some (.int a1), none, none, none] [] (hp I J b) 64 64 (fun r h' => am_R E mX9_week 43 [none, none] (r.toList ++ []) h' 64 64 Q)) ∧ (¬ (I 4 0) ≤ 5 → Q (some (.int (-4))) (hp I J b)))) ∧ (¬ a1 ≤ 7 → Q (some (.int (-3))) (hp I J b)))))) : am_R E mX9_week 0 [some (.ref 0), some (.int a1)] [] (hp I J b) 64 64 Q := by
  refine am_iload_n rfl rfl dX9_week_0 ?_
  refine am_iconst 1 rfl dX9_week_1 ?_
  refine am_icmp_lt dX9_week_2 (tgt := 11) rfl (fun hc1 => ?_) (fun hc1 => ?_)
  · have wp := wp.1 hc1
    refine am_bipush (-3) rfl dX9_week_11 ?_
    exact am_iret dX9_week_13 rfl rfl wp
  · have wp := wp.2 hc1
    refine am_iload_n rfl rfl dX9_week_5 ?_
    refine am_bipush 7 rfl dX9_week_6 ?_
    refine am_icmp_le dX9_week_8 (tgt := 14) rfl (fun hc2 => ?_) (fun hc2 => ?_)
    · have wp := wp.1 hc2
      refine am_aload_n rfl rfl dX9_week_14 ?_
      refine am_getA (r := 4) dX9_week_15 flX9_19 (Or.inl ⟨_, rfl⟩) rfl (by decide) rfl ?_
      refine am_getI dX9_week_18 flX9_102 (Or.inl rfl) rfl (by decide) ?_
      refine am_iconst 5 rfl dX9_week_21 ?_
      refine am_icmp_le dX9_week_22 (tgt := 28) rfl (fun hc3 => ?_) (fun hc3 => ?_)
      · have wp := wp.1 hc3
        refine am_aload_n rfl rfl dX9_week_28 ?_
        refine am_getA (r := 41) dX9_week_29 flX9_68 (Or.inl ⟨_, rfl⟩) rfl (by decide) rfl ?_
        refine am_aload_n rfl rfl dX9_week_32 ?_
        refine am_getA (r := 9) dX9_week_33 flX9_26 (Or.inl ⟨_, rfl⟩) rfl (by decide) rfl ?_
        refine am_getA (r := 11) dX9_week_36 flX9_87 (Or.inr ⟨_, rfl⟩) rfl (by decide) rfl ?_
        refine am_iload_n rfl rfl dX9_week_39 ?_
        refine am_invV (ci := 2) (As := [.ref 11, .int a1]) (lsZ := [some (.ref 41), some (.ref 11), some (.int a1), none, none, none]) (st := []) dX9_week_40 hX4_greatest lkX9_243 ⟨by decide, by decide⟩ (by decide) rfl (by decide) rfl rfl rfl (Nat.le_of_ble_eq_true rfl) rfl (Nat.le_of_ble_eq_true rfl) ⟨Nat.le_refl _, Nat.le_refl _⟩ (am_R.mono wp (fun r h' q => am_R.forget q trivial))
      · have wp := wp.2 hc3
        refine am_bipush (-4) rfl dX9_week_25 ?_
        exact am_iret dX9_week_27 rfl rfl wp
    · have wp := wp.2 hc2
      refine am_bipush (-3) rfl dX9_week_11 ?_
      exact am_iret dX9_week_13 rfl rfl wp
theorem bX9_week_43 {E : Nat × (Nat → Int32)} {I : Nat → Nat → Int32} {J : Nat → Nat → Int64} {b : Bool} {x0 : Int32} {Q : Option Value → am_H → Prop}  (wp : Q (some (.int x0)) (hp I J b)) : am_R E mX9_week 43 [none, none] [.int x0] (hp I J b) 64 64 Q := by
  exact am_iret dX9_week_43 rfl rfl wp
/-! the reference -/
def qS : List Nat := [58, 59, 62, 63]
theorem Ag.qm (hA : Ag qS I I') (hN : Nn I n) (hY : Yw I n) : Nn I' n ∧ Yw I' n ∧ my I' = my I ∧ I' 49 = I 49 := by
  have h48 := hA 48 (by decide)
  have h49 := hA 49 (by decide)
  have h51 := hA 51 (by decide)
  have h55 := hA 55 (by decide)
  refine ⟨?_, ?_, my_eq h49 h51 (fun m => by rw [h55]), h49⟩
  · unfold Nn at hN ⊢; rw [h48]; exact hN
  · unfold Yw at hY ⊢; rw [h55]; exact hY
theorem bX10_isLawfulBehind_0 {E : Nat × (Nat → Int32)} {I : Nat → Nat → Int32} {J : Nat → Nat → Int64} {b : Bool}  {Q : Option Value → am_H → Prop}  (wp : am_R E mX10_isLawfulBehind 4 [some (.ref 48), some (.int 1), some (.int 0)] [] (hp I J b) 64 64 Q) : am_R E mX10_isLawfulBehind 0 [some (.ref 48), none, none] [] (hp I J b) 64 64 Q := by
  refine am_iconst 1 rfl dX10_isLawfulBehind_0 ?_
  refine am_istore_n (ls' := [some (.ref 48), some (.int 1), none]) rfl (by decide) rfl rfl dX10_isLawfulBehind_1 ?_
  refine am_iconst 0 rfl dX10_isLawfulBehind_2 ?_
  refine am_istore_n (ls' := [some (.ref 48), some (.int 1), some (.int 0)]) rfl (by decide) rfl rfl dX10_isLawfulBehind_3 ?_
  exact am_R.forget wp ⟨rfl, ⟨rfl, ⟨rfl, trivial⟩⟩⟩
theorem bX10_isLawfulBehind_4 {E : Nat × (Nat → Int32)} {I : Nat → Nat → Int32} {J : Nat → Nat → Int64} {b : Bool} {a1 : Int32} {a2 : Int32} {Q : Option Value → am_H → Prop}  (wp : (((I 48 0) ≤ a2 → (narrow .boolean (.int a1) = .int a1) ∧ Q (some (.int a1)) (hp I J b)) ∧ (¬ (I 48 0) ≤ a2 → ((a1 = 0 → am_R E mX10_isLawfulBehind 4 [some (.ref 48), some (.int 0), some (.int (a2 + 1))] [] (hp I J b) 64 64 Q) ∧ (¬ a1 = 0 → ∃ j4, a2 = nI j4 ∧ j4 < 7 ∧ ∃ j5, (I 58 j4) = nI j5 ∧ j5 < 7 ∧ ((I 59 j4) = -1 ∨ ∃ e, e < 7 ∧ (I 59 j4) = nI e) ∧ (((mb I j4 j5 (I 59 j4)) → am_R E mX10_isLawfulBehind 4 [some (.ref 48), some (.int 1), some (.int (a2 + 1))] [] (hp I J b) 64 64 Q) ∧ (¬ (mb I j4 j5 (I 59 j4)) → am_R E mX10_isLawfulBehind 4 [some (.ref 48), some (.int 0), some (.int (a2 + 1))] [] (hp I J b) 64 64 Q))))))) : am_R E mX10_isLawfulBehind 4 [some (.ref 48), some (.int a1), some (.int a2)] [] (hp I J b) 64 64 Q := by
  refine am_iload_n rfl rfl dX10_isLawfulBehind_4 ?_
  refine am_aload_n rfl rfl dX10_isLawfulBehind_5 ?_
  refine am_getI dX10_isLawfulBehind_6 flX10_7 (Or.inl rfl) rfl (by decide) ?_
  refine am_icmp_ge dX10_isLawfulBehind_9 (tgt := 48) rfl (fun hc1 => ?_) (fun hc1 => ?_)
  · have wp := wp.1 hc1
    refine am_iload_n rfl rfl dX10_isLawfulBehind_48 ?_
    exact am_iret dX10_isLawfulBehind_49 rfl wp.1 wp.2
  · have wp := wp.2 hc1
    refine am_iload_n rfl rfl dX10_isLawfulBehind_12 ?_
    refine am_if_eq dX10_isLawfulBehind_13 (tgt := 40) rfl (fun hc3 => ?_) (fun hc3 => ?_)
    · have wp := wp.1 hc3
      refine am_iconst 0 rfl dX10_isLawfulBehind_40 ?_
      refine am_istore_n (ls' := [some (.ref 48), some (.int 0), some (.int a2)]) rfl (by decide) rfl rfl dX10_isLawfulBehind_41 ?_
      refine am_iinc (ls' := [some (.ref 48), some (.int 0), some (.int (a2 + 1))]) (by decide) rfl rfl rfl dX10_isLawfulBehind_42 ?_
      refine am_goto dX10_isLawfulBehind_45 (tgt := 4) rfl ?_
      exact am_R.forget wp ⟨rfl, ⟨rfl, ⟨rfl, trivial⟩⟩⟩
    · have wp := wp.2 hc3
      refine am_aload_n rfl rfl dX10_isLawfulBehind_16 ?_
      refine am_iload_n rfl rfl dX10_isLawfulBehind_17 ?_
      refine am_aload_n rfl rfl dX10_isLawfulBehind_18 ?_
      refine am_getA (r := 58) dX10_isLawfulBehind_19 flX10_45 (Or.inr ⟨_, rfl⟩) rfl (by decide) rfl ?_
      refine am_iload_n rfl rfl dX10_isLawfulBehind_22 ?_
      obtain ⟨j4, e4, w4, wp⟩ := wp
      refine am_ialdN (j := j4) dX10_isLawfulBehind_23 rfl (by decide) e4 w4 (by decide) ?_
      refine am_aload_n rfl rfl dX10_isLawfulBehind_24 ?_
      refine am_getA (r := 59) dX10_isLawfulBehind_25 flX10_48 (Or.inr ⟨_, rfl⟩) rfl (by decide) rfl ?_
      refine am_iload_n rfl rfl dX10_isLawfulBehind_28 ?_
      refine am_ialdN (j := j4) dX10_isLawfulBehind_29 rfl (by decide) e4 w4 (by decide) ?_
      obtain ⟨j5, e5, w5, wp⟩ := wp
      obtain ⟨w6, wp⟩ := wp
      refine am_invV (ci := 8) (As := [.int a2, .int (I 58 j4), .int (I 59 j4)]) (lsZ := [some (.ref 48), some (.int a2), some (.int (I 58 j4)), some (.int (I 59 j4)), none]) (st := []) dX10_isLawfulBehind_30 hX10_mayBehind lkX10_163 ⟨by decide, by decide⟩ (by decide) rfl (by decide) rfl rfl rfl (Nat.le_of_ble_eq_true rfl) rfl (Nat.le_of_ble_eq_true rfl) ⟨Nat.le_refl _, Nat.le_refl _⟩ (tX10_mayBehind (m := j4) (d := j5) e4 w4 e5 w5 w6 (fun hc7 => ?_) (fun hc7 => ?_))
      · have wp := wp.1 hc7
        show am_R E mX10_isLawfulBehind 33 [some (.ref 48), some (.int a1), some (.int a2)] [.int 1] (hp I J b) 64 64 Q
        refine am_if_eq dX10_isLawfulBehind_33 (tgt := 40) rfl (fun hc => absurd hc (by decide)) (fun _ => ?_)
        refine am_iconst 1 rfl dX10_isLawfulBehind_36 ?_
        refine am_goto dX10_isLawfulBehind_37 (tgt := 41) rfl ?_
        refine am_istore_n (ls' := [some (.ref 48), some (.int 1), some (.int a2)]) rfl (by decide) rfl rfl dX10_isLawfulBehind_41 ?_
        refine am_iinc (ls' := [some (.ref 48), some (.int 1), some (.int (a2 + 1))]) (by decide) rfl rfl rfl dX10_isLawfulBehind_42 ?_
        refine am_goto dX10_isLawfulBehind_45 (tgt := 4) rfl ?_
        exact am_R.forget wp ⟨rfl, ⟨rfl, ⟨rfl, trivial⟩⟩⟩
      · have wp := wp.2 hc7
        show am_R E mX10_isLawfulBehind 33 [some (.ref 48), some (.int a1), some (.int a2)] [.int 0] (hp I J b) 64 64 Q
        refine am_if_eq dX10_isLawfulBehind_33 (tgt := 40) rfl (fun _ => ?_) (fun hc => absurd hc (by decide))
        refine am_iconst 0 rfl dX10_isLawfulBehind_40 ?_
        refine am_istore_n (ls' := [some (.ref 48), some (.int 0), some (.int a2)]) rfl (by decide) rfl rfl dX10_isLawfulBehind_41 ?_
        refine am_iinc (ls' := [some (.ref 48), some (.int 0), some (.int (a2 + 1))]) (by decide) rfl rfl rfl dX10_isLawfulBehind_42 ?_
        refine am_goto dX10_isLawfulBehind_45 (tgt := 4) rfl ?_
        exact am_R.forget wp ⟨rfl, ⟨rfl, ⟨rfl, trivial⟩⟩⟩
theorem tX10_isLawfulBehind {p q : Nat → Nat} (hN : Nn I n) (hR : Rw (I 58) p n) (hR2 : Rw (I 59) q n) (k1 : (∀ m, m < n → mb I m (p m) (nI (q m))) → Q (some (.int 1)) (hp I J b)) (k0 : ¬ (∀ m, m < n → mb I m (p m) (nI (q m))) → Q (some (.int 0)) (hp I J b)) : am_R E mX10_isLawfulBehind 0 [some (.ref 48), none, none] [] (hp I J b) 64 64 Q := by
  obtain ⟨h0, h2, h7⟩ := hN
  refine bX10_isLawfulBehind_0 ?_
  have key : ∀ j m, m + j = n → ∀ v : Int32, (v = 1 ∧ (∀ i, i < m → mb I i (p i) (nI (q i))) ∨ v = 0 ∧ ¬ (∀ i, i < n → mb I i (p i) (nI (q i)))) → am_R E mX10_isLawfulBehind 4 [some (.ref 48), some (.int v), some (.int (nI m))] [] (hp I J b) 64 64 Q := by
    intro j
    induction j with
    | zero =>
      intro m hm v hv
      refine bX10_isLawfulBehind_4 (le_br h0 rfl (by omega) (by omega) (fun _ => ?_) (fun h => by omega))
      rcases hv with ⟨rfl, hv⟩ | ⟨rfl, hv⟩
      · exact ⟨rfl, k1 (by rw [← show m = n by omega]; exact hv)⟩
      · exact ⟨rfl, k0 hv⟩
    | succ j ih =>
      intro m hm v hv
      have hmn : m < n := by omega
      refine bX10_isLawfulBehind_4 (le_br h0 rfl (by omega) (by omega) (fun h => by omega) (fun h => ⟨fun hz => ?_, fun hz => ?_⟩))
      · rw [n1]
        refine ih (m + 1) (by omega) 0 (Or.inr ⟨rfl, ?_⟩)
        rcases hv with ⟨rfl, hv⟩ | ⟨rfl, hv⟩
        · exact absurd hz (by decide)
        · exact hv
      · rcases hv with ⟨rfl, hv⟩ | ⟨rfl, hv⟩
        · refine ⟨m, rfl, by omega, p m, (hR m h).1, by have := (hR m h).2; omega, Or.inr ⟨q m, by have := (hR2 m h).2; omega, (hR2 m h).1⟩, ?_⟩
          rw [(hR2 m h).1]
          refine ⟨fun w => ?_, fun w => ?_⟩
          · rw [n1]
            refine ih (m + 1) (by omega) 1 (Or.inl ⟨rfl, fun i hi => ?_⟩)
            rcases Nat.lt_or_ge i m with z | z
            · exact hv i z
            · rw [show i = m by omega]; exact w
          · rw [n1]
            exact ih (m + 1) (by omega) 0 (Or.inr ⟨rfl, fun z => w (z m h)⟩)
        · exact absurd rfl hz
  exact key n 0 (by omega) 1 (Or.inl ⟨rfl, fun i hi => by omega⟩)
theorem bX10_week_0 {E : Nat × (Nat → Int32)} {I : Nat → Nat → Int32} {J : Nat → Nat → Int64} {b : Bool} {a1 : Int32} {Q : Option Value → am_H → Prop}  (wp : (((1 ≤ a1 ∧ a1 ≤ 7) → (((I 48 0) ≤ 5 → ∃ j3, (I 48 0) = nI j3 ∧ j3 < 8 ∧ am_R E mX10_week 34 [some (.ref 48), some (.int a1), some (.int (nI (fct j3))), some (.int 0), none, none, none] [] (hp I J b) 64 64 Q) ∧ (¬ (I 48 0) ≤ 5 → Q (some (.int (-4))) (hp I J b)))) ∧ (¬ (1 ≤ a1 ∧ a1 ≤ 7) → Q (some (.int (-3))) (hp I J b)))) : am_R E mX10_week 0 [some (.ref 48), some (.int a1), none, none, none, none, none] [] (hp I J b) 64 64 Q := by
  refine am_iload_n rfl rfl dX10_week_0 ?_
  refine am_iconst 1 rfl dX10_week_1 ?_
  refine am_bipush 7 rfl dX10_week_2 ?_
  refine am_invS (As := [.int a1, .int 1, .int 7]) (lsZ := [some (.int a1), some (.int 1), some (.int 7)]) (st := []) dX10_week_4 hX10_in lkX10_69 ⟨by decide, by decide⟩ rfl rfl (Nat.le_of_ble_eq_true rfl) rfl (Nat.le_of_ble_eq_true rfl) ⟨Nat.le_refl _, Nat.le_refl _⟩ (tX10_in  (fun hc1 => ?_) (fun hc1 => ?_))
  · have wp := wp.1 hc1
    show am_R E mX10_week 7 [some (.ref 48), some (.int a1), none, none, none, none, none] [.int 1] (hp I J b) 64 64 Q
    refine am_if_ne dX10_week_7 (tgt := 13) rfl (fun _ => ?_) (fun hc => absurd hc (by decide))
    refine am_aload_n rfl rfl dX10_week_13 ?_
    refine am_getI dX10_week_14 flX10_7 (Or.inl rfl) rfl (by decide) ?_
    refine am_iconst 5 rfl dX10_week_17 ?_
    refine am_icmp_le dX10_week_18 (tgt := 24) rfl (fun hc2 => ?_) (fun hc2 => ?_)
    · have wp := wp.1 hc2
      refine am_aload_n rfl rfl dX10_week_24 ?_
      refine am_getI dX10_week_25 flX10_7 (Or.inl rfl) rfl (by decide) ?_
      obtain ⟨j3, e3, w3, wp⟩ := wp
      refine am_invS (As := [.int (I 48 0)]) (lsZ := [some (.int (I 48 0)), none, none]) (st := []) dX10_week_28 hX10_draws lkX10_173 ⟨by decide, by decide⟩ rfl rfl (Nat.le_of_ble_eq_true rfl) rfl (Nat.le_of_ble_eq_true rfl) ⟨Nat.le_refl _, Nat.le_refl _⟩ (tX10_draws (n := j3) e3 (Nat.le_of_lt_succ w3) ?_)
      show am_R E mX10_week 31 [some (.ref 48), some (.int a1), none, none, none, none, none] [.int (nI (fct j3))] (hp I J b) 64 64 Q
      refine am_istore_n (ls' := [some (.ref 48), some (.int a1), some (.int (nI (fct j3))), none, none, none, none]) rfl (by decide) rfl rfl dX10_week_31 ?_
      refine am_iconst 0 rfl dX10_week_32 ?_
      refine am_istore_n (ls' := [some (.ref 48), some (.int a1), some (.int (nI (fct j3))), some (.int 0), none, none, none]) rfl (by decide) rfl rfl dX10_week_33 ?_
      exact am_R.forget wp ⟨rfl, ⟨rfl, ⟨rfl, ⟨rfl, trivial⟩⟩⟩⟩
    · have wp := wp.2 hc2
      refine am_bipush (-4) rfl dX10_week_21 ?_
      exact am_iret dX10_week_23 rfl rfl wp
  · have wp := wp.2 hc1
    show am_R E mX10_week 7 [some (.ref 48), some (.int a1), none, none, none, none, none] [.int 0] (hp I J b) 64 64 Q
    refine am_if_ne dX10_week_7 (tgt := 13) rfl (fun hc => absurd hc (by decide)) (fun _ => ?_)
    refine am_bipush (-3) rfl dX10_week_10 ?_
    exact am_iret dX10_week_12 rfl rfl wp
theorem bX10_week_34 {E : Nat × (Nat → Int32)} {I : Nat → Nat → Int32} {J : Nat → Nat → Int64} {b : Bool} {a1 : Int32} {a2 : Int32} {a3 : Int32} {Q : Option Value → am_H → Prop}  (wp : ((a2 ≤ a3 → am_R E mX10_week 73 [some (.ref 48), some (.int a1), some (.int a2), some (.int 1), none, none, none] [] (hp I J b) 64 64 Q) ∧ (¬ a2 ≤ a3 → am_R E mX10_takeDraw 0 [some (.ref 48), some (.int a3), none, none, none, none, none, none] [] (hp I J b) 64 64 (fun r h' => am_R E mX10_week 44 [some (.ref 48), some (.int a1), some (.int a2), some (.int a3), none, none, none] (r.toList ++ []) h' 64 64 Q)))) : am_R E mX10_week 34 [some (.ref 48), some (.int a1), some (.int a2), some (.int a3), none, none, none] [] (hp I J b) 64 64 Q := by
  refine am_iload_n rfl rfl dX10_week_34 ?_
  refine am_iload_n rfl rfl dX10_week_35 ?_
  refine am_icmp_ge dX10_week_36 (tgt := 71) rfl (fun hc1 => ?_) (fun hc1 => ?_)
  · have wp := wp.1 hc1
    refine am_iconst 1 rfl dX10_week_71 ?_
    refine am_istore_n (ls' := [some (.ref 48), some (.int a1), some (.int a2), some (.int 1), none, none, none]) rfl (by decide) rfl rfl dX10_week_72 ?_
    exact am_R.forget wp ⟨rfl, ⟨rfl, ⟨rfl, ⟨rfl, trivial⟩⟩⟩⟩
  · have wp := wp.2 hc1
    refine am_aload_n rfl rfl dX10_week_39 ?_
    refine am_iload_n rfl rfl dX10_week_40 ?_
    refine am_invV (ci := 8) (As := [.int a3]) (lsZ := [some (.ref 48), some (.int a3), none, none, none, none, none, none]) (st := []) dX10_week_41 hX10_takeDraw lkX10_177 ⟨by decide, by decide⟩ (by decide) rfl (by decide) rfl rfl rfl (Nat.le_of_ble_eq_true rfl) rfl (Nat.le_of_ble_eq_true rfl) ⟨Nat.le_refl _, Nat.le_refl _⟩ (am_R.mono wp (fun r h' q => am_R.forget q ⟨rfl, ⟨rfl, ⟨rfl, ⟨rfl, trivial⟩⟩⟩⟩))
theorem bX10_week_44 {E : Nat × (Nat → Int32)} {I : Nat → Nat → Int32} {J : Nat → Nat → Int64} {b : Bool} {a1 : Int32} {a2 : Int32} {a3 : Int32} {Q : Option Value → am_H → Prop}  (wp : am_R E mX10_isLawful 0 [some (.ref 48), none, none] [] (hp I J b) 64 64 (fun r h' => am_R E mX10_week 53 [some (.ref 48), some (.int a1), some (.int a2), some (.int a3), none, none, none] (r.toList ++ [.int a3, .ref 62]) h' 64 64 Q)) : am_R E mX10_week 44 [some (.ref 48), some (.int a1), some (.int a2), some (.int a3), none, none, none] [] (hp I J b) 64 64 Q := by
  refine am_aload_n rfl rfl dX10_week_44 ?_
  refine am_getA (r := 62) dX10_week_45 flX10_57 (Or.inr ⟨_, rfl⟩) rfl (by decide) rfl ?_
  refine am_iload_n rfl rfl dX10_week_48 ?_
  refine am_aload_n rfl rfl dX10_week_49 ?_
  refine am_invV (ci := 8) (As := []) (lsZ := [some (.ref 48), none, none]) (st := [.int a3, .ref 62]) dX10_week_50 hX10_isLawful lkX10_180 ⟨by decide, by decide⟩ (by decide) rfl (by decide) rfl rfl rfl (Nat.le_of_ble_eq_true rfl) rfl (Nat.le_of_ble_eq_true rfl) ⟨Nat.le_refl _, Nat.le_refl _⟩ (am_R.mono wp (fun r h' q => am_R.forget q ⟨rfl, ⟨rfl, ⟨rfl, ⟨rfl, trivial⟩⟩⟩⟩))
theorem bX10_week_53 {E : Nat × (Nat → Int32)} {I : Nat → Nat → Int32} {J : Nat → Nat → Int64} {b : Bool} {a1 : Int32} {a2 : Int32} {a3 : Int32} {x0 : Int32} {x1 : Int32} {Q : Option Value → am_H → Prop}  (wp : ((x0 = 0 → ∃ j2, x1 = nI j2 ∧ j2 < 120 ∧ am_R E mX10_week 34 [some (.ref 48), some (.int a1), some (.int a2), some (.int (a3 + 1)), none, none, none] [] (hp (u2 I 62 j2 (-1)) J b) 64 64 Q) ∧ (¬ x0 = 0 → am_R E mX10_workOf 0 [some (.ref 48), none, none] [] (hp I J b) 64 64 (fun r h' => am_R E mX10_week 60 [some (.ref 48), some (.int a1), some (.int a2), some (.int a3), none, none, none] (r.toList ++ [.int x1, .ref 62]) h' 64 64 Q)))) : am_R E mX10_week 53 [some (.ref 48), some (.int a1), some (.int a2), some (.int a3), none, none, none] [.int x0, .int x1, .ref 62] (hp I J b) 64 64 Q := by
  refine am_if_eq dX10_week_53 (tgt := 63) rfl (fun hc1 => ?_) (fun hc1 => ?_)
  · have wp := wp.1 hc1
    refine am_iconst (-1) rfl dX10_week_63 ?_
    obtain ⟨j2, e2, w2, wp⟩ := wp
    refine am_iastN (j := j2) dX10_week_64 rfl (by decide) e2 w2 (by decide) ?_
    refine am_iinc (ls' := [some (.ref 48), some (.int a1), some (.int a2), some (.int (a3 + 1)), none, none, none]) (by decide) rfl rfl rfl dX10_week_65 ?_
    refine am_goto dX10_week_68 (tgt := 34) rfl ?_
    exact am_R.forget wp ⟨rfl, ⟨rfl, ⟨rfl, ⟨rfl, trivial⟩⟩⟩⟩
  · have wp := wp.2 hc1
    refine am_aload_n rfl rfl dX10_week_56 ?_
    refine am_invV (ci := 8) (As := []) (lsZ := [some (.ref 48), none, none]) (st := [.int x1, .ref 62]) dX10_week_57 hX10_workOf lkX10_227 ⟨by decide, by decide⟩ (by decide) rfl (by decide) rfl rfl rfl (Nat.le_of_ble_eq_true rfl) rfl (Nat.le_of_ble_eq_true rfl) ⟨Nat.le_refl _, Nat.le_refl _⟩ (am_R.mono wp (fun r h' q => am_R.forget q ⟨rfl, ⟨rfl, ⟨rfl, ⟨rfl, trivial⟩⟩⟩⟩))
theorem bX10_week_60 {E : Nat × (Nat → Int32)} {I : Nat → Nat → Int32} {J : Nat → Nat → Int64} {b : Bool} {a1 : Int32} {a2 : Int32} {a3 : Int32} {x0 : Int32} {x1 : Int32} {Q : Option Value → am_H → Prop}  (wp : ∃ j1, x1 = nI j1 ∧ j1 < 120 ∧ am_R E mX10_week 34 [some (.ref 48), some (.int a1), some (.int a2), some (.int (a3 + 1)), none, none, none] [] (hp (u2 I 62 j1 x0) J b) 64 64 Q) : am_R E mX10_week 60 [some (.ref 48), some (.int a1), some (.int a2), some (.int a3), none, none, none] [.int x0, .int x1, .ref 62] (hp I J b) 64 64 Q := by
  refine am_goto dX10_week_60 (tgt := 64) rfl ?_
  obtain ⟨j1, e1, w1, wp⟩ := wp
  refine am_iastN (j := j1) dX10_week_64 rfl (by decide) e1 w1 (by decide) ?_
  refine am_iinc (ls' := [some (.ref 48), some (.int a1), some (.int a2), some (.int (a3 + 1)), none, none, none]) (by decide) rfl rfl rfl dX10_week_65 ?_
  refine am_goto dX10_week_68 (tgt := 34) rfl ?_
  exact am_R.forget wp ⟨rfl, ⟨rfl, ⟨rfl, ⟨rfl, trivial⟩⟩⟩⟩
theorem bX10_week_73 {E : Nat × (Nat → Int32)} {I : Nat → Nat → Int32} {J : Nat → Nat → Int64} {b : Bool} {a1 : Int32} {a2 : Int32} {a3 : Int32} {Q : Option Value → am_H → Prop}  (wp : ((a1 ≤ a3 → am_R E mX10_week 282 [some (.ref 48), none, some (.int a2), some (.int (-1)), some (.int 0), none, none] [] (hp I J b) 64 64 Q) ∧ (¬ a1 ≤ a3 → am_R E mX10_week 81 [some (.ref 48), some (.int a1), some (.int a2), some (.int a3), some (.int 0), none, none] [] (hp I J b) 64 64 Q))) : am_R E mX10_week 73 [some (.ref 48), some (.int a1), some (.int a2), some (.int a3), none, none, none] [] (hp I J b) 64 64 Q := by
  refine am_iload_n rfl rfl dX10_week_73 ?_
  refine am_iload_n rfl rfl dX10_week_74 ?_
  refine am_icmp_ge dX10_week_75 (tgt := 277) rfl (fun hc1 => ?_) (fun hc1 => ?_)
  · have wp := wp.1 hc1
    refine am_iconst (-1) rfl dX10_week_277 ?_
    refine am_istore_n (ls' := [some (.ref 48), some (.int a1), some (.int a2), some (.int (-1)), none, none, none]) rfl (by decide) rfl rfl dX10_week_278 ?_
    refine am_iconst 0 rfl dX10_week_279 ?_
    refine am_istore (ls' := [some (.ref 48), some (.int a1), some (.int a2), some (.int (-1)), some (.int 0), none, none]) (by decide) rfl rfl dX10_week_280 ?_
    exact am_R.forget wp ⟨rfl, ⟨rfl, ⟨rfl, ⟨rfl, trivial⟩⟩⟩⟩
  · have wp := wp.2 hc1
    refine am_iconst 0 rfl dX10_week_78 ?_
    refine am_istore (ls' := [some (.ref 48), some (.int a1), some (.int a2), some (.int a3), some (.int 0), none, none]) (by decide) rfl rfl dX10_week_79 ?_
    exact am_R.forget wp ⟨rfl, ⟨rfl, ⟨rfl, ⟨rfl, ⟨rfl, trivial⟩⟩⟩⟩⟩
theorem bX10_week_81 {E : Nat × (Nat → Int32)} {I : Nat → Nat → Int32} {J : Nat → Nat → Int64} {b : Bool} {a1 : Int32} {a2 : Int32} {a3 : Int32} {a4 : Int32} {Q : Option Value → am_H → Prop}  (wp : ((a2 ≤ a4 → am_R E mX10_week 104 [some (.ref 48), some (.int a1), some (.int a2), some (.int a3), some (.int 0), none, none] [] (hp I J b) 64 64 Q) ∧ (¬ a2 ≤ a4 → ∃ j2, a4 = nI j2 ∧ j2 < 120 ∧ am_R E mX10_week 81 [some (.ref 48), some (.int a1), some (.int a2), some (.int a3), some (.int (a4 + 1)), none, none] [] (hp (u2 I 63 j2 (-1)) J b) 64 64 Q))) : am_R E mX10_week 81 [some (.ref 48), some (.int a1), some (.int a2), some (.int a3), some (.int a4), none, none] [] (hp I J b) 64 64 Q := by
  refine am_iload rfl dX10_week_81 ?_
  refine am_iload_n rfl rfl dX10_week_83 ?_
  refine am_icmp_ge dX10_week_84 (tgt := 101) rfl (fun hc1 => ?_) (fun hc1 => ?_)
  · have wp := wp.1 hc1
    refine am_iconst 0 rfl dX10_week_101 ?_
    refine am_istore (ls' := [some (.ref 48), some (.int a1), some (.int a2), some (.int a3), some (.int 0), none, none]) (by decide) rfl rfl dX10_week_102 ?_
    exact am_R.forget wp ⟨rfl, ⟨rfl, ⟨rfl, ⟨rfl, ⟨rfl, trivial⟩⟩⟩⟩⟩
  · have wp := wp.2 hc1
    refine am_aload_n rfl rfl dX10_week_87 ?_
    refine am_getA (r := 63) dX10_week_88 flX10_60 (Or.inr ⟨_, rfl⟩) rfl (by decide) rfl ?_
    refine am_iload rfl dX10_week_91 ?_
    refine am_iconst (-1) rfl dX10_week_93 ?_
    obtain ⟨j2, e2, w2, wp⟩ := wp
    refine am_iastN (j := j2) dX10_week_94 rfl (by decide) e2 w2 (by decide) ?_
    refine am_iinc (ls' := [some (.ref 48), some (.int a1), some (.int a2), some (.int a3), some (.int (a4 + 1)), none, none]) (by decide) rfl rfl rfl dX10_week_95 ?_
    refine am_goto dX10_week_98 (tgt := 81) rfl ?_
    exact am_R.forget wp ⟨rfl, ⟨rfl, ⟨rfl, ⟨rfl, ⟨rfl, trivial⟩⟩⟩⟩⟩
theorem bX10_week_104 {E : Nat × (Nat → Int32)} {I : Nat → Nat → Int32} {J : Nat → Nat → Int64} {b : Bool} {a1 : Int32} {a2 : Int32} {a3 : Int32} {a4 : Int32} {Q : Option Value → am_H → Prop}  (wp : ((a2 ≤ a4 → am_R E mX10_week 245 [some (.ref 48), some (.int a1), some (.int a2), some (.int a3), some (.int 0), none, none] [] (hp I J b) 64 64 Q) ∧ (¬ a2 ≤ a4 → ∃ j2, a4 = nI j2 ∧ j2 < 120 ∧ (((I 62 j2) = (-1) → am_R E mX10_week 104 [some (.ref 48), some (.int a1), some (.int a2), some (.int a3), some (.int (a4 + 1)), none, none] [] (hp I J b) 64 64 Q) ∧ (¬ (I 62 j2) = (-1) → am_R E mX10_takeDraw 0 [some (.ref 48), some (.int a4), none, none, none, none, none, none] [] (hp I J b) 64 64 (fun r h' => am_R E mX10_week 127 [some (.ref 48), some (.int a1), some (.int a2), some (.int a3), some (.int a4), none, none] (r.toList ++ []) h' 64 64 Q)))))) : am_R E mX10_week 104 [some (.ref 48), some (.int a1), some (.int a2), some (.int a3), some (.int a4), none, none] [] (hp I J b) 64 64 Q := by
  refine am_iload rfl dX10_week_104 ?_
  refine am_iload_n rfl rfl dX10_week_106 ?_
  refine am_icmp_ge dX10_week_107 (tgt := 242) rfl (fun hc1 => ?_) (fun hc1 => ?_)
  · have wp := wp.1 hc1
    refine am_iconst 0 rfl dX10_week_242 ?_
    refine am_istore (ls' := [some (.ref 48), some (.int a1), some (.int a2), some (.int a3), some (.int 0), none, none]) (by decide) rfl rfl dX10_week_243 ?_
    exact am_R.forget wp ⟨rfl, ⟨rfl, ⟨rfl, ⟨rfl, ⟨rfl, trivial⟩⟩⟩⟩⟩
  · have wp := wp.2 hc1
    refine am_aload_n rfl rfl dX10_week_110 ?_
    refine am_getA (r := 62) dX10_week_111 flX10_57 (Or.inr ⟨_, rfl⟩) rfl (by decide) rfl ?_
    refine am_iload rfl dX10_week_114 ?_
    obtain ⟨j2, e2, w2, wp⟩ := wp
    refine am_ialdN (j := j2) dX10_week_116 rfl (by decide) e2 w2 (by decide) ?_
    refine am_iconst (-1) rfl dX10_week_117 ?_
    refine am_icmp_eq dX10_week_118 (tgt := 236) rfl (fun hc3 => ?_) (fun hc3 => ?_)
    · have wp := wp.1 hc3
      refine am_iinc (ls' := [some (.ref 48), some (.int a1), some (.int a2), some (.int a3), some (.int (a4 + 1)), none, none]) (by decide) rfl rfl rfl dX10_week_236 ?_
      refine am_goto dX10_week_239 (tgt := 104) rfl ?_
      exact am_R.forget wp ⟨rfl, ⟨rfl, ⟨rfl, ⟨rfl, ⟨rfl, trivial⟩⟩⟩⟩⟩
    · have wp := wp.2 hc3
      refine am_aload_n rfl rfl dX10_week_121 ?_
      refine am_iload rfl dX10_week_122 ?_
      refine am_invV (ci := 8) (As := [.int a4]) (lsZ := [some (.ref 48), some (.int a4), none, none, none, none, none, none]) (st := []) dX10_week_124 hX10_takeDraw lkX10_177 ⟨by decide, by decide⟩ (by decide) rfl (by decide) rfl rfl rfl (Nat.le_of_ble_eq_true rfl) rfl (Nat.le_of_ble_eq_true rfl) ⟨Nat.le_refl _, Nat.le_refl _⟩ (am_R.mono wp (fun r h' q => am_R.forget q ⟨rfl, ⟨rfl, ⟨rfl, ⟨rfl, ⟨rfl, trivial⟩⟩⟩⟩⟩))
theorem bX10_week_127 {E : Nat × (Nat → Int32)} {I : Nat → Nat → Int32} {J : Nat → Nat → Int64} {b : Bool} {a1 : Int32} {a2 : Int32} {a3 : Int32} {a4 : Int32} {Q : Option Value → am_H → Prop}  (wp : am_R E mX10_week 130 [some (.ref 48), some (.int a1), some (.int a2), some (.int a3), some (.int a4), some (.int 0), none] [] (hp I J b) 64 64 Q) : am_R E mX10_week 127 [some (.ref 48), some (.int a1), some (.int a2), some (.int a3), some (.int a4), none, none] [] (hp I J b) 64 64 Q := by
  refine am_iconst 0 rfl dX10_week_127 ?_
  refine am_istore (ls' := [some (.ref 48), some (.int a1), some (.int a2), some (.int a3), some (.int a4), some (.int 0), none]) (by decide) rfl rfl dX10_week_128 ?_
  exact am_R.forget wp ⟨rfl, ⟨rfl, ⟨rfl, ⟨rfl, ⟨rfl, ⟨rfl, trivial⟩⟩⟩⟩⟩⟩
theorem bX10_week_130 {E : Nat × (Nat → Int32)} {I : Nat → Nat → Int32} {J : Nat → Nat → Int64} {b : Bool} {a1 : Int32} {a2 : Int32} {a3 : Int32} {a4 : Int32} {a5 : Int32} {Q : Option Value → am_H → Prop}  (wp : (((I 48 0) ≤ a5 → am_R E mX10_week 162 [some (.ref 48), some (.int a1), some (.int a2), some (.int a3), some (.int a4), some (.int 0), none] [] (hp I J b) 64 64 Q) ∧ (¬ (I 48 0) ≤ a5 → ∃ j2, a5 = nI j2 ∧ j2 < 7 ∧ am_R E mX10_week 130 [some (.ref 48), some (.int a1), some (.int a2), some (.int a3), some (.int a4), some (.int (a5 + 1)), none] [] (hp (u2 I 59 j2 (I 58 j2)) J b) 64 64 Q))) : am_R E mX10_week 130 [some (.ref 48), some (.int a1), some (.int a2), some (.int a3), some (.int a4), some (.int a5), none] [] (hp I J b) 64 64 Q := by
  refine am_iload rfl dX10_week_130 ?_
  refine am_aload_n rfl rfl dX10_week_132 ?_
  refine am_getI dX10_week_133 flX10_7 (Or.inl rfl) rfl (by decide) ?_
  refine am_icmp_ge dX10_week_136 (tgt := 159) rfl (fun hc1 => ?_) (fun hc1 => ?_)
  · have wp := wp.1 hc1
    refine am_iconst 0 rfl dX10_week_159 ?_
    refine am_istore (ls' := [some (.ref 48), some (.int a1), some (.int a2), some (.int a3), some (.int a4), some (.int 0), none]) (by decide) rfl rfl dX10_week_160 ?_
    exact am_R.forget wp ⟨rfl, ⟨rfl, ⟨rfl, ⟨rfl, ⟨rfl, ⟨rfl, trivial⟩⟩⟩⟩⟩⟩
  · have wp := wp.2 hc1
    refine am_aload_n rfl rfl dX10_week_139 ?_
    refine am_getA (r := 59) dX10_week_140 flX10_48 (Or.inr ⟨_, rfl⟩) rfl (by decide) rfl ?_
    refine am_iload rfl dX10_week_143 ?_
    refine am_aload_n rfl rfl dX10_week_145 ?_
    refine am_getA (r := 58) dX10_week_146 flX10_45 (Or.inr ⟨_, rfl⟩) rfl (by decide) rfl ?_
    refine am_iload rfl dX10_week_149 ?_
    obtain ⟨j2, e2, w2, wp⟩ := wp
    refine am_ialdN (j := j2) dX10_week_151 rfl (by decide) e2 w2 (by decide) ?_
    refine am_iastN (j := j2) dX10_week_152 rfl (by decide) e2 w2 (by decide) ?_
    refine am_iinc (ls' := [some (.ref 48), some (.int a1), some (.int a2), some (.int a3), some (.int a4), some (.int (a5 + 1)), none]) (by decide) rfl rfl rfl dX10_week_153 ?_
    refine am_goto dX10_week_156 (tgt := 130) rfl ?_
    exact am_R.forget wp ⟨rfl, ⟨rfl, ⟨rfl, ⟨rfl, ⟨rfl, ⟨rfl, trivial⟩⟩⟩⟩⟩⟩
theorem bX10_week_162 {E : Nat × (Nat → Int32)} {I : Nat → Nat → Int32} {J : Nat → Nat → Int64} {b : Bool} {a1 : Int32} {a2 : Int32} {a3 : Int32} {a4 : Int32} {a5 : Int32} {Q : Option Value → am_H → Prop}  (wp : ((a2 ≤ a5 → am_R E mX10_week 104 [some (.ref 48), some (.int a1), some (.int a2), some (.int a3), some (.int (a4 + 1)), none, none] [] (hp I J b) 64 64 Q) ∧ (¬ a2 ≤ a5 → am_R E mX10_takeDraw 0 [some (.ref 48), some (.int a5), none, none, none, none, none, none] [] (hp I J b) 64 64 (fun r h' => am_R E mX10_week 174 [some (.ref 48), some (.int a1), some (.int a2), some (.int a3), some (.int a4), some (.int a5), none] (r.toList ++ []) h' 64 64 Q)))) : am_R E mX10_week 162 [some (.ref 48), some (.int a1), some (.int a2), some (.int a3), some (.int a4), some (.int a5), none] [] (hp I J b) 64 64 Q := by
  refine am_iload rfl dX10_week_162 ?_
  refine am_iload_n rfl rfl dX10_week_164 ?_
  refine am_icmp_ge dX10_week_165 (tgt := 236) rfl (fun hc1 => ?_) (fun hc1 => ?_)
  · have wp := wp.1 hc1
    refine am_iinc (ls' := [some (.ref 48), some (.int a1), some (.int a2), some (.int a3), some (.int (a4 + 1)), some (.int a5), none]) (by decide) rfl rfl rfl dX10_week_236 ?_
    refine am_goto dX10_week_239 (tgt := 104) rfl ?_
    exact am_R.forget wp ⟨rfl, ⟨rfl, ⟨rfl, ⟨rfl, ⟨rfl, trivial⟩⟩⟩⟩⟩
  · have wp := wp.2 hc1
    refine am_aload_n rfl rfl dX10_week_168 ?_
    refine am_iload rfl dX10_week_169 ?_
    refine am_invV (ci := 8) (As := [.int a5]) (lsZ := [some (.ref 48), some (.int a5), none, none, none, none, none, none]) (st := []) dX10_week_171 hX10_takeDraw lkX10_177 ⟨by decide, by decide⟩ (by decide) rfl (by decide) rfl rfl rfl (Nat.le_of_ble_eq_true rfl) rfl (Nat.le_of_ble_eq_true rfl) ⟨Nat.le_refl _, Nat.le_refl _⟩ (am_R.mono wp (fun r h' q => am_R.forget q ⟨rfl, ⟨rfl, ⟨rfl, ⟨rfl, ⟨rfl, ⟨rfl, trivial⟩⟩⟩⟩⟩⟩))
theorem bX10_week_174 {E : Nat × (Nat → Int32)} {I : Nat → Nat → Int32} {J : Nat → Nat → Int64} {b : Bool} {a1 : Int32} {a2 : Int32} {a3 : Int32} {a4 : Int32} {a5 : Int32} {Q : Option Value → am_H → Prop}  (wp : am_R E mX10_isLawfulBehind 0 [some (.ref 48), none, none] [] (hp I J b) 64 64 (fun r h' => am_R E mX10_week 178 [some (.ref 48), some (.int a1), some (.int a2), some (.int a3), some (.int a4), some (.int a5), none] (r.toList ++ []) h' 64 64 Q)) : am_R E mX10_week 174 [some (.ref 48), some (.int a1), some (.int a2), some (.int a3), some (.int a4), some (.int a5), none] [] (hp I J b) 64 64 Q := by
  refine am_aload_n rfl rfl dX10_week_174 ?_
  refine am_invV (ci := 8) (As := []) (lsZ := [some (.ref 48), none, none]) (st := []) dX10_week_175 hX10_isLawfulBehind lkX10_236 ⟨by decide, by decide⟩ (by decide) rfl (by decide) rfl rfl rfl (Nat.le_of_ble_eq_true rfl) rfl (Nat.le_of_ble_eq_true rfl) ⟨Nat.le_refl _, Nat.le_refl _⟩ (am_R.mono wp (fun r h' q => am_R.forget q ⟨rfl, ⟨rfl, ⟨rfl, ⟨rfl, ⟨rfl, ⟨rfl, trivial⟩⟩⟩⟩⟩⟩))
theorem bX10_week_178 {E : Nat × (Nat → Int32)} {I : Nat → Nat → Int32} {J : Nat → Nat → Int64} {b : Bool} {a1 : Int32} {a2 : Int32} {a3 : Int32} {a4 : Int32} {a5 : Int32} {x0 : Int32} {Q : Option Value → am_H → Prop}  (wp : ((x0 = 0 → ∃ j2, a5 = nI j2 ∧ j2 < 120 ∧ (((-1) ≤ (I 63 j2) → am_R E mX10_week 162 [some (.ref 48), some (.int a1), some (.int a2), some (.int a3), some (.int a4), some (.int (a5 + 1)), none] [] (hp (u2 I 63 j2 (I 63 j2)) J b) 64 64 Q) ∧ (¬ (-1) ≤ (I 63 j2) → am_R E mX10_week 162 [some (.ref 48), some (.int a1), some (.int a2), some (.int a3), some (.int a4), some (.int (a5 + 1)), none] [] (hp (u2 I 63 j2 (-1)) J b) 64 64 Q))) ∧ (¬ x0 = 0 → ∃ j4, a4 = nI j4 ∧ j4 < 120 ∧ am_R E mX10_workOf 0 [some (.ref 48), none, none] [] (hp I J b) 64 64 (fun r h' => am_R E mX10_week 192 [some (.ref 48), some (.int a1), some (.int a2), some (.int a3), some (.int a4), some (.int a5), none] (r.toList ++ [.int (I 62 j4)]) h' 64 64 Q)))) : am_R E mX10_week 178 [some (.ref 48), some (.int a1), some (.int a2), some (.int a3), some (.int a4), some (.int a5), none] [.int x0] (hp I J b) 64 64 Q := by
  refine am_if_eq dX10_week_178 (tgt := 196) rfl (fun hc1 => ?_) (fun hc1 => ?_)
  · have wp := wp.1 hc1
    refine am_iconst (-1) rfl dX10_week_196 ?_
    refine am_istore (ls' := [some (.ref 48), some (.int a1), some (.int a2), some (.int a3), some (.int a4), some (.int a5), some (.int (-1))]) (by decide) rfl rfl dX10_week_197 ?_
    refine am_aload_n rfl rfl dX10_week_199 ?_
    refine am_getA (r := 63) dX10_week_200 flX10_60 (Or.inr ⟨_, rfl⟩) rfl (by decide) rfl ?_
    refine am_iload rfl dX10_week_203 ?_
    refine am_iload rfl dX10_week_205 ?_
    refine am_aload_n rfl rfl dX10_week_207 ?_
    refine am_getA (r := 63) dX10_week_208 flX10_60 (Or.inr ⟨_, rfl⟩) rfl (by decide) rfl ?_
    refine am_iload rfl dX10_week_211 ?_
    obtain ⟨j2, e2, w2, wp⟩ := wp
    refine am_ialdN (j := j2) dX10_week_213 rfl (by decide) e2 w2 (by decide) ?_
    refine am_icmp_le dX10_week_214 (tgt := 222) rfl (fun hc3 => ?_) (fun hc3 => ?_)
    · have wp := wp.1 hc3
      refine am_aload_n rfl rfl dX10_week_222 ?_
      refine am_getA (r := 63) dX10_week_223 flX10_60 (Or.inr ⟨_, rfl⟩) rfl (by decide) rfl ?_
      refine am_iload rfl dX10_week_226 ?_
      refine am_ialdN (j := j2) dX10_week_228 rfl (by decide) e2 w2 (by decide) ?_
      refine am_iastN (j := j2) dX10_week_229 rfl (by decide) e2 w2 (by decide) ?_
      refine am_iinc (ls' := [some (.ref 48), some (.int a1), some (.int a2), some (.int a3), some (.int a4), some (.int (a5 + 1)), some (.int (-1))]) (by decide) rfl rfl rfl dX10_week_230 ?_
      refine am_goto dX10_week_233 (tgt := 162) rfl ?_
      exact am_R.forget wp ⟨rfl, ⟨rfl, ⟨rfl, ⟨rfl, ⟨rfl, ⟨rfl, trivial⟩⟩⟩⟩⟩⟩
    · have wp := wp.2 hc3
      refine am_iload rfl dX10_week_217 ?_
      refine am_goto dX10_week_219 (tgt := 229) rfl ?_
      refine am_iastN (j := j2) dX10_week_229 rfl (by decide) e2 w2 (by decide) ?_
      refine am_iinc (ls' := [some (.ref 48), some (.int a1), some (.int a2), some (.int a3), some (.int a4), some (.int (a5 + 1)), some (.int (-1))]) (by decide) rfl rfl rfl dX10_week_230 ?_
      refine am_goto dX10_week_233 (tgt := 162) rfl ?_
      exact am_R.forget wp ⟨rfl, ⟨rfl, ⟨rfl, ⟨rfl, ⟨rfl, ⟨rfl, trivial⟩⟩⟩⟩⟩⟩
  · have wp := wp.2 hc1
    refine am_aload_n rfl rfl dX10_week_181 ?_
    refine am_getA (r := 62) dX10_week_182 flX10_57 (Or.inr ⟨_, rfl⟩) rfl (by decide) rfl ?_
    refine am_iload rfl dX10_week_185 ?_
    obtain ⟨j4, e4, w4, wp⟩ := wp
    refine am_ialdN (j := j4) dX10_week_187 rfl (by decide) e4 w4 (by decide) ?_
    refine am_aload_n rfl rfl dX10_week_188 ?_
    refine am_invV (ci := 8) (As := []) (lsZ := [some (.ref 48), none, none]) (st := [.int (I 62 j4)]) dX10_week_189 hX10_workOf lkX10_227 ⟨by decide, by decide⟩ (by decide) rfl (by decide) rfl rfl rfl (Nat.le_of_ble_eq_true rfl) rfl (Nat.le_of_ble_eq_true rfl) ⟨Nat.le_refl _, Nat.le_refl _⟩ (am_R.mono wp (fun r h' q => am_R.forget q ⟨rfl, ⟨rfl, ⟨rfl, ⟨rfl, ⟨rfl, ⟨rfl, trivial⟩⟩⟩⟩⟩⟩))
theorem bX10_week_192 {E : Nat × (Nat → Int32)} {I : Nat → Nat → Int32} {J : Nat → Nat → Int64} {b : Bool} {a1 : Int32} {a2 : Int32} {a3 : Int32} {a4 : Int32} {a5 : Int32} {x0 : Int32} {x1 : Int32} {Q : Option Value → am_H → Prop}  (wp : ∃ j1, a5 = nI j1 ∧ j1 < 120 ∧ (((x1 + x0) ≤ (I 63 j1) → am_R E mX10_week 162 [some (.ref 48), some (.int a1), some (.int a2), some (.int a3), some (.int a4), some (.int (a5 + 1)), none] [] (hp (u2 I 63 j1 (I 63 j1)) J b) 64 64 Q) ∧ (¬ (x1 + x0) ≤ (I 63 j1) → am_R E mX10_week 162 [some (.ref 48), some (.int a1), some (.int a2), some (.int a3), some (.int a4), some (.int (a5 + 1)), none] [] (hp (u2 I 63 j1 (x1 + x0)) J b) 64 64 Q))) : am_R E mX10_week 192 [some (.ref 48), some (.int a1), some (.int a2), some (.int a3), some (.int a4), some (.int a5), none] [.int x0, .int x1] (hp I J b) 64 64 Q := by
  refine am_iadd dX10_week_192 ?_
  refine am_goto dX10_week_193 (tgt := 197) rfl ?_
  refine am_istore (ls' := [some (.ref 48), some (.int a1), some (.int a2), some (.int a3), some (.int a4), some (.int a5), some (.int (x1 + x0))]) (by decide) rfl rfl dX10_week_197 ?_
  refine am_aload_n rfl rfl dX10_week_199 ?_
  refine am_getA (r := 63) dX10_week_200 flX10_60 (Or.inr ⟨_, rfl⟩) rfl (by decide) rfl ?_
  refine am_iload rfl dX10_week_203 ?_
  refine am_iload rfl dX10_week_205 ?_
  refine am_aload_n rfl rfl dX10_week_207 ?_
  refine am_getA (r := 63) dX10_week_208 flX10_60 (Or.inr ⟨_, rfl⟩) rfl (by decide) rfl ?_
  refine am_iload rfl dX10_week_211 ?_
  obtain ⟨j1, e1, w1, wp⟩ := wp
  refine am_ialdN (j := j1) dX10_week_213 rfl (by decide) e1 w1 (by decide) ?_
  refine am_icmp_le dX10_week_214 (tgt := 222) rfl (fun hc2 => ?_) (fun hc2 => ?_)
  · have wp := wp.1 hc2
    refine am_aload_n rfl rfl dX10_week_222 ?_
    refine am_getA (r := 63) dX10_week_223 flX10_60 (Or.inr ⟨_, rfl⟩) rfl (by decide) rfl ?_
    refine am_iload rfl dX10_week_226 ?_
    refine am_ialdN (j := j1) dX10_week_228 rfl (by decide) e1 w1 (by decide) ?_
    refine am_iastN (j := j1) dX10_week_229 rfl (by decide) e1 w1 (by decide) ?_
    refine am_iinc (ls' := [some (.ref 48), some (.int a1), some (.int a2), some (.int a3), some (.int a4), some (.int (a5 + 1)), some (.int (x1 + x0))]) (by decide) rfl rfl rfl dX10_week_230 ?_
    refine am_goto dX10_week_233 (tgt := 162) rfl ?_
    exact am_R.forget wp ⟨rfl, ⟨rfl, ⟨rfl, ⟨rfl, ⟨rfl, ⟨rfl, trivial⟩⟩⟩⟩⟩⟩
  · have wp := wp.2 hc2
    refine am_iload rfl dX10_week_217 ?_
    refine am_goto dX10_week_219 (tgt := 229) rfl ?_
    refine am_iastN (j := j1) dX10_week_229 rfl (by decide) e1 w1 (by decide) ?_
    refine am_iinc (ls' := [some (.ref 48), some (.int a1), some (.int a2), some (.int a3), some (.int a4), some (.int (a5 + 1)), some (.int (x1 + x0))]) (by decide) rfl rfl rfl dX10_week_230 ?_
    refine am_goto dX10_week_233 (tgt := 162) rfl ?_
    exact am_R.forget wp ⟨rfl, ⟨rfl, ⟨rfl, ⟨rfl, ⟨rfl, ⟨rfl, trivial⟩⟩⟩⟩⟩⟩
theorem bX10_week_245 {E : Nat × (Nat → Int32)} {I : Nat → Nat → Int32} {J : Nat → Nat → Int64} {b : Bool} {a1 : Int32} {a2 : Int32} {a3 : Int32} {a4 : Int32} {Q : Option Value → am_H → Prop}  (wp : ((a2 ≤ a4 → am_R E mX10_week 73 [some (.ref 48), some (.int a1), some (.int a2), some (.int (a3 + 1)), none, none, none] [] (hp I J b) 64 64 Q) ∧ (¬ a2 ≤ a4 → ∃ j2, a4 = nI j2 ∧ j2 < 120 ∧ am_R E mX10_week 245 [some (.ref 48), some (.int a1), some (.int a2), some (.int a3), some (.int (a4 + 1)), none, none] [] (hp (u2 I 62 j2 (I 63 j2)) J b) 64 64 Q))) : am_R E mX10_week 245 [some (.ref 48), some (.int a1), some (.int a2), some (.int a3), some (.int a4), none, none] [] (hp I J b) 64 64 Q := by
  refine am_iload rfl dX10_week_245 ?_
  refine am_iload_n rfl rfl dX10_week_247 ?_
  refine am_icmp_ge dX10_week_248 (tgt := 271) rfl (fun hc1 => ?_) (fun hc1 => ?_)
  · have wp := wp.1 hc1
    refine am_iinc (ls' := [some (.ref 48), some (.int a1), some (.int a2), some (.int (a3 + 1)), some (.int a4), none, none]) (by decide) rfl rfl rfl dX10_week_271 ?_
    refine am_goto dX10_week_274 (tgt := 73) rfl ?_
    exact am_R.forget wp ⟨rfl, ⟨rfl, ⟨rfl, ⟨rfl, trivial⟩⟩⟩⟩
  · have wp := wp.2 hc1
    refine am_aload_n rfl rfl dX10_week_251 ?_
    refine am_getA (r := 62) dX10_week_252 flX10_57 (Or.inr ⟨_, rfl⟩) rfl (by decide) rfl ?_
    refine am_iload rfl dX10_week_255 ?_
    refine am_aload_n rfl rfl dX10_week_257 ?_
    refine am_getA (r := 63) dX10_week_258 flX10_60 (Or.inr ⟨_, rfl⟩) rfl (by decide) rfl ?_
    refine am_iload rfl dX10_week_261 ?_
    obtain ⟨j2, e2, w2, wp⟩ := wp
    refine am_ialdN (j := j2) dX10_week_263 rfl (by decide) e2 w2 (by decide) ?_
    refine am_iastN (j := j2) dX10_week_264 rfl (by decide) e2 w2 (by decide) ?_
    refine am_iinc (ls' := [some (.ref 48), some (.int a1), some (.int a2), some (.int a3), some (.int (a4 + 1)), none, none]) (by decide) rfl rfl rfl dX10_week_265 ?_
    refine am_goto dX10_week_268 (tgt := 245) rfl ?_
    exact am_R.forget wp ⟨rfl, ⟨rfl, ⟨rfl, ⟨rfl, ⟨rfl, trivial⟩⟩⟩⟩⟩
theorem bX10_week_282 {E : Nat × (Nat → Int32)} {I : Nat → Nat → Int32} {J : Nat → Nat → Int64} {b : Bool} {a2 : Int32} {a3 : Int32} {a4 : Int32} {Q : Option Value → am_H → Prop}  (wp : ((a2 ≤ a4 → Q (some (.int a3)) (hp I J b)) ∧ (¬ a2 ≤ a4 → ∃ j2, a4 = nI j2 ∧ j2 < 120 ∧ (((I 62 j2) ≤ a3 → am_R E mX10_week 282 [some (.ref 48), none, some (.int a2), some (.int a3), some (.int (a4 + 1)), none, none] [] (hp I J b) 64 64 Q) ∧ (¬ (I 62 j2) ≤ a3 → am_R E mX10_week 282 [some (.ref 48), none, some (.int a2), some (.int (I 62 j2)), some (.int (a4 + 1)), none, none] [] (hp I J b) 64 64 Q))))) : am_R E mX10_week 282 [some (.ref 48), none, some (.int a2), some (.int a3), some (.int a4), none, none] [] (hp I J b) 64 64 Q := by
  refine am_iload rfl dX10_week_282 ?_
  refine am_iload_n rfl rfl dX10_week_284 ?_
  refine am_icmp_ge dX10_week_285 (tgt := 317) rfl (fun hc1 => ?_) (fun hc1 => ?_)
  · have wp := wp.1 hc1
    refine am_iload_n rfl rfl dX10_week_317 ?_
    exact am_iret dX10_week_318 rfl rfl wp
  · have wp := wp.2 hc1
    refine am_aload_n rfl rfl dX10_week_288 ?_
    refine am_getA (r := 62) dX10_week_289 flX10_57 (Or.inr ⟨_, rfl⟩) rfl (by decide) rfl ?_
    refine am_iload rfl dX10_week_292 ?_
    obtain ⟨j2, e2, w2, wp⟩ := wp
    refine am_ialdN (j := j2) dX10_week_294 rfl (by decide) e2 w2 (by decide) ?_
    refine am_iload_n rfl rfl dX10_week_295 ?_
    refine am_icmp_le dX10_week_296 (tgt := 309) rfl (fun hc3 => ?_) (fun hc3 => ?_)
    · have wp := wp.1 hc3
      refine am_iload_n rfl rfl dX10_week_309 ?_
      refine am_istore_n (ls' := [some (.ref 48), none, some (.int a2), some (.int a3), some (.int a4), none, none]) rfl (by decide) rfl rfl dX10_week_310 ?_
      refine am_iinc (ls' := [some (.ref 48), none, some (.int a2), some (.int a3), some (.int (a4 + 1)), none, none]) (by decide) rfl rfl rfl dX10_week_311 ?_
      refine am_goto dX10_week_314 (tgt := 282) rfl ?_
      exact am_R.forget wp ⟨rfl, ⟨rfl, ⟨rfl, ⟨rfl, trivial⟩⟩⟩⟩
    · have wp := wp.2 hc3
      refine am_aload_n rfl rfl dX10_week_299 ?_
      refine am_getA (r := 62) dX10_week_300 flX10_57 (Or.inr ⟨_, rfl⟩) rfl (by decide) rfl ?_
      refine am_iload rfl dX10_week_303 ?_
      refine am_ialdN (j := j2) dX10_week_305 rfl (by decide) e2 w2 (by decide) ?_
      refine am_goto dX10_week_306 (tgt := 310) rfl ?_
      refine am_istore_n (ls' := [some (.ref 48), none, some (.int a2), some (.int (I 62 j2)), some (.int a4), none, none]) rfl (by decide) rfl rfl dX10_week_310 ?_
      refine am_iinc (ls' := [some (.ref 48), none, some (.int a2), some (.int (I 62 j2)), some (.int (a4 + 1)), none, none]) (by decide) rfl rfl rfl dX10_week_311 ?_
      refine am_goto dX10_week_314 (tgt := 282) rfl ?_
      exact am_R.forget wp ⟨rfl, ⟨rfl, ⟨rfl, ⟨rfl, trivial⟩⟩⟩⟩
theorem tX10_week34 {a1 : Int32} {w : Nat} (hN : Nn I n) (hY : Yw I n) (hk : ∀ j, j < 49 → ∃ v, v ≤ 9 ∧ I 49 j = nI v) (n5 : n ≤ 5) (ew : a1 = nI w) (h1 : 1 ≤ w) (hw7 : w ≤ 7) (k : ∀ I2, Ag qS I I2 → Q (some (.int (oI (mxx (be I n (w - 1)) (fct n))))) (hp I2 J b)) : am_R E mX10_week 34 [some (.ref 48), some (.int a1), some (.int (nI (fct n))), some (.int 0), none, none, none] [] (hp I J b) 64 64 Q := by
  subst ew
  have n7 : n ≤ 7 := hN.2.2
  have hfl := f5 n (by omega)
  have hw63 : ∀ c, c < fct n → wn I n c ≤ 63 := fun c hc => (wn_ok (I := I) n7 hk hc).2
  have hbd := be_bd (I := I) (n := n) hw63
  -- the greatest of all
  have last : ∀ (I1 : Nat → Nat → Int32), Ag qS I I1 → (∀ c, c < fct n → I1 62 c = oI (be I n (w - 1) c)) → am_R E mX10_week 282 [some (.ref 48), none, some (.int (nI (fct n))), some (.int (-1)), some (.int 0), none, none] [] (hp I1 J b) 64 64 Q := by
    intro I1 hA hB
    refine lp_up (n := fct n) (P := fun j => am_R E mX10_week 282 [some (.ref 48), none, some (.int (nI (fct n))), some (.int (oI (mxx (be I n (w - 1)) j))), some (.int (nI j)), none, none] [] (hp I1 J b) 64 64 Q) ?_ ?_
    · exact bX10_week_282 (le_br rfl rfl (by omega) (by omega) (fun _ => k I1 hA) (fun h => by omega))
    · intro j hj ih
      have hlt := oI_lt (a := mxx (be I n (w - 1)) j) (e := be I n (w - 1) j) (fun v hv => by have := mxx_bd (hbd (w - 1)) j (by omega) v hv; omega) (fun v hv => by have := hbd (w - 1) j v hj hv; omega)
      refine bX10_week_282 (le_br rfl rfl (by omega) (by omega) (fun h => by omega) (fun _ => ⟨j, rfl, by omega, ?_⟩))
      rw [hB j hj, n1]
      rw [mxx] at ih
      refine ⟨fun q => ?_, fun q => ?_⟩
      · rw [if_neg (fun z => Int32.not_le.mpr (hlt.mpr z) q)] at ih; exact ih
      · rw [if_pos (hlt.mp (nle q))] at ih; exact ih
  have days : ∀ j d, d + j = w → 1 ≤ d → ∀ (I1 : Nat → Nat → Int32), Ag qS I I1 → (∀ c, c < fct n → I1 62 c = oI (be I n (d - 1) c)) → am_R E mX10_week 73 [some (.ref 48), some (.int (nI w)), some (.int (nI (fct n))), some (.int (nI d)), none, none, none] [] (hp I1 J b) 64 64 Q := by
    intro j
    induction j with
    | zero =>
      intro d hd h1d I1 hA hB
      have e : d = w := by omega
      subst e
      exact bX10_week_73 (le_br rfl rfl (by omega) (by omega) (fun _ => last I1 hA hB) (fun h => by omega))
    | succ j ih =>
      intro d hd h1d I1 hA hB
      have hB0 := hbd (d - 1)
      have hBD : ∀ c v, c < fct n → be I n (d - 1) c = some v → v < 2 ^ 31 := fun c v hc hv => by have := hB0 c v hc hv; omega
      have hNB : ∀ k, k ≤ fct n → ∀ c v, c < fct n → nxB I n (be I n (d - 1)) k c = some v → v < 2 ^ 31 := fun k hk c v hc hv => by
        have := nxB_bd (I := I) (n := n) hw63 hB0 k hk c v hc hv
        omega
      have nx0 : ∀ c, nxB I n (be I n (d - 1)) 0 c = none := fun c => by
        unfold nxB
        split <;> rfl
      -- the copy
      have copy : ∀ (I1 : Nat → Nat → Int32), Ag qS I I1 → (∀ c, c < fct n → I1 63 c = oI (nxB I n (be I n (d - 1)) (fct n) c)) → am_R E mX10_week 245 [some (.ref 48), some (.int (nI w)), some (.int (nI (fct n))), some (.int (nI d)), some (.int 0), none, none] [] (hp I1 J b) 64 64 Q := by
        intro I1 hA hB
        have key : ∀ r c, c + r = fct n → ∀ g : Nat → Int32, (∀ c', c' < c → g c' = oI (nxB I n (be I n (d - 1)) (fct n) c')) → am_R E mX10_week 245 [some (.ref 48), some (.int (nI w)), some (.int (nI (fct n))), some (.int (nI d)), some (.int (nI c)), none, none] [] (hp (u1 I1 62 g) J b) 64 64 Q := by
          intro r
          induction r with
          | zero =>
            intro c hc g hg
            have e : c = fct n := by omega
            subst e
            refine bX10_week_245 (le_br rfl rfl (by omega) (by omega) (fun _ => ?_) (fun h => by omega))
            rw [n1]
            refine ih (d + 1) (by omega) (by omega) _ (hA.u1 (by decide)) (fun c hc => ?_)
            rw [u1_s, hg c hc, show d + 1 - 1 = (d - 1) + 1 by omega, be]
          | succ r ihr =>
            intro c hc g hg
            refine bX10_week_245 (le_br rfl rfl (by omega) (by omega) (fun h => by omega) (fun _ => ⟨c, rfl, by omega, ?_⟩))
            rw [n1, u2_u1, u1_n _ _ (by decide)]
            refine ihr (c + 1) (by omega) _ (fun c' hc' => ?_)
            unfold upd
            by_cases q : c' = c
            · rw [if_pos q, q]; exact hB c (by omega)
            · rw [if_neg q]; exact hg c' (by omega)
        have := key (fct n) 0 (by omega) (I1 62) (fun c' hc' => by omega)
        rw [u1_self] at this
        exact this
      -- over what was had
      have had : ∀ r h, h + r = fct n → ∀ (I1 : Nat → Nat → Int32), Ag qS I I1 → (∀ c, c < fct n → I1 62 c = oI (be I n (d - 1) c)) → (∀ c, c < fct n → I1 63 c = oI (nxB I n (be I n (d - 1)) h c)) → am_R E mX10_week 104 [some (.ref 48), some (.int (nI w)), some (.int (nI (fct n))), some (.int (nI d)), some (.int (nI h)), none, none] [] (hp I1 J b) 64 64 Q := by
        intro r
        induction r with
        | zero =>
          intro h hh I1 hA hB hC
          have e : h = fct n := by omega
          subst e
          exact bX10_week_104 (le_br rfl rfl (by omega) (by omega) (fun _ => copy I1 hA hC) (fun q => by omega))
        | succ r ihr =>
          intro h hh I1 hA hB hC
          have hhl : h < fct n := by omega
          refine bX10_week_104 (le_br rfl rfl (by omega) (by omega) (fun q => by omega) (fun _ => ⟨h, rfl, by omega, ?_⟩))
          rw [hB h hhl]
          have hone := oI_ne (a := be I n (d - 1) h) (fun v hv => hBD h v hhl hv)
          refine ⟨fun q => ?_, fun q => ?_⟩
          · have q := hone.mp q
            rw [n1]
            refine ihr (h + 1) (by omega) I1 hA hB (fun c hc => ?_)
            rw [hC c hc]
            congr 1
            unfold nxB
            rw [ah, q]
            have z : ∀ o, olt o none = false := fun o => by cases o <;> rfl
            rw [z]
            simp
          · obtain ⟨v0, hv0⟩ : ∃ v0, be I n (d - 1) h = some v0 := by
              cases hb0 : be I n (d - 1) h with
              | none => exact absurd (hone.mpr hb0) q
              | some v => exact ⟨v, rfl⟩
            have hv0l := hB0 h v0 hhl hv0
            refine tX10_takeDraw (n := n) (hA.qm hN hY).1 rfl hhl (fun f hf => bX10_week_127 ?_)
            -- one draw behind another
            have codes : ∀ s c, c + s = fct n → ∀ (I2 : Nat → Nat → Int32), Ag qS I I2 → (∀ c, c < fct n → I2 62 c = oI (be I n (d - 1) c)) → Rw (I2 59) (ur n h) n → (∀ c', c' < fct n → I2 63 c' = oI (nxB I n (be I n (d - 1)) (if c' < c then h + 1 else h) c')) → am_R E mX10_week 162 [some (.ref 48), some (.int (nI w)), some (.int (nI (fct n))), some (.int (nI d)), some (.int (nI h)), some (.int (nI c)), none] [] (hp I2 J b) 64 64 Q := by
              intro s
              induction s with
              | zero =>
                intro c hc I2 hA2 hB2 hR2 hC2
                have e : c = fct n := by omega
                subst e
                refine bX10_week_162 (le_br rfl rfl (by omega) (by omega) (fun _ => ?_) (fun q => by omega))
                rw [n1]
                exact ihr (h + 1) (by omega) I2 hA2 hB2 (fun c hc => by rw [hC2 c hc, if_pos hc])
              | succ s ihs =>
                intro c hc I2 hA2 hB2 hR2 hC2
                have hcl : c < fct n := by omega
                refine bX10_week_162 (le_br rfl rfl (by omega) (by omega) (fun q => by omega) (fun _ => ?_))
                refine tX10_takeDraw (n := n) (hA2.qm hN hY).1 rfl hcl (fun f2 hf2 => bX10_week_174 ?_)
                have hA3 : Ag qS I (u1 I2 58 f2) := hA2.u1 (by decide)
                have e62 : u1 I2 58 f2 62 = I2 62 := u1_n _ _ (by decide)
                have e63 : u1 I2 58 f2 63 = I2 63 := u1_n _ _ (by decide)
                have e59 : u1 I2 58 f2 59 = I2 59 := u1_n _ _ (by decide)
                have c63 : u1 I2 58 f2 63 c = oI (nxB I n (be I n (d - 1)) h c) := by rw [e63, hC2 c hcl, if_neg (by omega)]
                have mbe : mb (u1 I2 58 f2) = mb I := by
                  funext m d y
                  unfold mb
                  rw [hA3 49 (by decide), hA3 51 (by decide)]
                have fin : ∀ x : Int32, x = oI (nxB I n (be I n (d - 1)) (h + 1) c) → am_R E mX10_week 162 [some (.ref 48), some (.int (nI w)), some (.int (nI (fct n))), some (.int (nI d)), some (.int (nI h)), some (.int (nI c + 1)), none] [] (hp (u2 (u1 I2 58 f2) 63 c x) J b) 64 64 Q := by
                  intro x hx
                  rw [n1]
                  refine ihs (c + 1) (by omega) _ (hA3.u2 (by decide)) (fun c' hc' => by rw [u2_n _ _ _ (by decide), e62]; exact hB2 c' hc') (by rw [u2_n _ _ _ (by decide), e59]; exact hR2) (fun c' hc' => ?_)
                  rw [u2_s, e63]
                  unfold upd
                  by_cases q : c' = c
                  · rw [if_pos q, if_pos (by omega), q]; exact hx
                  · rw [if_neg q, hC2 c' hc']
                    congr 2
                    by_cases z : c' < c
                    · rw [if_pos z, if_pos (by omega)]
                    · rw [if_neg z, if_neg (by omega)]
                have keep : nxB I n (be I n (d - 1)) (h + 1) c = nxB I n (be I n (d - 1)) h c → am_R E mX10_week 162 [some (.ref 48), some (.int (nI w)), some (.int (nI (fct n))), some (.int (nI d)), some (.int (nI h)), some (.int (nI c + 1)), none] [] (hp (u2 (u1 I2 58 f2) 63 c (u1 I2 58 f2 63 c)) J b) 64 64 Q := fun q => fin _ (by rw [c63, q])
                have m1le : ∀ o : Option Nat, (∀ v, o = some v → v < 2 ^ 31) → (-1 : Int32) ≤ oI o := by
                  intro o ho
                  cases o with
                  | none => exact Int32.le_refl _
                  | some v => exact Int32.le_of_lt (m1_lt (ho v rfl))
                have nxs : nxB I n (be I n (d - 1)) (h + 1) c = if able I n c then (if bh I n h c = true ∧ olt (ah (fun c' => bh I n c' c) (be I n (d - 1)) h) (be I n (d - 1) h) = true then be I n (d - 1) h else ah (fun c' => bh I n c' c) (be I n (d - 1)) h).map (fun v => v + wn I n c) else none := rfl
                refine tX10_isLawfulBehind (n := n) (p := ur n c) (q := ur n h) (hA3.qm hN hY).1 (by rw [u1_s]; exact hf2) (by rw [e59]; exact hR2) (fun q => ?_) (fun q => ?_)
                · rw [mbe] at q
                  have hbh : bh I n h c = true := decide_eq_true q
                  have hab : able I n c = true := decide_eq_true (fun m hm => (q m hm).1)
                  obtain ⟨w1, w2⟩ := wn_ok (I := I) n7 hk hcl
                  refine bX10_week_178 (z01 rfl ⟨h, rfl, by omega, ?_⟩)
                  refine tX10_workOf (n := n) (p := ur n c) (hA3.qm hN hY).1 (by rw [u1_s]; exact hf2) (bX10_week_192 ⟨c, rfl, by omega, ?_⟩)
                  rw [e62, hB2 h hhl, hv0, hA3 49 (by decide), w1, show oI (some v0) + nI (wn I n c) = oI (some (v0 + wn I n c)) from nI_add _ _, c63]
                  have hlt := oI_lt (a := nxB I n (be I n (d - 1)) h c) (e := some (v0 + wn I n c)) (fun v hv => hNB h (by omega) c v hcl hv) (fun v hv => by cases hv; omega)
                  rw [hab, if_pos rfl, hbh, hv0] at nxs
                  have hcur : nxB I n (be I n (d - 1)) h c = (ah (fun c' => bh I n c' c) (be I n (d - 1)) h).map (fun v => v + wn I n c) := by unfold nxB; rw [hab]; rfl
                  have holt : olt (nxB I n (be I n (d - 1)) h c) (some (v0 + wn I n c)) = olt (ah (fun c' => bh I n c' c) (be I n (d - 1)) h) (some v0) := by
                    rw [hcur]
                    cases ah (fun c' => bh I n c' c) (be I n (d - 1)) h with
                    | none => rfl
                    | some a =>
                      show decide (a + wn I n c < v0 + wn I n c) = decide (a < v0)
                      exact decide_eq_decide.mpr (by omega)
                  refine ⟨fun z => ?_, fun z => ?_⟩
                  · have z2 : ¬ olt (nxB I n (be I n (d - 1)) h c) (some (v0 + wn I n c)) = true := fun y => Int32.not_le.mpr (hlt.mpr y) z
                    rw [holt] at z2
                    rw [if_neg (fun y => z2 y.2)] at nxs
                    rw [← c63]
                    exact keep (by rw [nxs, hcur])
                  · have z2 := hlt.mp (nle z)
                    rw [holt] at z2
                    rw [if_pos ⟨rfl, z2⟩] at nxs
                    exact fin _ (by rw [nxs]; rfl)
                · rw [mbe] at q
                  have hbh : bh I n h c = false := decide_eq_false q
                  refine bX10_week_178 (z00 rfl ⟨c, rfl, by omega, fun _ => keep ?_, fun z => absurd (by rw [c63]; exact m1le _ (fun v hv => hNB h (by omega) c v hcl hv)) z⟩)
                  have z0 : ¬ (bh I n h c = true ∧ olt (ah (fun c' => bh I n c' c) (be I n (d - 1)) h) (be I n (d - 1) h) = true) := fun z => by rw [hbh] at z; cases z.1
                  rw [if_neg z0] at nxs
                  exact nxs
            -- what was had is laid beside
            have bef : ∀ s m, m + s = n → ∀ g : Nat → Int32, (∀ i, i < m → g i = nI (ur n h i)) → am_R E mX10_week 130 [some (.ref 48), some (.int (nI w)), some (.int (nI (fct n))), some (.int (nI d)), some (.int (nI h)), some (.int (nI m)), none] [] (hp (u1 (u1 I1 58 f) 59 g) J b) 64 64 Q := by
              intro s
              induction s with
              | zero =>
                intro m hm g hg
                have e : m = n := by omega
                subst e
                have hA4 : Ag qS I (u1 (u1 I1 58 f) 59 g) := (hA.u1 (by decide)).u1 (by decide)
                refine bX10_week_130 (le_br (hA4.qm hN hY).1.1 rfl (by omega) (by omega) (fun _ => ?_) (fun q => by omega))
                refine codes (fct m) 0 (by omega) _ hA4 (fun c hc => ?_) (fun i hi => ⟨by rw [u1_s]; exact hg i hi, (ur_pm n7 hhl).1 i hi⟩) (fun c' hc' => ?_)
                · rw [u1_n _ _ (by decide), u1_n _ _ (by decide)]; exact hB c hc
                · rw [u1_n _ _ (by decide), u1_n _ _ (by decide), if_neg (by omega)]; exact hC c' hc'
              | succ s ihs =>
                intro m hm g hg
                have hA4 : Ag qS I (u1 (u1 I1 58 f) 59 g) := (hA.u1 (by decide)).u1 (by decide)
                refine bX10_week_130 (le_br (hA4.qm hN hY).1.1 rfl (by omega) (by omega) (fun q => by omega) (fun _ => ⟨m, rfl, by omega, ?_⟩))
                rw [n1, u2_u1, u1_n _ _ (by decide), u1_s]
                refine ihs (m + 1) (by omega) _ (fun i hi => ?_)
                unfold upd
                by_cases q : i = m
                · rw [if_pos q, q]; exact (hf m (by omega)).1
                · rw [if_neg q]; exact hg i (by omega)
            have := bef n 0 (by omega) (I1 59) (fun i hi => by omega)
            rw [show u1 (u1 I1 58 f) 59 (I1 59) = u1 I1 58 f from u1_self _ _] at this
            exact this
      have init : ∀ r c, c + r = fct n → ∀ g : Nat → Int32, (∀ c', c' < c → g c' = -1) → am_R E mX10_week 81 [some (.ref 48), some (.int (nI w)), some (.int (nI (fct n))), some (.int (nI d)), some (.int (nI c)), none, none] [] (hp (u1 I1 63 g) J b) 64 64 Q := by
        intro r
        induction r with
        | zero =>
          intro c hc g hg
          have e : c = fct n := by omega
          subst e
          refine bX10_week_81 (le_br rfl rfl (by omega) (by omega) (fun _ => ?_) (fun q => by omega))
          refine had (fct n) 0 (by omega) _ (hA.u1 (by decide)) (fun c hc => by rw [u1_n _ _ (by decide)]; exact hB c hc) (fun c hc => ?_)
          rw [u1_s, hg c hc, nx0]; rfl
        | succ r ihr =>
          intro c hc g hg
          refine bX10_week_81 (le_br rfl rfl (by omega) (by omega) (fun q => by omega) (fun _ => ⟨c, rfl, by omega, ?_⟩))
          rw [n1, u2_u1]
          refine ihr (c + 1) (by omega) _ (fun c' hc' => ?_)
          unfold upd
          by_cases q : c' = c
          · rw [if_pos q]
          · rw [if_neg q]; exact hg c' (by omega)
      refine bX10_week_73 (le_br rfl rfl (by omega) (by omega) (fun h => by omega) (fun _ => ?_))
      have := init (fct n) 0 (by omega) (I1 63) (fun c' hc' => by omega)
      rw [u1_self] at this
      exact this
  have first : ∀ j c, c + j = fct n → ∀ I1, Ag qS I I1 → (∀ c', c' < c → I1 62 c' = oI (be I n 0 c')) → am_R E mX10_week 34 [some (.ref 48), some (.int (nI w)), some (.int (nI (fct n))), some (.int (nI c)), none, none, none] [] (hp I1 J b) 64 64 Q := by
    intro j
    induction j with
    | zero =>
      intro c hc I1 hA hB
      have e : c = fct n := by omega
      subst e
      exact bX10_week_34 (le_br rfl rfl (by omega) (by omega) (fun _ => days (w - 1) 1 (by omega) (by omega) I1 hA hB) (fun h => by omega))
    | succ j ih =>
      intro c hc I1 hA hB
      have hcl : c < fct n := by omega
      refine bX10_week_34 (le_br rfl rfl (by omega) (by omega) (fun h => by omega) (fun _ => ?_))
      refine tX10_takeDraw (n := n) (hA.qm hN hY).1 rfl hcl (fun f hf => bX10_week_44 ?_)
      have hA2 : Ag qS I (u1 I1 58 f) := hA.u1 (by decide)
      have fin : ∀ x : Int32, x = oI (be I n 0 c) → am_R E mX10_week 34 [some (.ref 48), some (.int (nI w)), some (.int (nI (fct n))), some (.int (nI c + 1)), none, none, none] [] (hp (u2 (u1 I1 58 f) 62 c x) J b) 64 64 Q := by
        intro x hx
        rw [n1]
        refine ih (c + 1) (by omega) _ (hA2.u2 (by decide)) (fun c' hc' => ?_)
        rw [u2_s, u1_n _ _ (by decide)]; unfold upd
        by_cases q : c' = c
        · rw [if_pos q, q]; exact hx
        · rw [if_neg q]; exact hB c' (by omega)
      refine tX10_isLawful (n := n) (p := ur n c) (hA2.qm hN hY).1 (hA2.qm hN hY).2.1 (by rw [u1_s]; exact hf) (fun q => ?_) (fun q => ?_)
      · rw [(hA2.qm hN hY).2.2.1] at q
        obtain ⟨w1, w2⟩ := wn_ok (I := I) n7 hk hcl
        refine bX10_week_53 (z01 rfl (tX10_workOf (n := n) (p := ur n c) (hA2.qm hN hY).1 (by rw [u1_s]; exact hf) (bX10_week_60 ⟨c, rfl, by omega, ?_⟩)))
        rw [hA2 49 (by decide), w1]
        have hl : lc I n c = true := decide_eq_true q
        exact fin _ (by rw [be, hl]; rfl)
      · rw [(hA2.qm hN hY).2.2.1] at q
        refine bX10_week_53 (z00 rfl ⟨c, rfl, by omega, fin (-1) ?_⟩)
        have hl : lc I n c = false := decide_eq_false q
        rw [be, hl]; rfl
  exact first (fct n) 0 (by omega) I (Ag.rf _ I) (fun c' hc' => by omega)
/-- cells in which calls write what no other call reads -/
def SCR : List Nat := [3, 23, 25, 28, 31, 34, 36, 37, 38, 39, 40, 41, 42, 43, 44, 45, 46, 47, 54, 58, 59, 60, 61, 62, 63]
theorem Ag.sa (h : Ag SCR I I') : Sa I I' := ⟨⟨⟨h 4 (by decide), h 5 (by decide), h 6 (by decide), h 7 (by decide), h 8 (by decide), h 9 (by decide), h 10 (by decide), h 11 (by decide), h 12 (by decide)⟩, ⟨h 14 (by decide), h 15 (by decide), h 16 (by decide), h 17 (by decide), h 18 (by decide), h 19 (by decide), h 20 (by decide), h 21 (by decide), h 22 (by decide), h 24 (by decide), h 27 (by decide), h 29 (by decide), h 30 (by decide), h 32 (by decide), h 33 (by decide), h 35 (by decide)⟩, ⟨by rw [h 48 (by decide)], by rw [h 48 (by decide)], h 49 (by decide), h 50 (by decide), h 51 (by decide), h 52 (by decide), h 55 (by decide), h 56 (by decide), h 57 (by decide)⟩⟩, ⟨by rw [h 1 (by decide)], h 2 (by decide), by rw [h 48 (by decide)], h 53 (by decide)⟩⟩
theorem p_week (hI : Inv I n) (a1 : Int32) : Pair E mX9_week mX10_week [some (.ref 0), some (.int a1)] [some (.ref 48), some (.int a1), none, none, none, none, none] I J b := by
  have hI0 := hI
  obtain ⟨hM, hC⟩ := hI
  obtain ⟨hN, -, hS, -, hK, -, hD, -⟩ := hM
  obtain ⟨hCH, -, c7, -, -, c5, -⟩ := hC
  have n0 := hN.1
  have n2 := hN.2.1
  have n7 := hN.2.2
  have e0 : I 4 0 = nI n := hCH.1
  have hY : Yw I n := hD.2.2.1
  by_cases hk : 1 ≤ a1 ∧ a1 ≤ 7
  case neg => exact Pair.same hI0 (.int (-3)) (fun Q h => bX9_week_0 ⟨fun _ => h, fun q => ⟨fun q2 => absurd ⟨nlt q, q2⟩ hk, fun _ => h⟩⟩) (fun J b Q h => bX10_week_0 ⟨fun q => absurd q hk, fun _ => h⟩)
  obtain ⟨w, hw1, rfl⟩ := nI_of2 (x := a1) (M := 7) (n := 7) (by decide) (fun q => by
    have := Int32.lt_iff_toInt_lt.mp q
    have h1 := Int32.le_iff_toInt_le.mp hk.1
    simp at this h1; omega) hk.2
  have w1 : 1 ≤ w := (nI_leI (a := 1) (by omega) (by omega)).mp hk.1
  have nl : ¬ nI w < 1 := Int32.not_lt.mpr hk.1
  by_cases h5 : n ≤ 5
  case neg =>
    have q5 : ¬ nI n ≤ 5 := fun q => h5 ((nI_leI (b := 5) (by omega) (by omega)).mp q)
    exact Pair.same hI0 (.int (-4)) (fun Q h => bX9_week_0 (by rw [e0]; exact ⟨fun q => absurd q nl, fun _ => ⟨fun _ => ⟨fun q => absurd q q5, fun _ => h⟩, fun q => absurd hk.2 q⟩⟩)) (fun J b Q h => bX10_week_0 (by rw [n0]; exact ⟨fun _ => ⟨fun q => absurd q q5, fun _ => h⟩, fun q => absurd hk q⟩))
  have q5 : nI n ≤ 5 := (nI_leI (b := 5) (by omega) (by omega)).mpr h5
  have hW : Wk I n := ⟨hCH, h5, hK, c7, hS, c5.2.2.2.1, hY⟩
  refine ⟨.int (oI (mxx (be I n (w - 1)) (fct n))), fun I1 => Ag pS I I1, fun Q h => bX9_week_0 ?_, fun I1 J1 b1 e Q h => bX10_week_0 ?_⟩
  · rw [e0]
    exact ⟨fun q => absurd q nl, fun _ => ⟨fun _ => ⟨fun _ => tX4_greatest hW rfl w1 hw1 (fun I2 b2 hA => bX9_week_43 (h I2 J b2 hA)), fun q => absurd q5 q⟩, fun q => absurd hk.2 q⟩⟩
  · have e48 := e 48 (by decide)
    have e49 := e 49 (by decide)
    have e51 := e 51 (by decide)
    have e55 := e 55 (by decide)
    have hN1 : Nn I1 n := by unfold Nn; rw [e48]; exact hN
    have hY1 : Yw I1 n := by unfold Yw; rw [e55]; exact hY
    rw [hN1.1]
    refine ⟨fun _ => ⟨fun _ => ⟨n, rfl, by omega, ?_⟩, fun q => absurd q5 q⟩, fun q => absurd hk q⟩
    refine tX10_week34 (n := n) hN1 hY1 (by rw [e49]; exact hS) h5 rfl w1 hw1 (fun I2 hA => ?_)
    rw [be_eq e49 e51 (fun m => by rw [e55])]
    exact h I2 J1 b1 n (hI0.sa (((e.mono (by decide)).tr (hA.mono (by decide)) : Ag SCR I I2)).sa)
end P14
