/-! ===== the class: rows, wanted rings ===== -/
section C1
variable {E : Nat × (Nat → Int32)} {I : Nat → Nat → Int32} {J : Nat → Nat → Int64} {b : Bool} {Q : Option Value → am_H → Prop}
/-- the class's cells tell what the reference's do: monks, skills, likings, who may do what -/
def CH (I : Nat → Nat → Int32) (n : Nat) : Prop := I 4 0 = nI n ∧ (2 ≤ n ∧ n ≤ 7) ∧ (∀ j, j < 49 → I 5 j = I 49 j) ∧ (∀ j, j < 49 → I 6 j = I 50 j) ∧ (∀ m, m < n → ∀ d, d < n → (((I 24 m >>> (nI d &&& 31)) &&& 1) = 1 ↔ my I m d))
/-- the cells of rows -/
def rowc (r : Nat) : Prop := r = 10 ∨ r = 28 ∨ r = 31 ∨ r = 34 ∨ r = 37 ∨ r = 38 ∨ r = 42 ∨ r = 47
theorem rowc.s {r : Nat} (h : rowc r) : am_s r = .inl (.int, 7) := by rcases h with rfl | rfl | rfl | rfl | rfl | rfl | rfl | rfl <;> rfl
theorem rowc.k {r : Nat} (h : rowc r) : r < 64 := by rcases h with rfl | rfl | rfl | rfl | rfl | rfl | rfl | rfl <;> decide
theorem bX2_workOf_0 {E : Nat × (Nat → Int32)} {I : Nat → Nat → Int32} {J : Nat → Nat → Int64} {b : Bool} {a1 : Nat} {Q : Option Value → am_H → Prop} (hs_a1 : am_s a1 = .inl (.int, 7)) (hk_a1 : a1 < 64) (wp : am_R E mX2_workOf 4 [some (.ref 4), some (.ref a1), some (.int 0), some (.int 0)] [] (hp I J b) 64 64 Q) : am_R E mX2_workOf 0 [some (.ref 4), some (.ref a1), none, none] [] (hp I J b) 64 64 Q := by
  refine am_iconst 0 rfl dX2_workOf_0 ?_
  refine am_istore_n (ls' := [some (.ref 4), some (.ref a1), some (.int 0), none]) rfl (by decide) rfl rfl dX2_workOf_1 ?_
  refine am_iconst 0 rfl dX2_workOf_2 ?_
  refine am_istore_n (ls' := [some (.ref 4), some (.ref a1), some (.int 0), some (.int 0)]) rfl (by decide) rfl rfl dX2_workOf_3 ?_
  exact am_R.forget wp ⟨rfl, ⟨rfl, ⟨rfl, ⟨rfl, trivial⟩⟩⟩⟩
theorem bX2_workOf_4 {E : Nat × (Nat → Int32)} {I : Nat → Nat → Int32} {J : Nat → Nat → Int64} {b : Bool} {a1 : Nat} {a2 : Int32} {a3 : Int32} {Q : Option Value → am_H → Prop} (hs_a1 : am_s a1 = .inl (.int, 7)) (hk_a1 : a1 < 64) (wp : (((I 4 0) ≤ a3 → Q (some (.int a2)) (hp I J b)) ∧ (¬ (I 4 0) ≤ a3 → ∃ j2, a3 = nI j2 ∧ j2 < 7 ∧ ∃ j3, ((a3 * 7) + (I a1 j2)) = nI j3 ∧ j3 < 49 ∧ am_R E mX2_workOf 4 [some (.ref 4), some (.ref a1), some (.int (a2 + (I 5 j3))), some (.int (a3 + 1))] [] (hp I J b) 64 64 Q))) : am_R E mX2_workOf 4 [some (.ref 4), some (.ref a1), some (.int a2), some (.int a3)] [] (hp I J b) 64 64 Q := by
  refine am_iload_n rfl rfl dX2_workOf_4 ?_
  refine am_aload_n rfl rfl dX2_workOf_5 ?_
  refine am_getI dX2_workOf_6 flX2_24 (Or.inl rfl) rfl (by decide) ?_
  refine am_icmp_ge dX2_workOf_9 (tgt := 29) rfl (fun hc1 => ?_) (fun hc1 => ?_)
  · have wp := wp.1 hc1
    refine am_iload_n rfl rfl dX2_workOf_29 ?_
    exact am_iret dX2_workOf_30 rfl rfl wp
  · have wp := wp.2 hc1
    refine am_iload_n rfl rfl dX2_workOf_12 ?_
    refine am_aload_n rfl rfl dX2_workOf_13 ?_
    refine am_iload_n rfl rfl dX2_workOf_14 ?_
    refine am_aload_n rfl rfl dX2_workOf_15 ?_
    refine am_iload_n rfl rfl dX2_workOf_16 ?_
    obtain ⟨j2, e2, w2, wp⟩ := wp
    refine am_ialdN (j := j2) dX2_workOf_17 hs_a1 hk_a1 e2 w2 (by decide) ?_
    obtain ⟨j3, e3, w3, wp⟩ := wp
    refine am_invV (ci := 1) (As := [.int a3, .int (I a1 j2)]) (lsZ := [some (.ref 4), some (.int a3), some (.int (I a1 j2))]) (st := [.int a2]) dX2_workOf_18 hX2_skillOf lkX2_42 ⟨by decide, by decide⟩ (by decide) rfl (by decide) rfl rfl rfl (Nat.le_of_ble_eq_true rfl) rfl (Nat.le_of_ble_eq_true rfl) ⟨Nat.le_refl _, Nat.le_refl _⟩ (tX2_skillOf (by decide) (j := j3) e3 w3 ?_)
    show am_R E mX2_workOf 21 [some (.ref 4), some (.ref a1), some (.int a2), some (.int a3)] [.int (I 5 j3), .int a2] (hp I J b) 64 64 Q
    refine am_iadd dX2_workOf_21 ?_
    refine am_istore_n (ls' := [some (.ref 4), some (.ref a1), some (.int (a2 + (I 5 j3))), some (.int a3)]) rfl (by decide) rfl rfl dX2_workOf_22 ?_
    refine am_iinc (ls' := [some (.ref 4), some (.ref a1), some (.int (a2 + (I 5 j3))), some (.int (a3 + 1))]) (by decide) rfl rfl rfl dX2_workOf_23 ?_
    refine am_goto dX2_workOf_26 (tgt := 4) rfl ?_
    exact am_R.forget wp ⟨rfl, ⟨rfl, ⟨rfl, ⟨rfl, trivial⟩⟩⟩⟩
theorem tX2_workOf {r n : Nat} {p : Nat → Nat} (hr : rowc r) (hC : CH I n) (hR : Rw (I r) p n) (k : Q (some (.int (sm (fun m => I 49 (7 * m + p m)) n))) (hp I J b)) : am_R E mX2_workOf 0 [some (.ref 4), some (.ref r), none, none] [] (hp I J b) 64 64 Q := by
  obtain ⟨h0, ⟨h2, h7⟩, hs, hl, -⟩ := hC
  refine bX2_workOf_0 hr.s hr.k (lp_up (n := n) (P := fun m => am_R E mX2_workOf 4 [some (.ref 4), some (.ref r), some (.int (sm (fun m => I 49 (7 * m + p m)) m)), some (.int (nI m))] [] (hp I J b) 64 64 Q) ?_ ?_)
  · exact bX2_workOf_4 hr.s hr.k (le_br h0 rfl (by omega) (by omega) (fun _ => k) (fun h => by omega))
  · intro m hm ih
    have hp2 := (hR m hm).2
    refine bX2_workOf_4 hr.s hr.k (le_br h0 rfl (by omega) (by omega) (fun h => by omega) (fun _ => ⟨m, rfl, by omega, 7 * m + p m, by rw [(hR m hm).1, k7'], by omega, ?_⟩))
    rw [n1, hs _ (by omega)]; exact ih
theorem bX2_gladnessOf_0 {E : Nat × (Nat → Int32)} {I : Nat → Nat → Int32} {J : Nat → Nat → Int64} {b : Bool} {a1 : Nat} {Q : Option Value → am_H → Prop} (hs_a1 : am_s a1 = .inl (.int, 7)) (hk_a1 : a1 < 64) (wp : am_R E mX2_gladnessOf 4 [some (.ref 4), some (.ref a1), some (.int 0), some (.int 0)] [] (hp I J b) 64 64 Q) : am_R E mX2_gladnessOf 0 [some (.ref 4), some (.ref a1), none, none] [] (hp I J b) 64 64 Q := by
  refine am_iconst 0 rfl dX2_gladnessOf_0 ?_
  refine am_istore_n (ls' := [some (.ref 4), some (.ref a1), some (.int 0), none]) rfl (by decide) rfl rfl dX2_gladnessOf_1 ?_
  refine am_iconst 0 rfl dX2_gladnessOf_2 ?_
  refine am_istore_n (ls' := [some (.ref 4), some (.ref a1), some (.int 0), some (.int 0)]) rfl (by decide) rfl rfl dX2_gladnessOf_3 ?_
  exact am_R.forget wp ⟨rfl, ⟨rfl, ⟨rfl, ⟨rfl, trivial⟩⟩⟩⟩
theorem bX2_gladnessOf_4 {E : Nat × (Nat → Int32)} {I : Nat → Nat → Int32} {J : Nat → Nat → Int64} {b : Bool} {a1 : Nat} {a2 : Int32} {a3 : Int32} {Q : Option Value → am_H → Prop} (hs_a1 : am_s a1 = .inl (.int, 7)) (hk_a1 : a1 < 64) (wp : (((I 4 0) ≤ a3 → Q (some (.int a2)) (hp I J b)) ∧ (¬ (I 4 0) ≤ a3 → ∃ j2, a3 = nI j2 ∧ j2 < 7 ∧ ∃ j3, ((a3 * 7) + (I a1 j2)) = nI j3 ∧ j3 < 49 ∧ am_R E mX2_gladnessOf 4 [some (.ref 4), some (.ref a1), some (.int (a2 + (I 6 j3))), some (.int (a3 + 1))] [] (hp I J b) 64 64 Q))) : am_R E mX2_gladnessOf 4 [some (.ref 4), some (.ref a1), some (.int a2), some (.int a3)] [] (hp I J b) 64 64 Q := by
  refine am_iload_n rfl rfl dX2_gladnessOf_4 ?_
  refine am_aload_n rfl rfl dX2_gladnessOf_5 ?_
  refine am_getI dX2_gladnessOf_6 flX2_24 (Or.inl rfl) rfl (by decide) ?_
  refine am_icmp_ge dX2_gladnessOf_9 (tgt := 29) rfl (fun hc1 => ?_) (fun hc1 => ?_)
  · have wp := wp.1 hc1
    refine am_iload_n rfl rfl dX2_gladnessOf_29 ?_
    exact am_iret dX2_gladnessOf_30 rfl rfl wp
  · have wp := wp.2 hc1
    refine am_iload_n rfl rfl dX2_gladnessOf_12 ?_
    refine am_aload_n rfl rfl dX2_gladnessOf_13 ?_
    refine am_iload_n rfl rfl dX2_gladnessOf_14 ?_
    refine am_aload_n rfl rfl dX2_gladnessOf_15 ?_
    refine am_iload_n rfl rfl dX2_gladnessOf_16 ?_
    obtain ⟨j2, e2, w2, wp⟩ := wp
    refine am_ialdN (j := j2) dX2_gladnessOf_17 hs_a1 hk_a1 e2 w2 (by decide) ?_
    obtain ⟨j3, e3, w3, wp⟩ := wp
    refine am_invV (ci := 1) (As := [.int a3, .int (I a1 j2)]) (lsZ := [some (.ref 4), some (.int a3), some (.int (I a1 j2))]) (st := [.int a2]) dX2_gladnessOf_18 hX2_likingOf lkX2_45 ⟨by decide, by decide⟩ (by decide) rfl (by decide) rfl rfl rfl (Nat.le_of_ble_eq_true rfl) rfl (Nat.le_of_ble_eq_true rfl) ⟨Nat.le_refl _, Nat.le_refl _⟩ (tX2_likingOf (by decide) (j := j3) e3 w3 ?_)
    show am_R E mX2_gladnessOf 21 [some (.ref 4), some (.ref a1), some (.int a2), some (.int a3)] [.int (I 6 j3), .int a2] (hp I J b) 64 64 Q
    refine am_iadd dX2_gladnessOf_21 ?_
    refine am_istore_n (ls' := [some (.ref 4), some (.ref a1), some (.int (a2 + (I 6 j3))), some (.int a3)]) rfl (by decide) rfl rfl dX2_gladnessOf_22 ?_
    refine am_iinc (ls' := [some (.ref 4), some (.ref a1), some (.int (a2 + (I 6 j3))), some (.int (a3 + 1))]) (by decide) rfl rfl rfl dX2_gladnessOf_23 ?_
    refine am_goto dX2_gladnessOf_26 (tgt := 4) rfl ?_
    exact am_R.forget wp ⟨rfl, ⟨rfl, ⟨rfl, ⟨rfl, trivial⟩⟩⟩⟩
theorem tX2_gladnessOf {r n : Nat} {p : Nat → Nat} (hr : rowc r) (hC : CH I n) (hR : Rw (I r) p n) (k : Q (some (.int (sm (fun m => I 50 (7 * m + p m)) n))) (hp I J b)) : am_R E mX2_gladnessOf 0 [some (.ref 4), some (.ref r), none, none] [] (hp I J b) 64 64 Q := by
  obtain ⟨h0, ⟨h2, h7⟩, hs, hl, -⟩ := hC
  refine bX2_gladnessOf_0 hr.s hr.k (lp_up (n := n) (P := fun m => am_R E mX2_gladnessOf 4 [some (.ref 4), some (.ref r), some (.int (sm (fun m => I 50 (7 * m + p m)) m)), some (.int (nI m))] [] (hp I J b) 64 64 Q) ?_ ?_)
  · exact bX2_gladnessOf_4 hr.s hr.k (le_br h0 rfl (by omega) (by omega) (fun _ => k) (fun h => by omega))
  · intro m hm ih
    have hp2 := (hR m hm).2
    refine bX2_gladnessOf_4 hr.s hr.k (le_br h0 rfl (by omega) (by omega) (fun h => by omega) (fun _ => ⟨m, rfl, by omega, 7 * m + p m, by rw [(hR m hm).1, k7'], by omega, ?_⟩))
    rw [n1, hl _ (by omega)]; exact ih
theorem bX5_allMayDo_0 {E : Nat × (Nat → Int32)} {I : Nat → Nat → Int32} {J : Nat → Nat → Int64} {b : Bool} {a1 : Nat} {Q : Option Value → am_H → Prop} (hs_a1 : am_s a1 = .inl (.int, 7)) (hk_a1 : a1 < 64) (wp : am_R E mX5_allMayDo 2 [some (.ref 23), some (.ref a1), some (.int 0)] [] (hp I J b) 64 64 Q) : am_R E mX5_allMayDo 0 [some (.ref 23), some (.ref a1), none] [] (hp I J b) 64 64 Q := by
  refine am_iconst 0 rfl dX5_allMayDo_0 ?_
  refine am_istore_n (ls' := [some (.ref 23), some (.ref a1), some (.int 0)]) rfl (by decide) rfl rfl dX5_allMayDo_1 ?_
  exact am_R.forget wp ⟨rfl, ⟨rfl, ⟨rfl, trivial⟩⟩⟩
theorem bX5_allMayDo_2 {E : Nat × (Nat → Int32)} {I : Nat → Nat → Int32} {J : Nat → Nat → Int64} {b : Bool} {a1 : Nat} {a2 : Int32} {Q : Option Value → am_H → Prop} (hs_a1 : am_s a1 = .inl (.int, 7)) (hk_a1 : a1 < 64) (wp : (((I 4 0) ≤ a2 → Q (some (.int 1)) (hp I J b)) ∧ (¬ (I 4 0) ≤ a2 → ∃ j2, a2 = nI j2 ∧ j2 < 7 ∧ ((((((I 24 j2) >>> ((I a1 j2) &&& 31)) &&& 1) = 1) → am_R E mX5_allMayDo 2 [some (.ref 23), some (.ref a1), some (.int (a2 + 1))] [] (hp I J b) 64 64 Q) ∧ (¬ ((((I 24 j2) >>> ((I a1 j2) &&& 31)) &&& 1) = 1) → Q (some (.int 0)) (hp I J b)))))) : am_R E mX5_allMayDo 2 [some (.ref 23), some (.ref a1), some (.int a2)] [] (hp I J b) 64 64 Q := by
  refine am_iload_n rfl rfl dX5_allMayDo_2 ?_
  refine am_aload_n rfl rfl dX5_allMayDo_3 ?_
  refine am_getA (r := 4) dX5_allMayDo_4 flX5_18 (Or.inl ⟨_, rfl⟩) rfl (by decide) rfl ?_
  refine am_getI dX5_allMayDo_7 flX5_22 (Or.inl rfl) rfl (by decide) ?_
  refine am_icmp_ge dX5_allMayDo_10 (tgt := 32) rfl (fun hc1 => ?_) (fun hc1 => ?_)
  · have wp := wp.1 hc1
    refine am_iconst 1 rfl dX5_allMayDo_32 ?_
    exact am_iret dX5_allMayDo_33 rfl (by decide) wp
  · have wp := wp.2 hc1
    refine am_aload_n rfl rfl dX5_allMayDo_13 ?_
    refine am_iload_n rfl rfl dX5_allMayDo_14 ?_
    refine am_aload_n rfl rfl dX5_allMayDo_15 ?_
    refine am_iload_n rfl rfl dX5_allMayDo_16 ?_
    obtain ⟨j2, e2, w2, wp⟩ := wp
    refine am_ialdN (j := j2) dX5_allMayDo_17 hs_a1 hk_a1 e2 w2 (by decide) ?_
    refine am_invV (ci := 3) (As := [.int a2, .int (I a1 j2)]) (lsZ := [some (.ref 23), some (.int a2), some (.int (I a1 j2))]) (st := []) dX5_allMayDo_18 hX5_mayDo lkX5_36 ⟨by decide, by decide⟩ (by decide) rfl (by decide) rfl rfl rfl (Nat.le_of_ble_eq_true rfl) rfl (Nat.le_of_ble_eq_true rfl) ⟨Nat.le_refl _, Nat.le_refl _⟩ (tX5_mayDo (j := j2) e2 w2 (fun hc3 => ?_) (fun hc3 => ?_))
    · have wp := wp.1 hc3
      show am_R E mX5_allMayDo 21 [some (.ref 23), some (.ref a1), some (.int a2)] [.int 1] (hp I J b) 64 64 Q
      refine am_if_ne dX5_allMayDo_21 (tgt := 26) rfl (fun _ => ?_) (fun hc => absurd hc (by decide))
      refine am_iinc (ls' := [some (.ref 23), some (.ref a1), some (.int (a2 + 1))]) (by decide) rfl rfl rfl dX5_allMayDo_26 ?_
      refine am_goto dX5_allMayDo_29 (tgt := 2) rfl ?_
      exact am_R.forget wp ⟨rfl, ⟨rfl, ⟨rfl, trivial⟩⟩⟩
    · have wp := wp.2 hc3
      show am_R E mX5_allMayDo 21 [some (.ref 23), some (.ref a1), some (.int a2)] [.int 0] (hp I J b) 64 64 Q
      refine am_if_ne dX5_allMayDo_21 (tgt := 26) rfl (fun hc => absurd hc (by decide)) (fun _ => ?_)
      refine am_iconst 0 rfl dX5_allMayDo_24 ?_
      exact am_iret dX5_allMayDo_25 rfl (by decide) wp
theorem tX5_allMayDo {r n : Nat} {p : Nat → Nat} (hr : rowc r) (hC : CH I n) (hR : Rw (I r) p n) (k1 : (∀ m, m < n → my I m (p m)) → Q (some (.int 1)) (hp I J b)) (k0 : ¬ (∀ m, m < n → my I m (p m)) → Q (some (.int 0)) (hp I J b)) : am_R E mX5_allMayDo 0 [some (.ref 23), some (.ref r), none] [] (hp I J b) 64 64 Q := by
  obtain ⟨h0, ⟨h2, h7⟩, hs, hl, hm⟩ := hC
  refine bX5_allMayDo_0 hr.s hr.k ?_
  have key : ∀ j m, m + j = n → (∀ i, i < m → my I i (p i)) → am_R E mX5_allMayDo 2 [some (.ref 23), some (.ref r), some (.int (nI m))] [] (hp I J b) 64 64 Q := by
    intro j
    induction j with
    | zero =>
      intro m e ha
      exact bX5_allMayDo_2 hr.s hr.k (le_br h0 rfl (by omega) (by omega) (fun _ => k1 (by rw [← show m = n by omega]; exact ha)) (fun h => by omega))
    | succ j ih =>
      intro m e ha
      refine bX5_allMayDo_2 hr.s hr.k (le_br h0 rfl (by omega) (by omega) (fun h => by omega) (fun hmn => ⟨m, rfl, by omega, fun q => ?_, fun q => k0 (fun z => q ?_)⟩))
      · rw [n1]
        refine ih (m + 1) (by omega) (fun i hi => ?_)
        rcases Nat.lt_or_ge i m with w | w
        · exact ha i w
        · rw [show i = m by omega]
          rw [(hR m hmn).1] at q
          exact (hm m hmn _ (hR m hmn).2).mp q
      · rw [(hR m hmn).1]
        exact (hm m hmn _ (hR m hmn).2).mpr (z m hmn)
  exact key n 0 (by omega) (fun i hi => by omega)
theorem bX5_wants_0 {E : Nat × (Nat → Int32)} {I : Nat → Nat → Int32} {J : Nat → Nat → Int64} {b : Bool} {a1 : Nat} {a2 : Int32} {a3 : Int32} {Q : Option Value → am_H → Prop} (hs_a1 : am_s a1 = .inl (.int, 7)) (hk_a1 : a1 < 64) (wp : ∃ j1, a3 = nI j1 ∧ j1 < 7 ∧ ∃ j2, a2 = nI j2 ∧ j2 < 7 ∧ ((((((I 24 j2) >>> ((I a1 j1) &&& 31)) &&& 1) = 1) → ∃ j4, ((a2 * 7) + (I a1 j1)) = nI j4 ∧ j4 < 49 ∧ ∃ j5, ((a2 * 7) + (I a1 j2)) = nI j5 ∧ j5 < 49 ∧ (((I 6 j4) ≤ (I 6 j5) → Q (some (.int 0)) (hp I J b)) ∧ (¬ (I 6 j4) ≤ (I 6 j5) → Q (some (.int 1)) (hp I J b)))) ∧ (¬ ((((I 24 j2) >>> ((I a1 j1) &&& 31)) &&& 1) = 1) → Q (some (.int 0)) (hp I J b)))) : am_R E mX5_wants 0 [some (.ref 23), some (.ref a1), some (.int a2), some (.int a3)] [] (hp I J b) 64 64 Q := by
  refine am_aload_n rfl rfl dX5_wants_0 ?_
  refine am_iload_n rfl rfl dX5_wants_1 ?_
  refine am_aload_n rfl rfl dX5_wants_2 ?_
  refine am_iload_n rfl rfl dX5_wants_3 ?_
  obtain ⟨j1, e1, w1, wp⟩ := wp
  refine am_ialdN (j := j1) dX5_wants_4 hs_a1 hk_a1 e1 w1 (by decide) ?_
  obtain ⟨j2, e2, w2, wp⟩ := wp
  refine am_invV (ci := 3) (As := [.int a2, .int (I a1 j1)]) (lsZ := [some (.ref 23), some (.int a2), some (.int (I a1 j1))]) (st := []) dX5_wants_5 hX5_mayDo lkX5_36 ⟨by decide, by decide⟩ (by decide) rfl (by decide) rfl rfl rfl (Nat.le_of_ble_eq_true rfl) rfl (Nat.le_of_ble_eq_true rfl) ⟨Nat.le_refl _, Nat.le_refl _⟩ (tX5_mayDo (j := j2) e2 w2 (fun hc3 => ?_) (fun hc3 => ?_))
  · have wp := wp.1 hc3
    show am_R E mX5_wants 8 [some (.ref 23), some (.ref a1), some (.int a2), some (.int a3)] [.int 1] (hp I J b) 64 64 Q
    refine am_if_eq dX5_wants_8 (tgt := 40) rfl (fun hc => absurd hc (by decide)) (fun _ => ?_)
    refine am_aload_n rfl rfl dX5_wants_11 ?_
    refine am_getA (r := 4) dX5_wants_12 flX5_18 (Or.inl ⟨_, rfl⟩) rfl (by decide) rfl ?_
    refine am_iload_n rfl rfl dX5_wants_15 ?_
    refine am_aload_n rfl rfl dX5_wants_16 ?_
    refine am_iload_n rfl rfl dX5_wants_17 ?_
    refine am_ialdN (j := j1) dX5_wants_18 hs_a1 hk_a1 e1 w1 (by decide) ?_
    obtain ⟨j4, e4, w4, wp⟩ := wp
    refine am_invV (ci := 1) (As := [.int a2, .int (I a1 j1)]) (lsZ := [some (.ref 4), some (.int a2), some (.int (I a1 j1))]) (st := []) dX5_wants_19 hX2_likingOf lkX5_39 ⟨by decide, by decide⟩ (by decide) rfl (by decide) rfl rfl rfl (Nat.le_of_ble_eq_true rfl) rfl (Nat.le_of_ble_eq_true rfl) ⟨Nat.le_refl _, Nat.le_refl _⟩ (tX2_likingOf (by decide) (j := j4) e4 w4 ?_)
    show am_R E mX5_wants 22 [some (.ref 23), some (.ref a1), some (.int a2), some (.int a3)] [.int (I 6 j4)] (hp I J b) 64 64 Q
    refine am_aload_n rfl rfl dX5_wants_22 ?_
    refine am_getA (r := 4) dX5_wants_23 flX5_18 (Or.inl ⟨_, rfl⟩) rfl (by decide) rfl ?_
    refine am_iload_n rfl rfl dX5_wants_26 ?_
    refine am_aload_n rfl rfl dX5_wants_27 ?_
    refine am_iload_n rfl rfl dX5_wants_28 ?_
    refine am_ialdN (j := j2) dX5_wants_29 hs_a1 hk_a1 e2 w2 (by decide) ?_
    obtain ⟨j5, e5, w5, wp⟩ := wp
    refine am_invV (ci := 1) (As := [.int a2, .int (I a1 j2)]) (lsZ := [some (.ref 4), some (.int a2), some (.int (I a1 j2))]) (st := [.int (I 6 j4)]) dX5_wants_30 hX2_likingOf lkX5_39 ⟨by decide, by decide⟩ (by decide) rfl (by decide) rfl rfl rfl (Nat.le_of_ble_eq_true rfl) rfl (Nat.le_of_ble_eq_true rfl) ⟨Nat.le_refl _, Nat.le_refl _⟩ (tX2_likingOf (by decide) (j := j5) e5 w5 ?_)
    show am_R E mX5_wants 33 [some (.ref 23), some (.ref a1), some (.int a2), some (.int a3)] [.int (I 6 j5), .int (I 6 j4)] (hp I J b) 64 64 Q
    refine am_icmp_le dX5_wants_33 (tgt := 40) rfl (fun hc6 => ?_) (fun hc6 => ?_)
    · have wp := wp.1 hc6
      refine am_iconst 0 rfl dX5_wants_40 ?_
      exact am_iret dX5_wants_41 rfl (by decide) wp
    · have wp := wp.2 hc6
      refine am_iconst 1 rfl dX5_wants_36 ?_
      refine am_goto dX5_wants_37 (tgt := 41) rfl ?_
      exact am_iret dX5_wants_41 rfl (by decide) wp
  · have wp := wp.2 hc3
    show am_R E mX5_wants 8 [some (.ref 23), some (.ref a1), some (.int a2), some (.int a3)] [.int 0] (hp I J b) 64 64 Q
    refine am_if_eq dX5_wants_8 (tgt := 40) rfl (fun _ => ?_) (fun hc => absurd hc (by decide))
    refine am_iconst 0 rfl dX5_wants_40 ?_
    exact am_iret dX5_wants_41 rfl (by decide) wp
theorem tX5_wants {r n m d : Nat} {a2 a3 : Int32} {p : Nat → Nat} (hr : rowc r) (hC : CH I n) (hR : Rw (I r) p n) (em : a2 = nI m) (ed : a3 = nI d) (hm : m < n) (hd : d < n) (k1 : lm I p m (p d) → Q (some (.int 1)) (hp I J b)) (k0 : ¬ lm I p m (p d) → Q (some (.int 0)) (hp I J b)) : am_R E mX5_wants 0 [some (.ref 23), some (.ref r), some (.int a2), some (.int a3)] [] (hp I J b) 64 64 Q := by
  subst em; subst ed
  obtain ⟨h0, ⟨h2, h7⟩, hs, hl, hb⟩ := hC
  have hpm := hR m hm
  have hpd := hR d hd
  have hbit := hb m hm (p d) hpd.2
  refine bX5_wants_0 hr.s hr.k ⟨d, rfl, by omega, m, rfl, by omega, ?_⟩
  rw [hpd.1, hpm.1]
  refine ⟨fun q => ⟨7 * m + p d, k7' m (p d), by omega, 7 * m + p m, k7' m (p m), by omega, ?_⟩, fun q => k0 (fun z => q (hbit.mpr z.1))⟩
  rw [hl _ (by omega), hl _ (by omega)]
  exact ⟨fun h => k0 (fun z => Int32.not_lt.mpr h z.2), fun h => k1 ⟨hbit.mp q, nle h⟩⟩
theorem bX5_isWanted_0 {E : Nat × (Nat → Int32)} {I : Nat → Nat → Int32} {J : Nat → Nat → Int64} {b : Bool} {a1 : Nat} {a2 : Int32} {a3 : Int32} {a4 : Int32} {Q : Option Value → am_H → Prop} (hs_a1 : am_s a1 = .inl (.int, 7)) (hk_a1 : a1 < 64) (wp : ((¬ a4 = (-1) → am_R E mX5_wants 0 [some (.ref 23), some (.ref a1), some (.int a2), some (.int a3)] [] (hp I J b) 64 64 (fun r h' => am_R E mX5_isWanted 39 [some (.ref 23), some (.ref a1), some (.int a2), some (.int a3), some (.int a4)] (r.toList ++ []) h' 64 64 Q)) ∧ (a4 = (-1) → am_R E mX5_wants 0 [some (.ref 23), some (.ref a1), some (.int a2), some (.int a3)] [] (hp I J b) 64 64 (fun r h' => am_R E mX5_isWanted 13 [some (.ref 23), some (.ref a1), some (.int a2), some (.int a3), none] (r.toList ++ []) h' 64 64 Q)))) : am_R E mX5_isWanted 0 [some (.ref 23), some (.ref a1), some (.int a2), some (.int a3), some (.int a4)] [] (hp I J b) 64 64 Q := by
  refine am_iload rfl dX5_isWanted_0 ?_
  refine am_iconst (-1) rfl dX5_isWanted_2 ?_
  refine am_icmp_ne dX5_isWanted_3 (tgt := 32) rfl (fun hc1 => ?_) (fun hc1 => ?_)
  · have wp := wp.1 hc1
    refine am_aload_n rfl rfl dX5_isWanted_32 ?_
    refine am_aload_n rfl rfl dX5_isWanted_33 ?_
    refine am_iload_n rfl rfl dX5_isWanted_34 ?_
    refine am_iload_n rfl rfl dX5_isWanted_35 ?_
    refine am_invV (ci := 3) (As := [.ref a1, .int a2, .int a3]) (lsZ := [some (.ref 23), some (.ref a1), some (.int a2), some (.int a3)]) (st := []) dX5_isWanted_36 hX5_wants lkX5_42 ⟨by decide, by decide⟩ (by decide) rfl (by decide) rfl rfl rfl (Nat.le_of_ble_eq_true rfl) rfl (Nat.le_of_ble_eq_true rfl) ⟨Nat.le_refl _, Nat.le_refl _⟩ (am_R.mono wp (fun r h' q => am_R.forget q ⟨rfl, ⟨rfl, ⟨rfl, ⟨rfl, ⟨rfl, trivial⟩⟩⟩⟩⟩))
  · have wp := wp.2 hc1
    refine am_aload_n rfl rfl dX5_isWanted_6 ?_
    refine am_aload_n rfl rfl dX5_isWanted_7 ?_
    refine am_iload_n rfl rfl dX5_isWanted_8 ?_
    refine am_iload_n rfl rfl dX5_isWanted_9 ?_
    refine am_invV (ci := 3) (As := [.ref a1, .int a2, .int a3]) (lsZ := [some (.ref 23), some (.ref a1), some (.int a2), some (.int a3)]) (st := []) dX5_isWanted_10 hX5_wants lkX5_42 ⟨by decide, by decide⟩ (by decide) rfl (by decide) rfl rfl rfl (Nat.le_of_ble_eq_true rfl) rfl (Nat.le_of_ble_eq_true rfl) ⟨Nat.le_refl _, Nat.le_refl _⟩ (am_R.mono wp (fun r h' q => am_R.forget q ⟨rfl, ⟨rfl, ⟨rfl, ⟨rfl, trivial⟩⟩⟩⟩))
theorem bX5_isWanted_13 {E : Nat × (Nat → Int32)} {I : Nat → Nat → Int32} {J : Nat → Nat → Int64} {b : Bool} {a1 : Nat} {a2 : Int32} {a3 : Int32} {x0 : Int32} {Q : Option Value → am_H → Prop} (hs_a1 : am_s a1 = .inl (.int, 7)) (hk_a1 : a1 < 64) (wp : ((x0 = 0 → Q (some (.int 0)) (hp I J b)) ∧ (¬ x0 = 0 → am_R E mX5_wants 0 [some (.ref 23), some (.ref a1), some (.int a3), some (.int a2)] [] (hp I J b) 64 64 (fun r h' => am_R E mX5_isWanted 23 [none, none, none, none, none] (r.toList ++ []) h' 64 64 Q)))) : am_R E mX5_isWanted 13 [some (.ref 23), some (.ref a1), some (.int a2), some (.int a3), none] [.int x0] (hp I J b) 64 64 Q := by
  refine am_if_eq dX5_isWanted_13 (tgt := 30) rfl (fun hc1 => ?_) (fun hc1 => ?_)
  · have wp := wp.1 hc1
    refine am_iconst 0 rfl dX5_isWanted_30 ?_
    exact am_iret dX5_isWanted_31 rfl (by decide) wp
  · have wp := wp.2 hc1
    refine am_aload_n rfl rfl dX5_isWanted_16 ?_
    refine am_aload_n rfl rfl dX5_isWanted_17 ?_
    refine am_iload_n rfl rfl dX5_isWanted_18 ?_
    refine am_iload_n rfl rfl dX5_isWanted_19 ?_
    refine am_invV (ci := 3) (As := [.ref a1, .int a3, .int a2]) (lsZ := [some (.ref 23), some (.ref a1), some (.int a3), some (.int a2)]) (st := []) dX5_isWanted_20 hX5_wants lkX5_42 ⟨by decide, by decide⟩ (by decide) rfl (by decide) rfl rfl rfl (Nat.le_of_ble_eq_true rfl) rfl (Nat.le_of_ble_eq_true rfl) ⟨Nat.le_refl _, Nat.le_refl _⟩ (am_R.mono wp (fun r h' q => am_R.forget q trivial))
theorem bX5_isWanted_23 {E : Nat × (Nat → Int32)} {I : Nat → Nat → Int32} {J : Nat → Nat → Int64} {b : Bool} {x0 : Int32} {Q : Option Value → am_H → Prop}  (wp : ((x0 = 0 → Q (some (.int 0)) (hp I J b)) ∧ (¬ x0 = 0 → Q (some (.int 1)) (hp I J b)))) : am_R E mX5_isWanted 23 [none, none, none, none, none] [.int x0] (hp I J b) 64 64 Q := by
  refine am_if_eq dX5_isWanted_23 (tgt := 30) rfl (fun hc1 => ?_) (fun hc1 => ?_)
  · have wp := wp.1 hc1
    refine am_iconst 0 rfl dX5_isWanted_30 ?_
    exact am_iret dX5_isWanted_31 rfl (by decide) wp
  · have wp := wp.2 hc1
    refine am_iconst 1 rfl dX5_isWanted_26 ?_
    refine am_goto dX5_isWanted_27 (tgt := 31) rfl ?_
    exact am_iret dX5_isWanted_31 rfl (by decide) wp
theorem bX5_isWanted_39 {E : Nat × (Nat → Int32)} {I : Nat → Nat → Int32} {J : Nat → Nat → Int64} {b : Bool} {a1 : Nat} {a2 : Int32} {a3 : Int32} {a4 : Int32} {x0 : Int32} {Q : Option Value → am_H → Prop} (hs_a1 : am_s a1 = .inl (.int, 7)) (hk_a1 : a1 < 64) (wp : ((x0 = 0 → Q (some (.int 0)) (hp I J b)) ∧ (¬ x0 = 0 → am_R E mX5_wants 0 [some (.ref 23), some (.ref a1), some (.int a3), some (.int a4)] [] (hp I J b) 64 64 (fun r h' => am_R E mX5_isWanted 50 [some (.ref 23), some (.ref a1), some (.int a2), none, some (.int a4)] (r.toList ++ []) h' 64 64 Q)))) : am_R E mX5_isWanted 39 [some (.ref 23), some (.ref a1), some (.int a2), some (.int a3), some (.int a4)] [.int x0] (hp I J b) 64 64 Q := by
  refine am_if_eq dX5_isWanted_39 (tgt := 68) rfl (fun hc1 => ?_) (fun hc1 => ?_)
  · have wp := wp.1 hc1
    refine am_iconst 0 rfl dX5_isWanted_68 ?_
    exact am_iret dX5_isWanted_69 rfl (by decide) wp
  · have wp := wp.2 hc1
    refine am_aload_n rfl rfl dX5_isWanted_42 ?_
    refine am_aload_n rfl rfl dX5_isWanted_43 ?_
    refine am_iload_n rfl rfl dX5_isWanted_44 ?_
    refine am_iload rfl dX5_isWanted_45 ?_
    refine am_invV (ci := 3) (As := [.ref a1, .int a3, .int a4]) (lsZ := [some (.ref 23), some (.ref a1), some (.int a3), some (.int a4)]) (st := []) dX5_isWanted_47 hX5_wants lkX5_42 ⟨by decide, by decide⟩ (by decide) rfl (by decide) rfl rfl rfl (Nat.le_of_ble_eq_true rfl) rfl (Nat.le_of_ble_eq_true rfl) ⟨Nat.le_refl _, Nat.le_refl _⟩ (am_R.mono wp (fun r h' q => am_R.forget q ⟨rfl, ⟨rfl, ⟨rfl, ⟨rfl, trivial⟩⟩⟩⟩))
theorem bX5_isWanted_50 {E : Nat × (Nat → Int32)} {I : Nat → Nat → Int32} {J : Nat → Nat → Int64} {b : Bool} {a1 : Nat} {a2 : Int32} {a4 : Int32} {x0 : Int32} {Q : Option Value → am_H → Prop} (hs_a1 : am_s a1 = .inl (.int, 7)) (hk_a1 : a1 < 64) (wp : ((x0 = 0 → Q (some (.int 0)) (hp I J b)) ∧ (¬ x0 = 0 → am_R E mX5_wants 0 [some (.ref 23), some (.ref a1), some (.int a4), some (.int a2)] [] (hp I J b) 64 64 (fun r h' => am_R E mX5_isWanted 61 [none, none, none, none, none] (r.toList ++ []) h' 64 64 Q)))) : am_R E mX5_isWanted 50 [some (.ref 23), some (.ref a1), some (.int a2), none, some (.int a4)] [.int x0] (hp I J b) 64 64 Q := by
  refine am_if_eq dX5_isWanted_50 (tgt := 68) rfl (fun hc1 => ?_) (fun hc1 => ?_)
  · have wp := wp.1 hc1
    refine am_iconst 0 rfl dX5_isWanted_68 ?_
    exact am_iret dX5_isWanted_69 rfl (by decide) wp
  · have wp := wp.2 hc1
    refine am_aload_n rfl rfl dX5_isWanted_53 ?_
    refine am_aload_n rfl rfl dX5_isWanted_54 ?_
    refine am_iload rfl dX5_isWanted_55 ?_
    refine am_iload_n rfl rfl dX5_isWanted_57 ?_
    refine am_invV (ci := 3) (As := [.ref a1, .int a4, .int a2]) (lsZ := [some (.ref 23), some (.ref a1), some (.int a4), some (.int a2)]) (st := []) dX5_isWanted_58 hX5_wants lkX5_42 ⟨by decide, by decide⟩ (by decide) rfl (by decide) rfl rfl rfl (Nat.le_of_ble_eq_true rfl) rfl (Nat.le_of_ble_eq_true rfl) ⟨Nat.le_refl _, Nat.le_refl _⟩ (am_R.mono wp (fun r h' q => am_R.forget q trivial))
theorem bX5_isWanted_61 {E : Nat × (Nat → Int32)} {I : Nat → Nat → Int32} {J : Nat → Nat → Int64} {b : Bool} {x0 : Int32} {Q : Option Value → am_H → Prop}  (wp : ((x0 = 0 → Q (some (.int 0)) (hp I J b)) ∧ (¬ x0 = 0 → Q (some (.int 1)) (hp I J b)))) : am_R E mX5_isWanted 61 [none, none, none, none, none] [.int x0] (hp I J b) 64 64 Q := by
  refine am_if_eq dX5_isWanted_61 (tgt := 68) rfl (fun hc1 => ?_) (fun hc1 => ?_)
  · have wp := wp.1 hc1
    refine am_iconst 0 rfl dX5_isWanted_68 ?_
    exact am_iret dX5_isWanted_69 rfl (by decide) wp
  · have wp := wp.2 hc1
    refine am_iconst 1 rfl dX5_isWanted_64 ?_
    refine am_goto dX5_isWanted_65 (tgt := 69) rfl ?_
    exact am_iret dX5_isWanted_69 rfl (by decide) wp
theorem tX5_isWanted2 {r n x y : Nat} {a2 a3 a4 : Int32} {p : Nat → Nat} (hr : rowc r) (hC : CH I n) (hR : Rw (I r) p n) (ex : a2 = nI x) (ey : a3 = nI y) (ez : a4 = -1) (hx : x < n) (hy : y < n) (k1 : wt2 I p x y → Q (some (.int 1)) (hp I J b)) (k0 : ¬ wt2 I p x y → Q (some (.int 0)) (hp I J b)) : am_R E mX5_isWanted 0 [some (.ref 23), some (.ref r), some (.int a2), some (.int a3), some (.int a4)] [] (hp I J b) 64 64 Q := by
  refine bX5_isWanted_0 hr.s hr.k ⟨fun h => absurd ez h, fun _ => tX5_wants hr hC hR ex ey hx hy (fun q => ?_) (fun q => ?_)⟩
  · refine bX5_isWanted_13 hr.s hr.k (z01 rfl (tX5_wants hr hC hR ey ex hy hx (fun q2 => ?_) (fun q2 => ?_)))
    · exact bX5_isWanted_23 (z01 rfl (k1 ⟨q, q2⟩))
    · exact bX5_isWanted_23 (z00 rfl (k0 (fun z => q2 z.2)))
  · exact bX5_isWanted_13 hr.s hr.k (z00 rfl (k0 (fun z => q z.1)))
theorem tX5_isWanted3 {r n x y z : Nat} {a2 a3 a4 : Int32} {p : Nat → Nat} (hr : rowc r) (hC : CH I n) (hR : Rw (I r) p n) (ex : a2 = nI x) (ey : a3 = nI y) (ez : a4 = nI z) (hx : x < n) (hy : y < n) (hz : z < n) (k1 : wt3 I p x y z → Q (some (.int 1)) (hp I J b)) (k0 : ¬ wt3 I p x y z → Q (some (.int 0)) (hp I J b)) : am_R E mX5_isWanted 0 [some (.ref 23), some (.ref r), some (.int a2), some (.int a3), some (.int a4)] [] (hp I J b) 64 64 Q := by
  have hm1 : ∀ e : Nat, e < 7 → ¬ nI e = (-1 : Int32) := by decide
  have h7 := hC.2.1.2
  refine bX5_isWanted_0 hr.s hr.k ⟨fun _ => tX5_wants hr hC hR ex ey hx hy (fun q => ?_) (fun q => ?_), fun h => absurd h (by rw [ez]; exact hm1 z (by omega))⟩
  · refine bX5_isWanted_39 hr.s hr.k (z01 rfl (tX5_wants hr hC hR ey ez hy hz (fun q2 => ?_) (fun q2 => ?_)))
    · refine bX5_isWanted_50 hr.s hr.k (z01 rfl (tX5_wants hr hC hR ez ex hz hx (fun q3 => ?_) (fun q3 => ?_)))
      · exact bX5_isWanted_61 (z01 rfl (k1 ⟨q, q2, q3⟩))
      · exact bX5_isWanted_61 (z00 rfl (k0 (fun z => q3 z.2.2)))
    · exact bX5_isWanted_50 hr.s hr.k (z00 rfl (k0 (fun z => q2 z.2.1)))
  · exact bX5_isWanted_39 hr.s hr.k (z00 rfl (k0 (fun z => q z.1)))
theorem bX5_pass_0 {E : Nat × (Nat → Int32)} {I : Nat → Nat → Int32} {J : Nat → Nat → Int64} {b : Bool} {a0 : Nat} {a1 : Int32} {a2 : Int32} {a3 : Int32} {Q : Option Value → am_H → Prop} (hs_a0 : am_s a0 = .inl (.int, 7)) (hk_a0 : a0 < 64) (wp : ∃ j1, a1 = nI j1 ∧ j1 < 7 ∧ ∃ j2, a2 = nI j2 ∧ j2 < 7 ∧ ((¬ a3 = (-1) → ∃ j4, a3 = nI j4 ∧ j4 < 7 ∧ Q none (hp (u2 (u2 (u2 I a0 j1 (I a0 j2)) a0 j2 ((u2 I a0 j1 (I a0 j2)) a0 j4)) a0 j4 (I a0 j1)) J b)) ∧ (a3 = (-1) → Q none (hp (u2 (u2 I a0 j1 (I a0 j2)) a0 j2 (I a0 j1)) J b)))) : am_R E mX5_pass 0 [some (.ref a0), some (.int a1), some (.int a2), some (.int a3), none] [] (hp I J b) 64 64 Q := by
  refine am_aload_n rfl rfl dX5_pass_0 ?_
  refine am_iload_n rfl rfl dX5_pass_1 ?_
  obtain ⟨j1, e1, w1, wp⟩ := wp
  refine am_ialdN (j := j1) dX5_pass_2 hs_a0 hk_a0 e1 w1 (by decide) ?_
  refine am_istore (ls' := [some (.ref a0), some (.int a1), some (.int a2), some (.int a3), some (.int (I a0 j1))]) (by decide) rfl rfl dX5_pass_3 ?_
  refine am_aload_n rfl rfl dX5_pass_5 ?_
  refine am_iload_n rfl rfl dX5_pass_6 ?_
  refine am_aload_n rfl rfl dX5_pass_7 ?_
  refine am_iload_n rfl rfl dX5_pass_8 ?_
  obtain ⟨j2, e2, w2, wp⟩ := wp
  refine am_ialdN (j := j2) dX5_pass_9 hs_a0 hk_a0 e2 w2 (by decide) ?_
  refine am_iastN (j := j1) dX5_pass_10 hs_a0 hk_a0 e1 w1 (by decide) ?_
  refine am_iload_n rfl rfl dX5_pass_11 ?_
  refine am_iconst (-1) rfl dX5_pass_12 ?_
  refine am_icmp_ne dX5_pass_13 (tgt := 24) rfl (fun hc3 => ?_) (fun hc3 => ?_)
  · have wp := wp.1 hc3
    refine am_aload_n rfl rfl dX5_pass_24 ?_
    refine am_iload_n rfl rfl dX5_pass_25 ?_
    refine am_aload_n rfl rfl dX5_pass_26 ?_
    refine am_iload_n rfl rfl dX5_pass_27 ?_
    obtain ⟨j4, e4, w4, wp⟩ := wp
    refine am_ialdN (j := j4) dX5_pass_28 hs_a0 hk_a0 e4 w4 (by decide) ?_
    show am_R E mX5_pass 29 [some (.ref a0), some (.int a1), some (.int a2), some (.int a3), some (.int (I a0 j1))] [.int ((u2 I a0 j1 (I a0 j2)) a0 j4), .int a2, .ref a0] (hp (u2 I a0 j1 (I a0 j2)) J b) 64 64 Q
    refine am_iastN (j := j2) dX5_pass_29 hs_a0 hk_a0 e2 w2 (by decide) ?_
    refine am_aload_n rfl rfl dX5_pass_30 ?_
    refine am_iload_n rfl rfl dX5_pass_31 ?_
    refine am_iload rfl dX5_pass_32 ?_
    refine am_iastN (j := j4) dX5_pass_34 hs_a0 hk_a0 e4 w4 (by decide) ?_
    exact am_vret dX5_pass_35 rfl wp
  · have wp := wp.2 hc3
    refine am_aload_n rfl rfl dX5_pass_16 ?_
    refine am_iload_n rfl rfl dX5_pass_17 ?_
    refine am_iload rfl dX5_pass_18 ?_
    refine am_iastN (j := j2) dX5_pass_20 hs_a0 hk_a0 e2 w2 (by decide) ?_
    refine am_goto dX5_pass_21 (tgt := 35) rfl ?_
    exact am_vret dX5_pass_35 rfl wp
theorem tX5_pass {r x y : Nat} {a1 a2 a3 : Int32} (hr : rowc r) (ex : a1 = nI x) (hx : x < 7) (ey : a2 = nI y) (hy : y < 7) (hz : a3 = -1 ∨ ∃ z, a3 = nI z ∧ z < 7 ∧ z ≠ x) (k2 : a3 = -1 → Q none (hp (u1 I r (sw2 (I r) x y)) J b)) (k3 : ∀ z, a3 = nI z → z < 7 → Q none (hp (u1 I r (sw3 (I r) x y z)) J b)) : am_R E mX5_pass 0 [some (.ref r), some (.int a1), some (.int a2), some (.int a3), none] [] (hp I J b) 64 64 Q := by
  refine bX5_pass_0 hr.s hr.k ⟨x, ex, hx, y, ey, hy, fun h => ?_, fun h => ?_⟩
  · rcases hz with hz | ⟨z, h1, h2, h3⟩
    · exact absurd hz h
    · refine ⟨z, h1, h2, ?_⟩
      rw [u2_s, u2_eq I, u2_u1, u2_u1]
      have e : upd (I r) x (I r y) z = I r z := by unfold upd; rw [if_neg h3]
      rw [e]
      exact k3 z h1 h2
  · rw [u2_eq I, u2_u1]
    exact k2 h
/-- the heap with another row of found rings -/
def fh (I : Nat → Nat → Int32) (F : Nat → Int32) (c : Int32) : Nat → Nat → Int32 := u1 (u1 I 25 F) 23 (upd (I 23) 3 c)
theorem u1_comm (I : Nat → Nat → Int32) {x y : Nat} (f g : Nat → Int32) (h : x ≠ y) : u1 (u1 I x f) y g = u1 (u1 I y g) x f := by
  funext a
  by_cases e : a = y
  · subst e; rw [u1_s, u1_n _ _ (Ne.symm h), u1_s]
  · rw [u1_n _ _ e]
    by_cases e2 : a = x
    · subst e2; rw [u1_s, u1_s]
    · rw [u1_n _ _ e2, u1_n _ _ e2, u1_n _ _ e]
theorem upd_upd (f : Nat → Int32) (k : Nat) (x y : Int32) : upd (upd f k x) k y = upd f k y := by
  funext j; unfold upd; by_cases e : j = k <;> simp [e]
theorem fh_fh (I : Nat → Nat → Int32) (F F' : Nat → Int32) (c c' : Int32) : fh (fh I F c) F' c' = fh I F' c' := by
  unfold fh
  rw [u1_s, upd_upd, u1_comm _ _ _ (show (23 : Nat) ≠ 25 by decide), u1_u1, u1_u1]
theorem fh_self (I : Nat → Nat → Int32) : fh I (I 25) (I 23 3) = I := by
  unfold fh
  rw [u1_self]
  have : upd (I 23) 3 (I 23 3) = I 23 := by funext j; unfold upd; by_cases e : j = 3 <;> simp [e]
  rw [this, u1_self]
theorem fh_u1 (I : Nat → Nat → Int32) {r : Nat} (hr : rowc r) (F : Nat → Int32) (c : Int32) (g : Nat → Int32) : u1 (fh I F c) r g = fh (u1 I r g) F c := by
  unfold fh
  have h1 : r ≠ 23 := by rcases hr with rfl | rfl | rfl | rfl | rfl | rfl | rfl | rfl <;> decide
  have h2 : r ≠ 25 := by rcases hr with rfl | rfl | rfl | rfl | rfl | rfl | rfl | rfl <;> decide
  rw [u1_comm _ _ _ (Ne.symm h1), u1_comm I _ _ (Ne.symm h2), u1_n _ _ (Ne.symm h1)]
theorem fh_n (I : Nat → Nat → Int32) {k : Nat} (h1 : k ≠ 23) (h2 : k ≠ 25) (F : Nat → Int32) (c : Int32) : fh I F c k = I k := by
  unfold fh; rw [u1_n _ _ h1, u1_n _ _ h2]
theorem fh_r (I : Nat → Nat → Int32) {r : Nat} (hr : rowc r) (F : Nat → Int32) (c : Int32) : fh I F c r = I r :=
  fh_n I (by rcases hr with rfl | rfl | rfl | rfl | rfl | rfl | rfl | rfl <;> decide) (by rcases hr with rfl | rfl | rfl | rfl | rfl | rfl | rfl | rfl <;> decide) F c
theorem CH.fh {n : Nat} (h : CH I n) (F : Nat → Int32) (c : Int32) : CH (fh I F c) n := h
theorem CH.row {n r : Nat} (hr : rowc r) (h : CH I n) (g : Nat → Int32) : CH (u1 I r g) n := by
  rcases hr with rfl | rfl | rfl | rfl | rfl | rfl | rfl | rfl <;> exact h
theorem wc_row {n by' r : Nat} {p : Nat → Nat} (hr : rowc r) (g : Nat → Int32) (c : Nat) : wc (u1 I r g) n by' p c = wc I n by' p c := by
  rcases hr with rfl | rfl | rfl | rfl | rfl | rfl | rfl | rfl <;> rfl
/-- what the found row tells of a list of codes -/
def FdL (F : Nat → Int32) (by' : Nat) (L : List Nat) : Prop := ∀ i c, L[i]? = some c → F (3 * i) = nI (c / 64) ∧ F (3 * i + 1) = nI (c / 8 % 8) ∧ F (3 * i + 2) = (if by' = 2 then -1 else nI (c % 8))
/-- the wanted codes below T -/
def wl (I : Nat → Nat → Int32) (n by' : Nat) (p : Nat → Nat) (T : Nat) : List Nat := (List.range T).filter (fun c => decide (wc I n by' p c))
theorem fil_no {q : Nat → Bool} {T : Nat} (h : q T = false) : (List.range (T + 1)).filter q = (List.range T).filter q := by
  rw [List.range_succ, List.filter_append]; simp [h]
theorem fil_yes {q : Nat → Bool} {T : Nat} (h : q T = true) : (List.range (T + 1)).filter q = (List.range T).filter q ++ [T] := by
  rw [List.range_succ, List.filter_append]; simp [h]
theorem wl_no {n by' T : Nat} {p : Nat → Nat} (h : ¬ wc I n by' p T) : wl I n by' p (T + 1) = wl I n by' p T := fil_no (q := fun c => decide (wc I n by' p c)) (decide_eq_false h)
theorem wl_yes {n by' T : Nat} {p : Nat → Nat} (h : wc I n by' p T) : wl I n by' p (T + 1) = wl I n by' p T ++ [T] := fil_yes (q := fun c => decide (wc I n by' p c)) (decide_eq_true h)
theorem wl_skip {n by' T : Nat} {p : Nat → Nat} : ∀ k, (∀ c, T ≤ c → c < T + k → ¬ wc I n by' p c) → wl I n by' p (T + k) = wl I n by' p T
  | 0, _ => rfl
  | k + 1, h => by
    rw [show T + (k + 1) = T + k + 1 by omega, wl_no (h (T + k) (by omega) (by omega))]
    exact wl_skip k (fun c h1 h2 => h c h1 (by omega))
theorem bX5_note_0 {E : Nat × (Nat → Int32)} {I : Nat → Nat → Int32} {J : Nat → Nat → Int64} {b : Bool} {a1 : Int32} {a2 : Int32} {a3 : Int32} {Q : Option Value → am_H → Prop}  (wp : ((70 ≤ (I 23 3) → Q none (hp I J b)) ∧ (¬ 70 ≤ (I 23 3) → ∃ j2, ((I 23 3) * 3) = nI j2 ∧ j2 < 210 ∧ ∃ j3, (((I 23 3) * 3) + 1) = nI j3 ∧ j3 < 210 ∧ ∃ j4, (((I 23 3) * 3) + 2) = nI j4 ∧ j4 < 210 ∧ Q none (hp (u2 (u2 (u2 (u2 I 25 j2 a1) 25 j3 a2) 25 j4 a3) 23 3 ((I 23 3) + 1)) J b)))) : am_R E mX5_note 0 [some (.ref 23), some (.int a1), some (.int a2), some (.int a3)] [] (hp I J b) 64 64 Q := by
  refine am_aload_n rfl rfl dX5_note_0 ?_
  refine am_getI dX5_note_1 flX5_46 (Or.inl rfl) rfl (by decide) ?_
  refine am_bipush 70 rfl dX5_note_4 ?_
  refine am_icmp_ge dX5_note_6 (tgt := 59) rfl (fun hc1 => ?_) (fun hc1 => ?_)
  · have wp := wp.1 hc1
    exact am_vret dX5_note_59 rfl wp
  · have wp := wp.2 hc1
    refine am_aload_n rfl rfl dX5_note_9 ?_
    refine am_getA (r := 25) dX5_note_10 flX5_15 (Or.inr ⟨_, rfl⟩) rfl (by decide) rfl ?_
    refine am_aload_n rfl rfl dX5_note_13 ?_
    refine am_getI dX5_note_14 flX5_46 (Or.inl rfl) rfl (by decide) ?_
    refine am_iconst 3 rfl dX5_note_17 ?_
    refine am_imul dX5_note_18 ?_
    refine am_iload_n rfl rfl dX5_note_19 ?_
    obtain ⟨j2, e2, w2, wp⟩ := wp
    refine am_iastN (j := j2) dX5_note_20 rfl (by decide) e2 w2 (by decide) ?_
    refine am_aload_n rfl rfl dX5_note_21 ?_
    refine am_getA (r := 25) dX5_note_22 flX5_15 (Or.inr ⟨_, rfl⟩) rfl (by decide) rfl ?_
    refine am_aload_n rfl rfl dX5_note_25 ?_
    refine am_getI dX5_note_26 flX5_46 (Or.inl rfl) rfl (by decide) ?_
    show am_R E mX5_note 29 [some (.ref 23), some (.int a1), some (.int a2), some (.int a3)] [.int (I 23 3), .ref 25] (hp (u2 I 25 j2 a1) J b) 64 64 Q
    refine am_iconst 3 rfl dX5_note_29 ?_
    refine am_imul dX5_note_30 ?_
    refine am_iconst 1 rfl dX5_note_31 ?_
    refine am_iadd dX5_note_32 ?_
    refine am_iload_n rfl rfl dX5_note_33 ?_
    obtain ⟨j3, e3, w3, wp⟩ := wp
    refine am_iastN (j := j3) dX5_note_34 rfl (by decide) e3 w3 (by decide) ?_
    refine am_aload_n rfl rfl dX5_note_35 ?_
    refine am_getA (r := 25) dX5_note_36 flX5_15 (Or.inr ⟨_, rfl⟩) rfl (by decide) rfl ?_
    refine am_aload_n rfl rfl dX5_note_39 ?_
    refine am_getI dX5_note_40 flX5_46 (Or.inl rfl) rfl (by decide) ?_
    show am_R E mX5_note 43 [some (.ref 23), some (.int a1), some (.int a2), some (.int a3)] [.int (I 23 3), .ref 25] (hp (u2 (u2 I 25 j2 a1) 25 j3 a2) J b) 64 64 Q
    refine am_iconst 3 rfl dX5_note_43 ?_
    refine am_imul dX5_note_44 ?_
    refine am_iconst 2 rfl dX5_note_45 ?_
    refine am_iadd dX5_note_46 ?_
    refine am_iload_n rfl rfl dX5_note_47 ?_
    obtain ⟨j4, e4, w4, wp⟩ := wp
    refine am_iastN (j := j4) dX5_note_48 rfl (by decide) e4 w4 (by decide) ?_
    refine am_aload_n rfl rfl dX5_note_49 ?_
    refine am_dup rfl dX5_note_50 ?_
    refine am_getI dX5_note_51 flX5_46 (Or.inl rfl) rfl (by decide) ?_
    show am_R E mX5_note 54 [some (.ref 23), some (.int a1), some (.int a2), some (.int a3)] [.int (I 23 3), .ref 23] (hp (u2 (u2 (u2 I 25 j2 a1) 25 j3 a2) 25 j4 a3) J b) 64 64 Q
    refine am_iconst 1 rfl dX5_note_54 ?_
    refine am_iadd dX5_note_55 ?_
    refine am_putI dX5_note_56 flX5_46 (Or.inl rfl) rfl rfl (by decide) ?_
    exact am_vret dX5_note_59 rfl wp
/-- one more ring is noted -/
theorem tX5_note {a1 a2 a3 : Int32} {F : Nat → Int32} {cnt : Nat} (hc : cnt < 70) (k : Q none (hp (fh I (upd (upd (upd F (3 * cnt) a1) (3 * cnt + 1) a2) (3 * cnt + 2) a3) (nI (cnt + 1))) J b)) : am_R E mX5_note 0 [some (.ref 23), some (.int a1), some (.int a2), some (.int a3)] [] (hp (fh I F (nI cnt)) J b) 64 64 Q := by
  have e23 : fh I F (nI cnt) 23 3 = nI cnt := rfl
  have e1 : nI cnt * 3 = nI (3 * cnt) := by rw [show (3 : Int32) = nI 3 from rfl, pk_mul, Nat.mul_comm]
  refine bX5_note_0 (le_br (n := 70) rfl e23 (by omega) (by omega) (fun h => by omega) (fun _ => ⟨3 * cnt, by rw [e23, e1], by omega, 3 * cnt + 1, by rw [e23, e1, n1], by omega, 3 * cnt + 2, by rw [e23, e1, show (2 : Int32) = nI 2 from rfl, nI_add], by omega, ?_⟩))
  have e : u2 (u2 (u2 (u2 (fh I F (nI cnt)) 25 (3 * cnt) a1) 25 (3 * cnt + 1) a2) 25 (3 * cnt + 2) a3) 23 3 (fh I F (nI cnt) 23 3 + 1) = fh I (upd (upd (upd F (3 * cnt) a1) (3 * cnt + 1) a2) (3 * cnt + 2) a3) (nI (cnt + 1)) := by
    rw [e23, n1]
    unfold fh
    rw [u2_eq (u1 (u1 I 25 F) 23 _), u1_n _ _ (show (25 : Nat) ≠ 23 by decide), u1_s, u2_u1, u2_u1, u2_eq, u1_n _ _ (show (23 : Nat) ≠ 25 by decide), u1_s, upd_upd, u1_comm _ _ _ (show (23 : Nat) ≠ 25 by decide), u1_u1, u1_u1]
  rw [e]
  exact k
theorem FdL.add {F : Nat → Int32} {by' c : Nat} {L : List Nat} (h : FdL F by' L) : FdL (upd (upd (upd F (3 * L.length) (nI (c / 64))) (3 * L.length + 1) (nI (c / 8 % 8))) (3 * L.length + 2) (if by' = 2 then -1 else nI (c % 8))) by' (L ++ [c]) := by
  intro i x hx
  rcases Nat.lt_or_ge i L.length with q | q
  · rw [List.getElem?_append_left q] at hx
    obtain ⟨h1, h2, h3⟩ := h i x hx
    refine ⟨?_, ?_, ?_⟩
    · unfold upd; rw [if_neg (by omega), if_neg (by omega), if_neg (by omega)]; exact h1
    · unfold upd; rw [if_neg (by omega), if_neg (by omega), if_neg (by omega)]; exact h2
    · unfold upd; rw [if_neg (by omega), if_neg (by omega), if_neg (by omega)]; exact h3
  · rw [List.getElem?_append_right q] at hx
    have hi : i - L.length = 0 := by
      have := (List.getElem?_eq_some_iff.mp hx).1
      simp at this; omega
    rw [hi] at hx
    simp at hx
    subst hx
    have e : i = L.length := by omega
    subst e
    refine ⟨?_, ?_, ?_⟩
    · unfold upd; rw [if_neg (by omega), if_neg (by omega), if_pos rfl]
    · unfold upd; rw [if_neg (by omega), if_pos rfl]
    · unfold upd; rw [if_pos rfl]
end C1
