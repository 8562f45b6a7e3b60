/-! ===== the class: finding wanted rings, settling ===== -/
section C2
variable {E : Nat × (Nat → Int32)} {I : Nat → Nat → Int32} {J : Nat → Nat → Int64} {b : Bool} {Q : Option Value → am_H → Prop}
def tk (I : Nat → Nat → Int32) (n by' : Nat) (p : Nat → Nat) (M T : Nat) : List Nat := (wl I n by' p T).take M
theorem tk_skip {n by' M T : Nat} {p : Nat → Nat} (k : Nat) (h : ∀ c, T ≤ c → c < T + k → ¬ wc I n by' p c) : tk I n by' p M (T + k) = tk I n by' p M T := by
  unfold tk; rw [wl_skip k h]
theorem wl_pre {n by' T : Nat} {p : Nat → Nat} : ∀ k, ∃ R, wl I n by' p (T + k) = wl I n by' p T ++ R
  | 0 => ⟨[], by simp⟩
  | k + 1 => by
    obtain ⟨R, hR⟩ := wl_pre (T := T) (n := n) (by' := by') (p := p) k
    by_cases h : wc I n by' p (T + k)
    · exact ⟨R ++ [T + k], by rw [show T + (k + 1) = T + k + 1 by omega, wl_yes h, hR, List.append_assoc]⟩
    · exact ⟨R, by rw [show T + (k + 1) = T + k + 1 by omega, wl_no h, hR]⟩
theorem tk_full {n by' M T : Nat} {p : Nat → Nat} (k : Nat) (h : M ≤ (tk I n by' p M T).length) : tk I n by' p M (T + k) = tk I n by' p M T := by
  obtain ⟨R, hR⟩ := wl_pre (I := I) (T := T) (n := n) (by' := by') (p := p) k
  unfold tk at h ⊢
  rw [hR, List.take_append_of_le_length]
  rw [List.length_take] at h
  omega
theorem tk_add {n by' M T : Nat} {p : Nat → Nat} (h : (tk I n by' p M T).length < M) (hw : wc I n by' p T) : tk I n by' p M (T + 1) = tk I n by' p M T ++ [T] := by
  unfold tk at h ⊢
  rw [List.length_take] at h
  rw [wl_yes hw, List.take_of_length_le (l := wl I n by' p T) (by omega), List.take_of_length_le]
  rw [List.length_append]
  simp
  omega
theorem bX5_findThird_0 {E : Nat × (Nat → Int32)} {I : Nat → Nat → Int32} {J : Nat → Nat → Int64} {b : Bool} {a1 : Nat} {a2 : Int32} {a3 : Int32} {a4 : Int32} {a5 : Int32} {Q : Option Value → am_H → Prop} (hs_a1 : am_s a1 = .inl (.int, 7)) (hk_a1 : a1 < 64) (wp : ((¬ a2 = 2 → am_R E mX5_findThird 30 [some (.ref 23), some (.ref a1), none, some (.int a3), some (.int a4), some (.int a5), some (.int (a3 + 1))] [] (hp I J b) 64 64 Q) ∧ (a2 = 2 → am_R E mX5_wants 0 [some (.ref 23), some (.ref a1), some (.int a4), some (.int a3)] [] (hp I J b) 64 64 (fun r h' => am_R E mX5_findThird 13 [some (.ref 23), none, none, some (.int a3), some (.int a4), none, none] (r.toList ++ []) h' 64 64 Q)))) : am_R E mX5_findThird 0 [some (.ref 23), some (.ref a1), some (.int a2), some (.int a3), some (.int a4), some (.int a5), none] [] (hp I J b) 64 64 Q := by
  refine am_iload_n rfl rfl dX5_findThird_0 ?_
  refine am_iconst 2 rfl dX5_findThird_1 ?_
  refine am_icmp_ne dX5_findThird_2 (tgt := 25) rfl (fun hc1 => ?_) (fun hc1 => ?_)
  · have wp := wp.1 hc1
    refine am_iload_n rfl rfl dX5_findThird_25 ?_
    refine am_iconst 1 rfl dX5_findThird_26 ?_
    refine am_iadd dX5_findThird_27 ?_
    refine am_istore (ls' := [some (.ref 23), some (.ref a1), some (.int a2), some (.int a3), some (.int a4), some (.int a5), some (.int (a3 + 1))]) (by decide) rfl rfl dX5_findThird_28 ?_
    exact am_R.forget wp ⟨rfl, ⟨rfl, ⟨rfl, ⟨rfl, ⟨rfl, ⟨rfl, trivial⟩⟩⟩⟩⟩⟩
  · have wp := wp.2 hc1
    refine am_aload_n rfl rfl dX5_findThird_5 ?_
    refine am_aload_n rfl rfl dX5_findThird_6 ?_
    refine am_iload rfl dX5_findThird_7 ?_
    refine am_iload_n rfl rfl dX5_findThird_9 ?_
    refine am_invV (ci := 3) (As := [.ref a1, .int a4, .int a3]) (lsZ := [some (.ref 23), some (.ref a1), some (.int a4), some (.int a3)]) (st := []) dX5_findThird_10 hX5_wants lkX5_42 ⟨by decide, by decide⟩ (by decide) rfl (by decide) rfl rfl rfl (Nat.le_of_ble_eq_true rfl) rfl (Nat.le_of_ble_eq_true rfl) ⟨Nat.le_refl _, Nat.le_refl _⟩ (am_R.mono wp (fun r h' q => am_R.forget q ⟨rfl, ⟨rfl, ⟨rfl, trivial⟩⟩⟩))
theorem bX5_findThird_13 {E : Nat × (Nat → Int32)} {I : Nat → Nat → Int32} {J : Nat → Nat → Int64} {b : Bool} {a3 : Int32} {a4 : Int32} {x0 : Int32} {Q : Option Value → am_H → Prop}  (wp : ((x0 = 0 → Q none (hp I J b)) ∧ (¬ x0 = 0 → am_R E mX5_note 0 [some (.ref 23), some (.int a3), some (.int a4), some (.int (-1))] [] (hp I J b) 64 64 (fun r h' => am_R E mX5_findThird 24 [none, none, none, none, none, none, none] (r.toList ++ []) h' 64 64 Q)))) : am_R E mX5_findThird 13 [some (.ref 23), none, none, some (.int a3), some (.int a4), none, none] [.int x0] (hp I J b) 64 64 Q := by
  refine am_if_eq dX5_findThird_13 (tgt := 24) rfl (fun hc1 => ?_) (fun hc1 => ?_)
  · have wp := wp.1 hc1
    exact am_vret dX5_findThird_24 rfl wp
  · have wp := wp.2 hc1
    refine am_aload_n rfl rfl dX5_findThird_16 ?_
    refine am_iload_n rfl rfl dX5_findThird_17 ?_
    refine am_iload rfl dX5_findThird_18 ?_
    refine am_iconst (-1) rfl dX5_findThird_20 ?_
    refine am_invV (ci := 3) (As := [.int a3, .int a4, .int (-1)]) (lsZ := [some (.ref 23), some (.int a3), some (.int a4), some (.int (-1))]) (st := []) dX5_findThird_21 hX5_note lkX5_53 ⟨by decide, by decide⟩ (by decide) rfl (by decide) rfl rfl rfl (Nat.le_of_ble_eq_true rfl) rfl (Nat.le_of_ble_eq_true rfl) ⟨Nat.le_refl _, Nat.le_refl _⟩ (am_R.mono wp (fun r h' q => am_R.forget q trivial))
theorem bX5_findThird_24 {E : Nat × (Nat → Int32)} {I : Nat → Nat → Int32} {J : Nat → Nat → Int64} {b : Bool}  {Q : Option Value → am_H → Prop}  (wp : Q none (hp I J b)) : am_R E mX5_findThird 24 [none, none, none, none, none, none, none] [] (hp I J b) 64 64 Q := by
  exact am_vret dX5_findThird_24 rfl wp
theorem bX5_findThird_30 {E : Nat × (Nat → Int32)} {I : Nat → Nat → Int32} {J : Nat → Nat → Int64} {b : Bool} {a1 : Nat} {a3 : Int32} {a4 : Int32} {a5 : Int32} {a6 : Int32} {Q : Option Value → am_H → Prop} (hs_a1 : am_s a1 = .inl (.int, 7)) (hk_a1 : a1 < 64) (wp : (((I 4 0) ≤ a6 → Q none (hp I J b)) ∧ (¬ (I 4 0) ≤ a6 → ((a5 ≤ (I 23 3) → Q none (hp I J b)) ∧ (¬ a5 ≤ (I 23 3) → ((a6 = a4 → am_R E mX5_findThird 30 [some (.ref 23), some (.ref a1), none, some (.int a3), some (.int a4), some (.int a5), some (.int (a6 + 1))] [] (hp I J b) 64 64 Q) ∧ (¬ a6 = a4 → am_R E mX5_wants 0 [some (.ref 23), some (.ref a1), some (.int a4), some (.int a6)] [] (hp I J b) 64 64 (fun r h' => am_R E mX5_findThird 67 [some (.ref 23), some (.ref a1), none, some (.int a3), some (.int a4), some (.int a5), some (.int a6)] (r.toList ++ []) h' 64 64 Q)))))))) : am_R E mX5_findThird 30 [some (.ref 23), some (.ref a1), none, some (.int a3), some (.int a4), some (.int a5), some (.int a6)] [] (hp I J b) 64 64 Q := by
  refine am_iload rfl dX5_findThird_30 ?_
  refine am_aload_n rfl rfl dX5_findThird_32 ?_
  refine am_getA (r := 4) dX5_findThird_33 flX5_18 (Or.inl ⟨_, rfl⟩) rfl (by decide) rfl ?_
  refine am_getI dX5_findThird_36 flX5_22 (Or.inl rfl) rfl (by decide) ?_
  refine am_icmp_ge dX5_findThird_39 (tgt := 96) rfl (fun hc1 => ?_) (fun hc1 => ?_)
  · have wp := wp.1 hc1
    exact am_vret dX5_findThird_96 rfl wp
  · have wp := wp.2 hc1
    refine am_aload_n rfl rfl dX5_findThird_42 ?_
    refine am_getI dX5_findThird_43 flX5_46 (Or.inl rfl) rfl (by decide) ?_
    refine am_iload rfl dX5_findThird_46 ?_
    refine am_icmp_ge dX5_findThird_48 (tgt := 96) rfl (fun hc2 => ?_) (fun hc2 => ?_)
    · have wp := wp.1 hc2
      exact am_vret dX5_findThird_96 rfl wp
    · have wp := wp.2 hc2
      refine am_iload rfl dX5_findThird_51 ?_
      refine am_iload rfl dX5_findThird_53 ?_
      refine am_icmp_eq dX5_findThird_55 (tgt := 90) rfl (fun hc3 => ?_) (fun hc3 => ?_)
      · have wp := wp.1 hc3
        refine am_iinc (ls' := [some (.ref 23), some (.ref a1), none, some (.int a3), some (.int a4), some (.int a5), some (.int (a6 + 1))]) (by decide) rfl rfl rfl dX5_findThird_90 ?_
        refine am_goto dX5_findThird_93 (tgt := 30) rfl ?_
        exact am_R.forget wp ⟨rfl, ⟨rfl, ⟨rfl, ⟨rfl, ⟨rfl, ⟨rfl, trivial⟩⟩⟩⟩⟩⟩
      · have wp := wp.2 hc3
        refine am_aload_n rfl rfl dX5_findThird_58 ?_
        refine am_aload_n rfl rfl dX5_findThird_59 ?_
        refine am_iload rfl dX5_findThird_60 ?_
        refine am_iload rfl dX5_findThird_62 ?_
        refine am_invV (ci := 3) (As := [.ref a1, .int a4, .int a6]) (lsZ := [some (.ref 23), some (.ref a1), some (.int a4), some (.int a6)]) (st := []) dX5_findThird_64 hX5_wants lkX5_42 ⟨by decide, by decide⟩ (by decide) rfl (by decide) rfl rfl rfl (Nat.le_of_ble_eq_true rfl) rfl (Nat.le_of_ble_eq_true rfl) ⟨Nat.le_refl _, Nat.le_refl _⟩ (am_R.mono wp (fun r h' q => am_R.forget q ⟨rfl, ⟨rfl, ⟨rfl, ⟨rfl, ⟨rfl, ⟨rfl, trivial⟩⟩⟩⟩⟩⟩))
theorem bX5_findThird_67 {E : Nat × (Nat → Int32)} {I : Nat → Nat → Int32} {J : Nat → Nat → Int64} {b : Bool} {a1 : Nat} {a3 : Int32} {a4 : Int32} {a5 : Int32} {a6 : Int32} {x0 : Int32} {Q : Option Value → am_H → Prop} (hs_a1 : am_s a1 = .inl (.int, 7)) (hk_a1 : a1 < 64) (wp : ((x0 = 0 → am_R E mX5_findThird 30 [some (.ref 23), some (.ref a1), none, some (.int a3), some (.int a4), some (.int a5), some (.int (a6 + 1))] [] (hp I J b) 64 64 Q) ∧ (¬ x0 = 0 → am_R E mX5_wants 0 [some (.ref 23), some (.ref a1), some (.int a6), some (.int a3)] [] (hp I J b) 64 64 (fun r h' => am_R E mX5_findThird 78 [some (.ref 23), some (.ref a1), none, some (.int a3), some (.int a4), some (.int a5), some (.int a6)] (r.toList ++ []) h' 64 64 Q)))) : am_R E mX5_findThird 67 [some (.ref 23), some (.ref a1), none, some (.int a3), some (.int a4), some (.int a5), some (.int a6)] [.int x0] (hp I J b) 64 64 Q := by
  refine am_if_eq dX5_findThird_67 (tgt := 90) rfl (fun hc1 => ?_) (fun hc1 => ?_)
  · have wp := wp.1 hc1
    refine am_iinc (ls' := [some (.ref 23), some (.ref a1), none, some (.int a3), some (.int a4), some (.int a5), some (.int (a6 + 1))]) (by decide) rfl rfl rfl dX5_findThird_90 ?_
    refine am_goto dX5_findThird_93 (tgt := 30) rfl ?_
    exact am_R.forget wp ⟨rfl, ⟨rfl, ⟨rfl, ⟨rfl, ⟨rfl, ⟨rfl, trivial⟩⟩⟩⟩⟩⟩
  · have wp := wp.2 hc1
    refine am_aload_n rfl rfl dX5_findThird_70 ?_
    refine am_aload_n rfl rfl dX5_findThird_71 ?_
    refine am_iload rfl dX5_findThird_72 ?_
    refine am_iload_n rfl rfl dX5_findThird_74 ?_
    refine am_invV (ci := 3) (As := [.ref a1, .int a6, .int a3]) (lsZ := [some (.ref 23), some (.ref a1), some (.int a6), some (.int a3)]) (st := []) dX5_findThird_75 hX5_wants lkX5_42 ⟨by decide, by decide⟩ (by decide) rfl (by decide) rfl rfl rfl (Nat.le_of_ble_eq_true rfl) rfl (Nat.le_of_ble_eq_true rfl) ⟨Nat.le_refl _, Nat.le_refl _⟩ (am_R.mono wp (fun r h' q => am_R.forget q ⟨rfl, ⟨rfl, ⟨rfl, ⟨rfl, ⟨rfl, ⟨rfl, trivial⟩⟩⟩⟩⟩⟩))
theorem bX5_findThird_78 {E : Nat × (Nat → Int32)} {I : Nat → Nat → Int32} {J : Nat → Nat → Int64} {b : Bool} {a1 : Nat} {a3 : Int32} {a4 : Int32} {a5 : Int32} {a6 : Int32} {x0 : Int32} {Q : Option Value → am_H → Prop} (hs_a1 : am_s a1 = .inl (.int, 7)) (hk_a1 : a1 < 64) (wp : ((x0 = 0 → am_R E mX5_findThird 30 [some (.ref 23), some (.ref a1), none, some (.int a3), some (.int a4), some (.int a5), some (.int (a6 + 1))] [] (hp I J b) 64 64 Q) ∧ (¬ x0 = 0 → am_R E mX5_note 0 [some (.ref 23), some (.int a3), some (.int a4), some (.int a6)] [] (hp I J b) 64 64 (fun r h' => am_R E mX5_findThird 90 [some (.ref 23), some (.ref a1), none, some (.int a3), some (.int a4), some (.int a5), some (.int a6)] (r.toList ++ []) h' 64 64 Q)))) : am_R E mX5_findThird 78 [some (.ref 23), some (.ref a1), none, some (.int a3), some (.int a4), some (.int a5), some (.int a6)] [.int x0] (hp I J b) 64 64 Q := by
  refine am_if_eq dX5_findThird_78 (tgt := 90) rfl (fun hc1 => ?_) (fun hc1 => ?_)
  · have wp := wp.1 hc1
    refine am_iinc (ls' := [some (.ref 23), some (.ref a1), none, some (.int a3), some (.int a4), some (.int a5), some (.int (a6 + 1))]) (by decide) rfl rfl rfl dX5_findThird_90 ?_
    refine am_goto dX5_findThird_93 (tgt := 30) rfl ?_
    exact am_R.forget wp ⟨rfl, ⟨rfl, ⟨rfl, ⟨rfl, ⟨rfl, ⟨rfl, trivial⟩⟩⟩⟩⟩⟩
  · have wp := wp.2 hc1
    refine am_aload_n rfl rfl dX5_findThird_81 ?_
    refine am_iload_n rfl rfl dX5_findThird_82 ?_
    refine am_iload rfl dX5_findThird_83 ?_
    refine am_iload rfl dX5_findThird_85 ?_
    refine am_invV (ci := 3) (As := [.int a3, .int a4, .int a6]) (lsZ := [some (.ref 23), some (.int a3), some (.int a4), some (.int a6)]) (st := []) dX5_findThird_87 hX5_note lkX5_53 ⟨by decide, by decide⟩ (by decide) rfl (by decide) rfl rfl rfl (Nat.le_of_ble_eq_true rfl) rfl (Nat.le_of_ble_eq_true rfl) ⟨Nat.le_refl _, Nat.le_refl _⟩ (am_R.mono wp (fun r h' q => am_R.forget q ⟨rfl, ⟨rfl, ⟨rfl, ⟨rfl, ⟨rfl, ⟨rfl, trivial⟩⟩⟩⟩⟩⟩))
theorem bX5_findThird_90 {E : Nat × (Nat → Int32)} {I : Nat → Nat → Int32} {J : Nat → Nat → Int64} {b : Bool} {a1 : Nat} {a3 : Int32} {a4 : Int32} {a5 : Int32} {a6 : Int32} {Q : Option Value → am_H → Prop} (hs_a1 : am_s a1 = .inl (.int, 7)) (hk_a1 : a1 < 64) (wp : am_R E mX5_findThird 30 [some (.ref 23), some (.ref a1), none, some (.int a3), some (.int a4), some (.int a5), some (.int (a6 + 1))] [] (hp I J b) 64 64 Q) : am_R E mX5_findThird 90 [some (.ref 23), some (.ref a1), none, some (.int a3), some (.int a4), some (.int a5), some (.int a6)] [] (hp I J b) 64 64 Q := by
  refine am_iinc (ls' := [some (.ref 23), some (.ref a1), none, some (.int a3), some (.int a4), some (.int a5), some (.int (a6 + 1))]) (by decide) rfl rfl rfl dX5_findThird_90 ?_
  refine am_goto dX5_findThird_93 (tgt := 30) rfl ?_
  exact am_R.forget wp ⟨rfl, ⟨rfl, ⟨rfl, ⟨rfl, ⟨rfl, ⟨rfl, trivial⟩⟩⟩⟩⟩⟩
theorem tX5_findThird {r n by' x y M : Nat} {a2 a3 a4 a5 : Int32} {p : Nat → Nat} {F : Nat → Int32} (hr : rowc r) (hC : CH I n) (hR : Rw (I r) p n) (hb : by' = 2 ∨ by' = 3) (eb : a2 = nI by') (ex : a3 = nI x) (ey : a4 = nI y) (eM : a5 = nI M) (hxy : x < y) (hy : y < n) (hM : M ≤ 70) (hF : FdL F by' (tk I n by' p M (64 * x + 8 * y))) (hlt : (tk I n by' p M (64 * x + 8 * y)).length < M) (hw : lm I p x (p y)) (k : ∀ F', FdL F' by' (tk I n by' p M (64 * x + 8 * y + 8)) → Q none (hp (fh I F' (nI (tk I n by' p M (64 * x + 8 * y + 8)).length)) J b)) : am_R E mX5_findThird 0 [some (.ref 23), some (.ref r), some (.int a2), some (.int a3), some (.int a4), some (.int a5), none] [] (hp (fh I F (nI (tk I n by' p M (64 * x + 8 * y)).length)) J b) 64 64 Q := by
  subst eb; subst ex; subst ey; subst eM
  have h7 := hC.2.1.2
  have h0 : I 4 0 = nI n := hC.1
  have rw' : ∀ (F : Nat → Int32) (c : Int32), Rw (fh I F c r) p n := fun F c => by rw [fh_r I hr]; exact hR
  refine bX5_findThird_0 hr.s hr.k (ne_br (n := by') (m := 2) rfl rfl (by omega) (by omega) (fun b2 => ?_) (fun b2 => ?_))
  · -- rings of two
    subst b2
    refine tX5_wants (I := fh I F _) hr (hC.fh F _) (rw' F _) rfl rfl (by omega) (by omega) (fun q => ?_) (fun q => ?_)
    · refine bX5_findThird_13 (z01 rfl (tX5_note (by omega) ?_))
      have hwc : wc I n 2 p (64 * x + 8 * y) := ⟨by omega, ⟨by omega, by omega, by omega⟩, Or.inl ⟨rfl, by omega, by rw [show (64 * x + 8 * y) / 64 = x by omega, show (64 * x + 8 * y) / 8 % 8 = y by omega]; exact ⟨hw, q⟩⟩⟩
      have e1 := tk_add hlt hwc
      have e2 : tk I n 2 p M (64 * x + 8 * y + 8) = tk I n 2 p M (64 * x + 8 * y) ++ [64 * x + 8 * y] := by
        rw [← e1]
        exact tk_skip (T := 64 * x + 8 * y + 1) 7 (fun c q1 q2 z => by
          rcases z.2.2 with ⟨-, v, -⟩ | ⟨v, -⟩
          · omega
          · exact v rfl)
      have hF2 := FdL.add (c := 64 * x + 8 * y) hF
      rw [if_pos rfl, show (64 * x + 8 * y) / 64 = x by omega, show (64 * x + 8 * y) / 8 % 8 = y by omega] at hF2
      refine bX5_findThird_24 ?_
      have k2 := k _ (by rw [e2]; exact hF2)
      rw [e2, List.length_append] at k2
      exact k2
    · refine bX5_findThird_13 (z00 rfl ?_)
      have e2 : tk I n 2 p M (64 * x + 8 * y + 8) = tk I n 2 p M (64 * x + 8 * y) := tk_skip 8 (fun c q1 q2 z => by
        rcases z.2.2 with ⟨-, v, w⟩ | ⟨v, -⟩
        · rw [show c / 64 = x by omega, show c / 8 % 8 = y by omega] at w
          exact q w.2
        · exact v rfl)
      rw [e2] at k
      exact k F hF
  · -- rings of three
    have b3 : by' = 3 := by omega
    subst b3
    have key : ∀ j c F, c + j = 8 → x < c → FdL F 3 (tk I n 3 p M (64 * x + 8 * y + c)) → am_R E mX5_findThird 30 [some (.ref 23), some (.ref r), none, some (.int (nI x)), some (.int (nI y)), some (.int (nI M)), some (.int (nI c))] [] (hp (fh I F (nI (tk I n 3 p M (64 * x + 8 * y + c)).length)) J b) 64 64 Q := by
      intro j
      induction j with
      | zero =>
        intro c F hc hxc hF
        have e : c = 8 := by omega
        subst e
        exact bX5_findThird_30 hr.s hr.k (le_br (n := n) (m := 8) h0 rfl (by omega) (by omega) (fun _ => k F hF) (fun h => by omega))
      | succ j ih =>
        intro c F hc hxc hF
        have next : ¬ wc I n 3 p (64 * x + 8 * y + c) → am_R E mX5_findThird 30 [some (.ref 23), some (.ref r), none, some (.int (nI x)), some (.int (nI y)), some (.int (nI M)), some (.int (nI c + 1))] [] (hp (fh I F (nI (tk I n 3 p M (64 * x + 8 * y + c)).length)) J b) 64 64 Q := by
          intro hn
          have e : tk I n 3 p M (64 * x + 8 * y + (c + 1)) = tk I n 3 p M (64 * x + 8 * y + c) := tk_skip (T := 64 * x + 8 * y + c) 1 (fun c' q1 q2 => by rw [show c' = 64 * x + 8 * y + c by omega]; exact hn)
          have := ih (c + 1) F (by omega) (by omega) (by rw [e]; exact hF)
          rw [e] at this
          rw [n1]; exact this
        have d1 : (64 * x + 8 * y + c) / 64 = x := by omega
        have d2 : (64 * x + 8 * y + c) / 8 % 8 = y := by omega
        have d3 : (64 * x + 8 * y + c) % 8 = c := by omega
        refine bX5_findThird_30 hr.s hr.k (le_br (n := n) (m := c) h0 rfl (by omega) (by omega) (fun hnc => ?_) (fun hcn => le_br (n := M) (m := (tk I n 3 p M (64 * x + 8 * y + c)).length) rfl rfl (by omega) (by unfold tk; rw [List.length_take]; omega) (fun hfull => ?_) (fun hmore => eq_br (n := c) (m := y) rfl rfl (by omega) (by omega) (fun hcy => ?_) (fun hcy => ?_))))
        · have e : tk I n 3 p M (64 * x + 8 * y + 8) = tk I n 3 p M (64 * x + 8 * y + c) := by
            rw [show 64 * x + 8 * y + 8 = (64 * x + 8 * y + c) + (8 - c) by omega]
            exact tk_skip (8 - c) (fun c' q1 q2 z => by
              rcases z.2.2 with ⟨v, -⟩ | ⟨-, v, -⟩
              · cases v
              · omega)
          rw [e] at k
          exact k F hF
        · have e : tk I n 3 p M (64 * x + 8 * y + 8) = tk I n 3 p M (64 * x + 8 * y + c) := by
            rw [show 64 * x + 8 * y + 8 = (64 * x + 8 * y + c) + (8 - c) by omega]
            exact tk_full (8 - c) hfull
          rw [e] at k
          exact k F hF
        · exact next (fun z => by
            rcases z.2.2 with ⟨v, -⟩ | ⟨-, v, -⟩
            · cases v
            · omega)
        · refine tX5_wants (I := fh I F _) hr (hC.fh F _) (rw' F _) rfl rfl (by omega) (by omega) (fun q => ?_) (fun q => ?_)
          · refine bX5_findThird_67 hr.s hr.k (z01 rfl (tX5_wants (I := fh I F _) hr (hC.fh F _) (rw' F _) rfl rfl (by omega) (by omega) (fun q2 => ?_) (fun q2 => ?_)))
            · refine bX5_findThird_78 hr.s hr.k (z01 rfl (tX5_note (by omega) ?_))
              have hwc : wc I n 3 p (64 * x + 8 * y + c) := ⟨by omega, ⟨by omega, by omega, by omega⟩, Or.inr ⟨by omega, ⟨by omega, by omega, by omega⟩, by rw [d1, d2, d3]; exact ⟨hw, q, q2⟩⟩⟩
              have e1 := tk_add hmore hwc
              have hF2 := FdL.add (c := 64 * x + 8 * y + c) hF
              rw [if_neg (by omega), d1, d2, d3, ← e1] at hF2
              refine bX5_findThird_90 hr.s hr.k ?_
              have := ih (c + 1) _ (by omega) (by omega) hF2
              rw [show 64 * x + 8 * y + (c + 1) = 64 * x + 8 * y + c + 1 by omega, e1, List.length_append] at this
              rw [n1]; exact this
            · exact bX5_findThird_78 hr.s hr.k (z00 rfl (next (fun z => by
                rcases z.2.2 with ⟨v, -⟩ | ⟨-, -, v⟩
                · cases v
                · rw [d1, d2, d3] at v; exact q2 v.2.2)))
          · exact bX5_findThird_67 hr.s hr.k (z00 rfl (next (fun z => by
              rcases z.2.2 with ⟨v, -⟩ | ⟨-, -, v⟩
              · cases v
              · rw [d1, d2, d3] at v; exact q v.2.1)))
    have e : tk I n 3 p M (64 * x + 8 * y + (x + 1)) = tk I n 3 p M (64 * x + 8 * y) := tk_skip (x + 1) (fun c' q1 q2 z => by
      rcases z.2.2 with ⟨v, -⟩ | ⟨-, v, -⟩
      · cases v
      · omega)
    have := key (8 - (x + 1)) (x + 1) F (by omega) (by omega) (by rw [e]; exact hF)
    rw [e] at this
    rw [n1]; exact this
theorem bX5_find_0 {E : Nat × (Nat → Int32)} {I : Nat → Nat → Int32} {J : Nat → Nat → Int64} {b : Bool} {a1 : Nat} {a2 : Int32} {a3 : Int32} {Q : Option Value → am_H → Prop} (hs_a1 : am_s a1 = .inl (.int, 7)) (hk_a1 : a1 < 64) (wp : ((¬ a2 = 0 → am_R E mX5_find 13 [some (.ref 23), some (.ref a1), some (.int a2), some (.int a3), some (.int 0), none] [] (hp (u2 I 23 3 0) J b) 64 64 Q) ∧ (a2 = 0 → Q none (hp (u2 I 23 3 0) J b)))) : am_R E mX5_find 0 [some (.ref 23), some (.ref a1), some (.int a2), some (.int a3), none, none] [] (hp I J b) 64 64 Q := by
  refine am_aload_n rfl rfl dX5_find_0 ?_
  refine am_iconst 0 rfl dX5_find_1 ?_
  refine am_putI dX5_find_2 flX5_46 (Or.inl rfl) rfl rfl (by decide) ?_
  refine am_iload_n rfl rfl dX5_find_5 ?_
  refine am_if_ne dX5_find_6 (tgt := 10) rfl (fun hc1 => ?_) (fun hc1 => ?_)
  · have wp := wp.1 hc1
    refine am_iconst 0 rfl dX5_find_10 ?_
    refine am_istore (ls' := [some (.ref 23), some (.ref a1), some (.int a2), some (.int a3), some (.int 0), none]) (by decide) rfl rfl dX5_find_11 ?_
    exact am_R.forget wp ⟨rfl, ⟨rfl, ⟨rfl, ⟨rfl, ⟨rfl, trivial⟩⟩⟩⟩⟩
  · have wp := wp.2 hc1
    exact am_vret dX5_find_9 rfl wp
theorem bX5_find_13 {E : Nat × (Nat → Int32)} {I : Nat → Nat → Int32} {J : Nat → Nat → Int64} {b : Bool} {a1 : Nat} {a2 : Int32} {a3 : Int32} {a4 : Int32} {Q : Option Value → am_H → Prop} (hs_a1 : am_s a1 = .inl (.int, 7)) (hk_a1 : a1 < 64) (wp : (((I 4 0) ≤ a4 → Q none (hp I J b)) ∧ (¬ (I 4 0) ≤ a4 → am_R E mX5_find 31 [some (.ref 23), some (.ref a1), some (.int a2), some (.int a3), some (.int a4), some (.int (a4 + 1))] [] (hp I J b) 64 64 Q))) : am_R E mX5_find 13 [some (.ref 23), some (.ref a1), some (.int a2), some (.int a3), some (.int a4), none] [] (hp I J b) 64 64 Q := by
  refine am_iload rfl dX5_find_13 ?_
  refine am_aload_n rfl rfl dX5_find_15 ?_
  refine am_getA (r := 4) dX5_find_16 flX5_18 (Or.inl ⟨_, rfl⟩) rfl (by decide) rfl ?_
  refine am_getI dX5_find_19 flX5_22 (Or.inl rfl) rfl (by decide) ?_
  refine am_icmp_ge dX5_find_22 (tgt := 86) rfl (fun hc1 => ?_) (fun hc1 => ?_)
  · have wp := wp.1 hc1
    exact am_vret dX5_find_86 rfl wp
  · have wp := wp.2 hc1
    refine am_iload rfl dX5_find_25 ?_
    refine am_iconst 1 rfl dX5_find_27 ?_
    refine am_iadd dX5_find_28 ?_
    refine am_istore (ls' := [some (.ref 23), some (.ref a1), some (.int a2), some (.int a3), some (.int a4), some (.int (a4 + 1))]) (by decide) rfl rfl dX5_find_29 ?_
    exact am_R.forget wp ⟨rfl, ⟨rfl, ⟨rfl, ⟨rfl, ⟨rfl, ⟨rfl, trivial⟩⟩⟩⟩⟩⟩
theorem bX5_find_31 {E : Nat × (Nat → Int32)} {I : Nat → Nat → Int32} {J : Nat → Nat → Int64} {b : Bool} {a1 : Nat} {a2 : Int32} {a3 : Int32} {a4 : Int32} {a5 : Int32} {Q : Option Value → am_H → Prop} (hs_a1 : am_s a1 = .inl (.int, 7)) (hk_a1 : a1 < 64) (wp : (((I 4 0) ≤ a5 → am_R E mX5_find 13 [some (.ref 23), some (.ref a1), some (.int a2), some (.int a3), some (.int (a4 + 1)), none] [] (hp I J b) 64 64 Q) ∧ (¬ (I 4 0) ≤ a5 → ((a3 ≤ (I 23 3) → am_R E mX5_find 31 [some (.ref 23), some (.ref a1), some (.int a2), some (.int a3), some (.int a4), some (.int (a5 + 1))] [] (hp I J b) 64 64 Q) ∧ (¬ a3 ≤ (I 23 3) → am_R E mX5_wants 0 [some (.ref 23), some (.ref a1), some (.int a4), some (.int a5)] [] (hp I J b) 64 64 (fun r h' => am_R E mX5_find 60 [some (.ref 23), some (.ref a1), some (.int a2), some (.int a3), some (.int a4), some (.int a5)] (r.toList ++ []) h' 64 64 Q)))))) : am_R E mX5_find 31 [some (.ref 23), some (.ref a1), some (.int a2), some (.int a3), some (.int a4), some (.int a5)] [] (hp I J b) 64 64 Q := by
  refine am_iload rfl dX5_find_31 ?_
  refine am_aload_n rfl rfl dX5_find_33 ?_
  refine am_getA (r := 4) dX5_find_34 flX5_18 (Or.inl ⟨_, rfl⟩) rfl (by decide) rfl ?_
  refine am_getI dX5_find_37 flX5_22 (Or.inl rfl) rfl (by decide) ?_
  refine am_icmp_ge dX5_find_40 (tgt := 80) rfl (fun hc1 => ?_) (fun hc1 => ?_)
  · have wp := wp.1 hc1
    refine am_iinc (ls' := [some (.ref 23), some (.ref a1), some (.int a2), some (.int a3), some (.int (a4 + 1)), some (.int a5)]) (by decide) rfl rfl rfl dX5_find_80 ?_
    refine am_goto dX5_find_83 (tgt := 13) rfl ?_
    exact am_R.forget wp ⟨rfl, ⟨rfl, ⟨rfl, ⟨rfl, ⟨rfl, trivial⟩⟩⟩⟩⟩
  · have wp := wp.2 hc1
    refine am_aload_n rfl rfl dX5_find_43 ?_
    refine am_getI dX5_find_44 flX5_46 (Or.inl rfl) rfl (by decide) ?_
    refine am_iload_n rfl rfl dX5_find_47 ?_
    refine am_icmp_ge dX5_find_48 (tgt := 74) rfl (fun hc2 => ?_) (fun hc2 => ?_)
    · have wp := wp.1 hc2
      refine am_iinc (ls' := [some (.ref 23), some (.ref a1), some (.int a2), some (.int a3), some (.int a4), some (.int (a5 + 1))]) (by decide) rfl rfl rfl dX5_find_74 ?_
      refine am_goto dX5_find_77 (tgt := 31) rfl ?_
      exact am_R.forget wp ⟨rfl, ⟨rfl, ⟨rfl, ⟨rfl, ⟨rfl, ⟨rfl, trivial⟩⟩⟩⟩⟩⟩
    · have wp := wp.2 hc2
      refine am_aload_n rfl rfl dX5_find_51 ?_
      refine am_aload_n rfl rfl dX5_find_52 ?_
      refine am_iload rfl dX5_find_53 ?_
      refine am_iload rfl dX5_find_55 ?_
      refine am_invV (ci := 3) (As := [.ref a1, .int a4, .int a5]) (lsZ := [some (.ref 23), some (.ref a1), some (.int a4), some (.int a5)]) (st := []) dX5_find_57 hX5_wants lkX5_42 ⟨by decide, by decide⟩ (by decide) rfl (by decide) rfl rfl rfl (Nat.le_of_ble_eq_true rfl) rfl (Nat.le_of_ble_eq_true rfl) ⟨Nat.le_refl _, Nat.le_refl _⟩ (am_R.mono wp (fun r h' q => am_R.forget q ⟨rfl, ⟨rfl, ⟨rfl, ⟨rfl, ⟨rfl, ⟨rfl, trivial⟩⟩⟩⟩⟩⟩))
theorem bX5_find_60 {E : Nat × (Nat → Int32)} {I : Nat → Nat → Int32} {J : Nat → Nat → Int64} {b : Bool} {a1 : Nat} {a2 : Int32} {a3 : Int32} {a4 : Int32} {a5 : Int32} {x0 : Int32} {Q : Option Value → am_H → Prop} (hs_a1 : am_s a1 = .inl (.int, 7)) (hk_a1 : a1 < 64) (wp : ((x0 = 0 → am_R E mX5_find 31 [some (.ref 23), some (.ref a1), some (.int a2), some (.int a3), some (.int a4), some (.int (a5 + 1))] [] (hp I J b) 64 64 Q) ∧ (¬ x0 = 0 → am_R E mX5_findThird 0 [some (.ref 23), some (.ref a1), some (.int a2), some (.int a4), some (.int a5), some (.int a3), none] [] (hp I J b) 64 64 (fun r h' => am_R E mX5_find 74 [some (.ref 23), some (.ref a1), some (.int a2), some (.int a3), some (.int a4), some (.int a5)] (r.toList ++ []) h' 64 64 Q)))) : am_R E mX5_find 60 [some (.ref 23), some (.ref a1), some (.int a2), some (.int a3), some (.int a4), some (.int a5)] [.int x0] (hp I J b) 64 64 Q := by
  refine am_if_eq dX5_find_60 (tgt := 74) rfl (fun hc1 => ?_) (fun hc1 => ?_)
  · have wp := wp.1 hc1
    refine am_iinc (ls' := [some (.ref 23), some (.ref a1), some (.int a2), some (.int a3), some (.int a4), some (.int (a5 + 1))]) (by decide) rfl rfl rfl dX5_find_74 ?_
    refine am_goto dX5_find_77 (tgt := 31) rfl ?_
    exact am_R.forget wp ⟨rfl, ⟨rfl, ⟨rfl, ⟨rfl, ⟨rfl, ⟨rfl, trivial⟩⟩⟩⟩⟩⟩
  · have wp := wp.2 hc1
    refine am_aload_n rfl rfl dX5_find_63 ?_
    refine am_aload_n rfl rfl dX5_find_64 ?_
    refine am_iload_n rfl rfl dX5_find_65 ?_
    refine am_iload rfl dX5_find_66 ?_
    refine am_iload rfl dX5_find_68 ?_
    refine am_iload_n rfl rfl dX5_find_70 ?_
    refine am_invV (ci := 3) (As := [.ref a1, .int a2, .int a4, .int a5, .int a3]) (lsZ := [some (.ref 23), some (.ref a1), some (.int a2), some (.int a4), some (.int a5), some (.int a3), none]) (st := []) dX5_find_71 hX5_findThird lkX5_49 ⟨by decide, by decide⟩ (by decide) rfl (by decide) rfl rfl rfl (Nat.le_of_ble_eq_true rfl) rfl (Nat.le_of_ble_eq_true rfl) ⟨Nat.le_refl _, Nat.le_refl _⟩ (am_R.mono wp (fun r h' q => am_R.forget q ⟨rfl, ⟨rfl, ⟨rfl, ⟨rfl, ⟨rfl, ⟨rfl, trivial⟩⟩⟩⟩⟩⟩))
theorem bX5_find_74 {E : Nat × (Nat → Int32)} {I : Nat → Nat → Int32} {J : Nat → Nat → Int64} {b : Bool} {a1 : Nat} {a2 : Int32} {a3 : Int32} {a4 : Int32} {a5 : Int32} {Q : Option Value → am_H → Prop} (hs_a1 : am_s a1 = .inl (.int, 7)) (hk_a1 : a1 < 64) (wp : am_R E mX5_find 31 [some (.ref 23), some (.ref a1), some (.int a2), some (.int a3), some (.int a4), some (.int (a5 + 1))] [] (hp I J b) 64 64 Q) : am_R E mX5_find 74 [some (.ref 23), some (.ref a1), some (.int a2), some (.int a3), some (.int a4), some (.int a5)] [] (hp I J b) 64 64 Q := by
  refine am_iinc (ls' := [some (.ref 23), some (.ref a1), some (.int a2), some (.int a3), some (.int a4), some (.int (a5 + 1))]) (by decide) rfl rfl rfl dX5_find_74 ?_
  refine am_goto dX5_find_77 (tgt := 31) rfl ?_
  exact am_R.forget wp ⟨rfl, ⟨rfl, ⟨rfl, ⟨rfl, ⟨rfl, ⟨rfl, trivial⟩⟩⟩⟩⟩⟩
theorem tX5_find {r n by' M : Nat} {a2 a3 : Int32} {p : Nat → Nat} (hr : rowc r) (hC : CH I n) (hR : Rw (I r) p n) (hb : by' = 0 ∨ by' = 2 ∨ by' = 3) (eb : a2 = nI by') (eM : a3 = nI M) (hM : M ≤ 70) (k : ∀ F', FdL F' by' (tk I n by' p M 448) → Q none (hp (fh I F' (nI (tk I n by' p M 448).length)) J b)) : am_R E mX5_find 0 [some (.ref 23), some (.ref r), some (.int a2), some (.int a3), none, none] [] (hp I J b) 64 64 Q := by
  subst eb; subst eM
  have h7 := hC.2.1.2
  have h0 : I 4 0 = nI n := hC.1
  have rw' : ∀ (F : Nat → Int32) (c : Int32), Rw (fh I F c r) p n := fun F c => by rw [fh_r I hr]; exact hR
  have e0 : u2 I 23 3 0 = fh I (I 25) (nI 0) := by unfold fh; rw [u1_self]; rfl
  have t0 : tk I n by' p M 0 = [] := by simp [tk, wl]
  have F0 : FdL (I 25) by' (tk I n by' p M 0) := by rw [t0]; intro i c h; simp at h
  refine bX5_find_0 hr.s hr.k (ne_br (n := by') (m := 0) rfl rfl (by omega) (by omega) (fun b0 => ?_) (fun b0 => ?_))
  · have e : tk I n by' p M 448 = [] := by
      rw [← t0]
      exact tk_skip (T := 0) 448 (fun c _ _ z => z.1 b0)
    rw [e] at k
    rw [e0]
    exact k (I 25) (by intro i c h; simp at h)
  · rw [e0]
    have outer : ∀ j x F, x + j = n → FdL F by' (tk I n by' p M (64 * x)) → am_R E mX5_find 13 [some (.ref 23), some (.ref r), some (.int (nI by')), some (.int (nI M)), some (.int (nI x)), none] [] (hp (fh I F (nI (tk I n by' p M (64 * x)).length)) J b) 64 64 Q := by
      intro j
      induction j with
      | zero =>
        intro x F hx hF
        have e : tk I n by' p M 448 = tk I n by' p M (64 * x) := by
          rw [show 448 = 64 * x + (448 - 64 * x) by omega]
          exact tk_skip _ (fun c q1 q2 z => by have := z.2.1.2.1; omega)
        rw [e] at k
        exact bX5_find_13 hr.s hr.k (le_br (n := n) (m := x) h0 rfl (by omega) (by omega) (fun _ => k F hF) (fun h => by omega))
      | succ j ih =>
        intro x F hx hF
        refine bX5_find_13 hr.s hr.k (le_br (n := n) (m := x) h0 rfl (by omega) (by omega) (fun h => by omega) (fun hxn => ?_))
        have inner : ∀ i y F, y + i = n → x < y → FdL F by' (tk I n by' p M (64 * x + 8 * y)) → am_R E mX5_find 31 [some (.ref 23), some (.ref r), some (.int (nI by')), some (.int (nI M)), some (.int (nI x)), some (.int (nI y))] [] (hp (fh I F (nI (tk I n by' p M (64 * x + 8 * y)).length)) J b) 64 64 Q := by
          intro i
          induction i with
          | zero =>
            intro y F hy hxy hF
            have e : tk I n by' p M (64 * (x + 1)) = tk I n by' p M (64 * x + 8 * y) := by
              rw [show 64 * (x + 1) = 64 * x + 8 * y + (64 - 8 * y) by omega]
              exact tk_skip _ (fun c q1 q2 z => by
                have := z.2.1
                have a1 : c / 64 = x := by omega
                have a2 : c / 8 / 8 = x := by rw [Nat.div_div_eq_div_mul]; exact a1
                omega)
            refine bX5_find_31 hr.s hr.k (le_br (n := n) (m := y) h0 rfl (by omega) (by omega) (fun _ => ?_) (fun h => by omega))
            have := ih (x + 1) F (by omega) (by rw [e]; exact hF)
            rw [e] at this
            rw [n1]; exact this
          | succ i ihi =>
            intro y F hy hxy hF
            have hlen : (tk I n by' p M (64 * x + 8 * y)).length ≤ M := by unfold tk; rw [List.length_take]; omega
            have skip : tk I n by' p M (64 * x + 8 * (y + 1)) = tk I n by' p M (64 * x + 8 * y) → am_R E mX5_find 31 [some (.ref 23), some (.ref r), some (.int (nI by')), some (.int (nI M)), some (.int (nI x)), some (.int (nI y + 1))] [] (hp (fh I F (nI (tk I n by' p M (64 * x + 8 * y)).length)) J b) 64 64 Q := by
              intro e
              have := ihi (y + 1) F (by omega) (by omega) (by rw [e]; exact hF)
              rw [e] at this
              rw [n1]; exact this
            have e8 : 64 * x + 8 * (y + 1) = 64 * x + 8 * y + 8 := by omega
            refine bX5_find_31 hr.s hr.k (le_br (n := n) (m := y) h0 rfl (by omega) (by omega) (fun h => by omega) (fun hyn => le_br (n := M) (m := (tk I n by' p M (64 * x + 8 * y)).length) rfl rfl (by omega) (by omega) (fun hfull => ?_) (fun hmore => ?_)))
            · exact skip (by rw [e8]; exact tk_full 8 hfull)
            · refine tX5_wants (I := fh I F _) hr (hC.fh F _) (rw' F _) rfl rfl (by omega) (by omega) (fun q => ?_) (fun q => ?_)
              · refine bX5_find_60 hr.s hr.k (z01 rfl ?_)
                refine tX5_findThird hr hC hR (by omega) rfl rfl rfl rfl hxy hyn hM hF hmore q (fun F' hF' => ?_)
                refine bX5_find_74 hr.s hr.k ?_
                rw [← e8] at hF'
                have := ihi (y + 1) F' (by omega) (by omega) hF'
                rw [e8] at this
                rw [n1]; exact this
              · refine bX5_find_60 hr.s hr.k (z00 rfl (skip ?_))
                rw [e8]
                exact tk_skip 8 (fun c q1 q2 z => by
                  rcases z.2.2 with ⟨-, -, w⟩ | ⟨-, -, w⟩
                  · rw [show c / 64 = x by omega, show c / 8 % 8 = y by omega] at w; exact q w.1
                  · rw [show c / 64 = x by omega, show c / 8 % 8 = y by omega] at w; exact q w.1)
        have e : tk I n by' p M (64 * x + 8 * (x + 1)) = tk I n by' p M (64 * x) := tk_skip _ (fun c q1 q2 z => by have := z.2.1; omega)
        have := inner (n - (x + 1)) (x + 1) F (by omega) (by omega) (by rw [e]; exact hF)
        rw [e] at this
        rw [n1]; exact this
    have := outer n 0 (I 25) (by omega) F0
    rw [show 64 * 0 = 0 from rfl, t0] at this
    exact this
theorem bX5_passFound_0 {E : Nat × (Nat → Int32)} {I : Nat → Nat → Int32} {J : Nat → Nat → Int64} {b : Bool} {a1 : Nat} {a2 : Int32} {Q : Option Value → am_H → Prop} (hs_a1 : am_s a1 = .inl (.int, 7)) (hk_a1 : a1 < 64) (wp : ∃ j1, (a2 * 3) = nI j1 ∧ j1 < 210 ∧ ∃ j2, ((a2 * 3) + 1) = nI j2 ∧ j2 < 210 ∧ ∃ j3, ((a2 * 3) + 2) = nI j3 ∧ j3 < 210 ∧ am_R E mX5_pass 0 [some (.ref a1), some (.int (I 25 j1)), some (.int (I 25 j2)), some (.int (I 25 j3)), none] [] (hp I J b) 64 64 (fun r h' => am_R E mX5_passFound 32 [none, none, none] (r.toList ++ []) h' 64 64 Q)) : am_R E mX5_passFound 0 [some (.ref 23), some (.ref a1), some (.int a2)] [] (hp I J b) 64 64 Q := by
  refine am_aload_n rfl rfl dX5_passFound_0 ?_
  refine am_aload_n rfl rfl dX5_passFound_1 ?_
  refine am_getA (r := 25) dX5_passFound_2 flX5_15 (Or.inr ⟨_, rfl⟩) rfl (by decide) rfl ?_
  refine am_iload_n rfl rfl dX5_passFound_5 ?_
  refine am_iconst 3 rfl dX5_passFound_6 ?_
  refine am_imul dX5_passFound_7 ?_
  obtain ⟨j1, e1, w1, wp⟩ := wp
  refine am_ialdN (j := j1) dX5_passFound_8 rfl (by decide) e1 w1 (by decide) ?_
  refine am_aload_n rfl rfl dX5_passFound_9 ?_
  refine am_getA (r := 25) dX5_passFound_10 flX5_15 (Or.inr ⟨_, rfl⟩) rfl (by decide) rfl ?_
  refine am_iload_n rfl rfl dX5_passFound_13 ?_
  refine am_iconst 3 rfl dX5_passFound_14 ?_
  refine am_imul dX5_passFound_15 ?_
  refine am_iconst 1 rfl dX5_passFound_16 ?_
  refine am_iadd dX5_passFound_17 ?_
  obtain ⟨j2, e2, w2, wp⟩ := wp
  refine am_ialdN (j := j2) dX5_passFound_18 rfl (by decide) e2 w2 (by decide) ?_
  refine am_aload_n rfl rfl dX5_passFound_19 ?_
  refine am_getA (r := 25) dX5_passFound_20 flX5_15 (Or.inr ⟨_, rfl⟩) rfl (by decide) rfl ?_
  refine am_iload_n rfl rfl dX5_passFound_23 ?_
  refine am_iconst 3 rfl dX5_passFound_24 ?_
  refine am_imul dX5_passFound_25 ?_
  refine am_iconst 2 rfl dX5_passFound_26 ?_
  refine am_iadd dX5_passFound_27 ?_
  obtain ⟨j3, e3, w3, wp⟩ := wp
  refine am_ialdN (j := j3) dX5_passFound_28 rfl (by decide) e3 w3 (by decide) ?_
  refine am_invS (As := [.ref a1, .int (I 25 j1), .int (I 25 j2), .int (I 25 j3)]) (lsZ := [some (.ref a1), some (.int (I 25 j1)), some (.int (I 25 j2)), some (.int (I 25 j3)), none]) (st := []) dX5_passFound_29 hX5_pass lkX5_57 ⟨by decide, by decide⟩ rfl rfl (Nat.le_of_ble_eq_true rfl) rfl (Nat.le_of_ble_eq_true rfl) ⟨Nat.le_refl _, Nat.le_refl _⟩ (am_R.mono wp (fun r h' q => am_R.forget q trivial))
theorem bX5_passFound_32 {E : Nat × (Nat → Int32)} {I : Nat → Nat → Int32} {J : Nat → Nat → Int64} {b : Bool}  {Q : Option Value → am_H → Prop}  (wp : Q none (hp I J b)) : am_R E mX5_passFound 32 [none, none, none] [] (hp I J b) 64 64 Q := by
  exact am_vret dX5_passFound_32 rfl wp
theorem tX5_passFound {r n by' i c : Nat} {a2 : Int32} {p : Nat → Nat} {F : Nat → Int32} {cc : Int32} (hr : rowc r) (hn : n ≤ 7) (ei : a2 = nI i) (hi : i < 70) (hF : F (3 * i) = nI (c / 64) ∧ F (3 * i + 1) = nI (c / 8 % 8) ∧ F (3 * i + 2) = (if by' = 2 then -1 else nI (c % 8))) (hw : wc I n by' p c) (k : Q none (hp (fh (u1 I r (if by' = 2 then sw2 (I r) (c / 64) (c / 8 % 8) else sw3 (I r) (c / 64) (c / 8 % 8) (c % 8))) F cc) J b)) : am_R E mX5_passFound 0 [some (.ref 23), some (.ref r), some (.int a2)] [] (hp (fh I F cc) J b) 64 64 Q := by
  subst ei
  have hm1 : ∀ e : Nat, e < 8 → ¬ nI e = (-1 : Int32) := by decide
  have e1 : nI i * 3 = nI (3 * i) := by rw [show (3 : Int32) = nI 3 from rfl, pk_mul, Nat.mul_comm]
  have g : ∀ j, fh I F cc 25 j = F j := fun j => rfl
  obtain ⟨q1, ⟨q2, q3, q4⟩, q5⟩ := hw
  refine bX5_passFound_0 hr.s hr.k ⟨3 * i, e1, by omega, 3 * i + 1, by rw [e1, n1], by omega, 3 * i + 2, by rw [e1, show (2 : Int32) = nI 2 from rfl, nI_add], by omega, ?_⟩
  rw [g, g, g]
  refine tX5_pass hr hF.1 (by omega) hF.2.1 (by omega) ?_ (fun e => ?_) (fun z e hz => ?_)
  · rcases q5 with ⟨e, -, -⟩ | ⟨e, ⟨a1, a2, a3⟩, -⟩
    · exact Or.inl (by rw [hF.2.2, if_pos e])
    · exact Or.inr ⟨c % 8, by rw [hF.2.2, if_neg e], by omega, by omega⟩
  · refine bX5_passFound_32 ?_
    rw [hF.2.2] at e
    have b2 : by' = 2 := by
      by_cases q : by' = 2
      · exact q
      · rw [if_neg q] at e; exact absurd e (hm1 _ (by omega))
    rw [if_pos b2] at k
    rw [fh_u1 I hr, fh_r I hr]
    exact k
  · refine bX5_passFound_32 ?_
    rw [hF.2.2] at e
    have b2 : by' ≠ 2 := by
      intro q
      rw [if_pos q] at e; exact absurd e.symm (hm1 _ (by omega))
    rw [if_neg b2] at e k
    have ez : c % 8 = z := (nI_eq (by omega) (by omega)).mp e
    rw [fh_u1 I hr, fh_r I hr, ← ez]
    exact k
theorem fw_wl {n by' : Nat} {p : Nat → Nat} : fw I n by' p = (wl I n by' p 448).head? := by
  unfold fw wl
  rw [List.head?_filter]
theorem bX5_passAll_0 {E : Nat × (Nat → Int32)} {I : Nat → Nat → Int32} {J : Nat → Nat → Int64} {b : Bool} {a1 : Nat} {a2 : Int32} {Q : Option Value → am_H → Prop} (hs_a1 : am_s a1 = .inl (.int, 7)) (hk_a1 : a1 < 64) (wp : am_R E mX5_passAll 2 [some (.ref 23), some (.ref a1), some (.int a2), some (.int 0)] [] (hp I J b) 64 64 Q) : am_R E mX5_passAll 0 [some (.ref 23), some (.ref a1), some (.int a2), none] [] (hp I J b) 64 64 Q := by
  refine am_iconst 0 rfl dX5_passAll_0 ?_
  refine am_istore_n (ls' := [some (.ref 23), some (.ref a1), some (.int a2), some (.int 0)]) rfl (by decide) rfl rfl dX5_passAll_1 ?_
  exact am_R.forget wp ⟨rfl, ⟨rfl, ⟨rfl, ⟨rfl, trivial⟩⟩⟩⟩
theorem bX5_passAll_2 {E : Nat × (Nat → Int32)} {I : Nat → Nat → Int32} {J : Nat → Nat → Int64} {b : Bool} {a1 : Nat} {a2 : Int32} {a3 : Int32} {Q : Option Value → am_H → Prop} (hs_a1 : am_s a1 = .inl (.int, 7)) (hk_a1 : a1 < 64) (wp : ((63 ≤ a3 → Q (some (.int 63)) (hp I J b)) ∧ (¬ 63 ≤ a3 → am_R E mX5_find 0 [some (.ref 23), some (.ref a1), some (.int a2), some (.int 1), none, none] [] (hp I J b) 64 64 (fun r h' => am_R E mX5_passAll 15 [some (.ref 23), some (.ref a1), some (.int a2), some (.int a3)] (r.toList ++ []) h' 64 64 Q)))) : am_R E mX5_passAll 2 [some (.ref 23), some (.ref a1), some (.int a2), some (.int a3)] [] (hp I J b) 64 64 Q := by
  refine am_iload_n rfl rfl dX5_passAll_2 ?_
  refine am_bipush 63 rfl dX5_passAll_3 ?_
  refine am_icmp_ge dX5_passAll_5 (tgt := 36) rfl (fun hc1 => ?_) (fun hc1 => ?_)
  · have wp := wp.1 hc1
    refine am_bipush 63 rfl dX5_passAll_36 ?_
    exact am_iret dX5_passAll_38 rfl rfl wp
  · have wp := wp.2 hc1
    refine am_aload_n rfl rfl dX5_passAll_8 ?_
    refine am_aload_n rfl rfl dX5_passAll_9 ?_
    refine am_iload_n rfl rfl dX5_passAll_10 ?_
    refine am_iconst 1 rfl dX5_passAll_11 ?_
    refine am_invV (ci := 3) (As := [.ref a1, .int a2, .int 1]) (lsZ := [some (.ref 23), some (.ref a1), some (.int a2), some (.int 1), none, none]) (st := []) dX5_passAll_12 hX5_find lkX5_61 ⟨by decide, by decide⟩ (by decide) rfl (by decide) rfl rfl rfl (Nat.le_of_ble_eq_true rfl) rfl (Nat.le_of_ble_eq_true rfl) ⟨Nat.le_refl _, Nat.le_refl _⟩ (am_R.mono wp (fun r h' q => am_R.forget q ⟨rfl, ⟨rfl, ⟨rfl, ⟨rfl, trivial⟩⟩⟩⟩))
theorem bX5_passAll_15 {E : Nat × (Nat → Int32)} {I : Nat → Nat → Int32} {J : Nat → Nat → Int64} {b : Bool} {a1 : Nat} {a2 : Int32} {a3 : Int32} {Q : Option Value → am_H → Prop} (hs_a1 : am_s a1 = .inl (.int, 7)) (hk_a1 : a1 < 64) (wp : ((¬ (I 23 3) = 0 → am_R E mX5_passFound 0 [some (.ref 23), some (.ref a1), some (.int 0)] [] (hp I J b) 64 64 (fun r h' => am_R E mX5_passAll 30 [some (.ref 23), some (.ref a1), some (.int a2), some (.int a3)] (r.toList ++ []) h' 64 64 Q)) ∧ ((I 23 3) = 0 → Q (some (.int a3)) (hp I J b)))) : am_R E mX5_passAll 15 [some (.ref 23), some (.ref a1), some (.int a2), some (.int a3)] [] (hp I J b) 64 64 Q := by
  refine am_aload_n rfl rfl dX5_passAll_15 ?_
  refine am_getI dX5_passAll_16 flX5_46 (Or.inl rfl) rfl (by decide) ?_
  refine am_if_ne dX5_passAll_19 (tgt := 24) rfl (fun hc1 => ?_) (fun hc1 => ?_)
  · have wp := wp.1 hc1
    refine am_aload_n rfl rfl dX5_passAll_24 ?_
    refine am_aload_n rfl rfl dX5_passAll_25 ?_
    refine am_iconst 0 rfl dX5_passAll_26 ?_
    refine am_invV (ci := 3) (As := [.ref a1, .int 0]) (lsZ := [some (.ref 23), some (.ref a1), some (.int 0)]) (st := []) dX5_passAll_27 hX5_passFound lkX5_65 ⟨by decide, by decide⟩ (by decide) rfl (by decide) rfl rfl rfl (Nat.le_of_ble_eq_true rfl) rfl (Nat.le_of_ble_eq_true rfl) ⟨Nat.le_refl _, Nat.le_refl _⟩ (am_R.mono wp (fun r h' q => am_R.forget q ⟨rfl, ⟨rfl, ⟨rfl, ⟨rfl, trivial⟩⟩⟩⟩))
  · have wp := wp.2 hc1
    refine am_iload_n rfl rfl dX5_passAll_22 ?_
    exact am_iret dX5_passAll_23 rfl rfl wp
theorem bX5_passAll_30 {E : Nat × (Nat → Int32)} {I : Nat → Nat → Int32} {J : Nat → Nat → Int64} {b : Bool} {a1 : Nat} {a2 : Int32} {a3 : Int32} {Q : Option Value → am_H → Prop} (hs_a1 : am_s a1 = .inl (.int, 7)) (hk_a1 : a1 < 64) (wp : am_R E mX5_passAll 2 [some (.ref 23), some (.ref a1), some (.int a2), some (.int (a3 + 1))] [] (hp I J b) 64 64 Q) : am_R E mX5_passAll 30 [some (.ref 23), some (.ref a1), some (.int a2), some (.int a3)] [] (hp I J b) 64 64 Q := by
  refine am_iinc (ls' := [some (.ref 23), some (.ref a1), some (.int a2), some (.int (a3 + 1))]) (by decide) rfl rfl rfl dX5_passAll_30 ?_
  refine am_goto dX5_passAll_33 (tgt := 2) rfl ?_
  exact am_R.forget wp ⟨rfl, ⟨rfl, ⟨rfl, ⟨rfl, trivial⟩⟩⟩⟩
theorem tX5_passAll {r n by' : Nat} {a2 : Int32} {p : Nat → Nat} (hr : rowc r) (hC : CH I n) (hR : Rw (I r) p n) (hb : by' = 0 ∨ by' = 2 ∨ by' = 3) (eb : a2 = nI by') (k : ∀ f F c, Rw f (stR I n by' 63 p).1 n → Q (some (.int (nI (stR I n by' 63 p).2))) (hp (fh (u1 I r f) F c) J b)) : am_R E mX5_passAll 0 [some (.ref 23), some (.ref r), some (.int a2), none] [] (hp I J b) 64 64 Q := by
  subst eb
  have h7 := hC.2.1.2
  have key : ∀ f (p : Nat → Nat) (g : Nat → Int32) (cnt : Nat) (F : Nat → Int32) (c : Int32), cnt + f = 63 → Rw g p n → (∀ g' F c, Rw g' (stR I n by' f p).1 n → Q (some (.int (nI (cnt + (stR I n by' f p).2)))) (hp (fh (u1 I r g') F c) J b)) → am_R E mX5_passAll 2 [some (.ref 23), some (.ref r), some (.int (nI by')), some (.int (nI cnt))] [] (hp (fh (u1 I r g) F c) J b) 64 64 Q := by
    intro f
    induction f with
    | zero =>
      intro p g cnt F c hc hR hQ
      have e : cnt = 63 := by omega
      subst e
      exact bX5_passAll_2 hr.s hr.k (le_br (n := 63) rfl rfl (by omega) (by omega) (fun _ => hQ g F c hR) (fun h => by omega))
    | succ f ih =>
      intro p g cnt F c hc hR hQ
      refine bX5_passAll_2 hr.s hr.k (le_br (n := 63) rfl rfl (by omega) (by omega) (fun h => by omega) (fun _ => ?_))
      have hC2 : CH (fh (u1 I r g) F c) n := (hC.row hr g).fh F c
      have hR2 : Rw (fh (u1 I r g) F c r) p n := by rw [fh_r _ hr, u1_s]; exact hR
      refine tX5_find (I := fh (u1 I r g) F c) (M := 1) hr hC2 hR2 hb rfl rfl (by omega) (fun F' hF' => ?_)
      have ew : ∀ T, wl (fh (u1 I r g) F c) n by' p T = wl I n by' p T := by
        intro T
        show wl (u1 I r g) n by' p T = _
        unfold wl
        congr 1
        funext c
        exact decide_eq_decide.mpr (by rw [wc_row hr])
      have et : tk (fh (u1 I r g) F c) n by' p 1 448 = (wl I n by' p 448).take 1 := by unfold tk; rw [ew]
      rw [et] at hF' ⊢
      rw [fh_fh]
      cases hL : wl I n by' p 448 with
      | nil =>
        have hf : fw I n by' p = none := by rw [fw_wl, hL]; rfl
        rw [stR_none hf] at hQ
        exact bX5_passAll_15 hr.s hr.k ⟨fun h => absurd rfl h, fun _ => hQ g F' (nI 0) hR⟩
      | cons c0 L =>
        have hf : fw I n by' p = some c0 := by rw [fw_wl, hL]; rfl
        have hwc : wc I n by' p c0 := by
          have : c0 ∈ wl I n by' p 448 := by rw [hL]; exact List.mem_cons_self
          unfold wl at this
          exact of_decide_eq_true (List.mem_filter.mp this).2
        rw [stR_some hf] at hQ
        rw [hL] at hF'
        refine bX5_passAll_15 hr.s hr.k ⟨fun _ => ?_, fun h => absurd (show nI 1 = 0 from h) (by decide)⟩
        refine tX5_passFound (I := u1 I r g) (n := n) (by' := by') (i := 0) (c := c0) (p := p) hr h7 rfl (by omega) (hF' 0 c0 rfl) (by rw [wc_row hr]; exact hwc) ?_
        refine bX5_passAll_30 hr.s hr.k ?_
        rw [u1_u1, u1_s, n1]
        refine ih (nx by' p c0) _ (cnt + 1) _ _ (by omega) (Rw.nx (I := I) hR hwc) (fun g' F c hr' => ?_)
        have := hQ g' F c hr'
        rw [show cnt + 1 + (stR I n by' f (nx by' p c0)).2 = cnt + ((stR I n by' f (nx by' p c0)).2 + 1) by omega]
        exact this
  have := key 63 p (I r) 0 (I 25) (I 23 3) rfl hR (fun g' F c hr' => by rw [Nat.zero_add]; exact k g' F c hr')
  rw [u1_self, fh_self] at this
  exact bX5_passAll_0 hr.s hr.k this
end C2
