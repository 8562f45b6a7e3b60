/-! ===== pairs: lay, today, settle ===== -/
section P4
variable {E : Nat × (Nat → Int32)} {I I' : Nat → Nat → Int32} {J : Nat → Nat → Int64} {b : Bool} {n : Nat} {Q : Option Value → am_H → Prop}
/-- all but today's draw is told as before -/
def Sd (I I' : Nat → Nat → Int32) : Prop := (I' 1 1 = I 1 1 ∧ I' 2 = I 2 ∧ I' 48 6 = I 48 6 ∧ I' 53 = I 53) ∧ (I' 4 = I 4 ∧ I' 5 = I 5 ∧ I' 6 = I 6 ∧ I' 7 = I 7 ∧ I' 8 = I 8 ∧ I' 11 = I 11 ∧ I' 12 = I 12) ∧ (I' 14 = I 14 ∧ I' 15 = I 15 ∧ I' 16 = I 16 ∧ I' 17 = I 17 ∧ I' 18 = I 18 ∧ I' 19 = I 19 ∧ I' 20 = I 20 ∧ I' 21 = I 21 ∧ I' 22 = I 22 ∧ I' 24 = I 24 ∧ I' 27 = I 27 ∧ I' 29 = I 29 ∧ I' 30 = I 30 ∧ I' 32 = I 32 ∧ I' 33 = I 33 ∧ I' 35 = I 35) ∧ (I' 48 0 = I 48 0 ∧ I' 48 1 = I 48 1 ∧ I' 49 = I 49 ∧ I' 50 = I 50 ∧ I' 51 = I 51 ∧ I' 52 = I 52 ∧ I' 56 = I 56 ∧ I' 57 = I 57)
theorem Inv.day {p : Nat → Nat} (h : Inv I n) (s : Sd I I') (e0 : I' 9 0 = 1) (e3 : I' 9 3 = I 9 3) (r : ∀ m, m < n → I' 10 m = nI (p m)) (f0 : I' 55 0 = 1) (f1 : ∀ m, m < n → I' 55 (1 + m) = nI (p m)) (f8 : ∀ j, 8 ≤ j → I' 55 j = I 55 j) (hp' : Pm p n) : Inv I' n := by
  obtain ⟨⟨t1, t2, t3, t4⟩, ⟨c4, c5, c6, c7, c8, c11, c12⟩, ⟨c14, c15, c16, c17, c18, c19, c20, c21, c22, c24, c27, c29, c30, c32, c33, c35⟩, ⟨m0, m1, m49, m50, m51, m52, m56, m57⟩⟩ := s
  obtain ⟨hM, hC⟩ := h
  unfold IvM Nn Lk at hM
  unfold IvC at hC
  unfold Inv IvM IvC Nn Lk
  have m55' : ∀ m, I' 55 (8 + m) = I 55 (8 + m) := fun m => f8 _ (by omega)
  rw [CH_eq c4 c5 c6 c24 m49 m50 m51 m55', Ta_eq m49 m50 m51 m55', t1, t2, t3, t4, m0, m1, m49, m50, m51, m52, m56, m57, c4, c7, c8, c11, c12, c14, c15, c16, c17, c18, c19, c20, c21, c22, c27, c29, c30, c32, c33, c35]
  obtain ⟨a1, a2, a3, a4, a5, a6, ⟨b1, b2, b3, b4⟩, a8⟩ := hM
  obtain ⟨d1, d2, d3, d4, d5, ⟨q1, q2, q3, q4, q5⟩, d7⟩ := hC
  refine ⟨⟨a1, a2, a3, a4, a5, a6, ⟨Or.inr f0, fun _ => ⟨p, f1, hp'⟩, fun m hm => by rw [m55']; exact b3 m hm, by rw [f8 15 (by omega)]; exact b4⟩, a8⟩, d1, d2, d3, d4, d5, ⟨by rw [e0, f0], by rw [e3, f8 15 (by omega)]; exact q2, fun _ m hm => by rw [r m hm, f1 m hm], fun m hm => by rw [m55']; exact q4 m hm, fun D hD e i hi m hm => ?_⟩, d7⟩
  rw [f8 15 (by omega)] at e
  rw [f8 _ (by omega)]
  exact q5 D hD e i hi m hm
theorem Pm.s2 {p : Nat → Nat} {x y : Nat} (h : Pm p n) (hx : x < n) (hy : y < n) : Pm (sw2 p x y) n := by
  have inj : ∀ i j, i < n → j < n → p i = p j → i = j := fun i j hi hj e => by
    rcases Nat.lt_trichotomy i j with q | q | q
    · exact absurd e (h.2 i j q hj)
    · exact q
    · exact absurd e.symm (h.2 j i q hi)
  refine ⟨fun i hi => ?_, fun i j hij hj e => ?_⟩
  · unfold sw2 va_up; split
    · exact h.1 _ hx
    · split
      · exact h.1 _ hy
      · exact h.1 _ hi
  · have hi : i < n := by omega
    unfold sw2 va_up at e
    split at e <;> split at e <;> (try split at e) <;> (try split at e) <;> (have := inj _ _ (by assumption) (by assumption) e; omega)
theorem Pm.s3 {p : Nat → Nat} {x y z : Nat} (h : Pm p n) (hx : x < n) (hy : y < n) (hz : z < n) (hxy : x ≠ y) (hxz : x ≠ z) (hyz : y ≠ z) : Pm (sw3 p x y z) n := by
  have inj : ∀ i j, i < n → j < n → p i = p j → i = j := fun i j hi hj e => by
    rcases Nat.lt_trichotomy i j with q | q | q
    · exact absurd e (h.2 i j q hj)
    · exact q
    · exact absurd e.symm (h.2 j i q hi)
  refine ⟨fun i hi => ?_, fun i j hij hj e => ?_⟩
  · unfold sw3 va_up; split
    · exact h.1 _ hx
    · split
      · exact h.1 _ hz
      · split
        · exact h.1 _ hy
        · exact h.1 _ hi
  · have hi : i < n := by omega
    unfold sw3 va_up at e
    split at e <;> split at e <;> (try split at e) <;> (try split at e) <;> (try split at e) <;> (try split at e) <;> (have := inj _ _ (by assumption) (by assumption) e; omega)
theorem Pm.nxt {p : Nat → Nat} {by' c : Nat} (h : Pm p n) (hw : wc I n by' p c) : Pm (nx by' p c) n := by
  obtain ⟨h1, ⟨h2, h3, h4⟩, h5⟩ := hw
  show Pm (if by' = 2 then sw2 p (c / 64) (c / 8 % 8) else sw3 p (c / 64) (c / 8 % 8) (c % 8)) n
  rcases h5 with ⟨e, -, -⟩ | ⟨e, ⟨e1, e2, e3⟩, -⟩
  · rw [if_pos e]; exact h.s2 h3 h4
  · rw [if_neg e]; exact h.s3 h3 h4 e3 (by omega) (by omega) (by omega)
theorem fw_wc {p : Nat → Nat} {by' c : Nat} (h : fw I n by' p = some c) : wc I n by' p c ∧ c < 448 := by
  unfold fw at h
  have h1 := List.find?_some h
  exact ⟨of_decide_eq_true h1, List.mem_range.mp (List.mem_of_find?_eq_some h)⟩
theorem stR_pm {by' : Nat} : ∀ (f : Nat) (p : Nat → Nat), Pm p n → Pm (stR I n by' f p).1 n
  | 0, p, h => h
  | f + 1, p, h => by
    cases hf : fw I n by' p with
    | none => rw [stR_none hf]; exact h
    | some c => rw [stR_some hf]; exact stR_pm f _ (h.nxt (fw_wc hf).1)
theorem Rw.cpy {g h : Nat → Int32} {p : Nat → Nat} (hR : Rw g p n) (hn : n ≤ 7) : ∀ m, m < n → va_cpy g h 0 0 7 m = nI (p m) := by
  intro m hm
  unfold va_cpy
  rw [if_pos (by omega), show 0 + (m - 0) = m by omega]
  exact (hR m hm).1
theorem put_at {g f : Nat → Int32} {p : Nat → Nat} (hR : Rw g p n) : (va_cpy g (upd f 0 1) 0 1 n) 0 = 1 ∧ (∀ m, m < n → va_cpy g (upd f 0 1) 0 1 n (1 + m) = nI (p m)) ∧ (∀ j, 8 ≤ j → n ≤ 7 → va_cpy g (upd f 0 1) 0 1 n j = f j) := by
  refine ⟨?_, fun m hm => ?_, fun j hj hn => ?_⟩
  · unfold va_cpy upd; rw [if_neg (by omega), if_pos rfl]
  · unfold va_cpy; rw [if_pos (by omega), show 0 + (1 + m - 1) = m by omega]; exact (hR m hm).1
  · unfold va_cpy upd; rw [if_neg (by omega), if_neg (by omega)]
theorem bX1_give_0 {E : Nat × (Nat → Int32)} {I : Nat → Nat → Int32} {J : Nat → Nat → Int64} {b : Bool}  {Q : Option Value → am_H → Prop}  (wp : Q none (hp (u2 (u1 I 10 (va_cpy (I 47) (I 10) 0 0 7)) 9 0 1) J b)) : am_R E mX1_give 0 [some (.ref 9), some (.ref 47)] [] (hp I J b) 64 64 Q := by
  refine am_aload_n rfl rfl dX1_give_0 ?_
  refine am_iconst 0 rfl dX1_give_1 ?_
  refine am_aload_n rfl rfl dX1_give_2 ?_
  refine am_getA (r := 10) dX1_give_3 flX1_9 (Or.inr ⟨_, rfl⟩) rfl (by decide) rfl ?_
  refine am_iconst 0 rfl dX1_give_6 ?_
  refine am_bipush 7 rfl dX1_give_7 ?_
  refine am_copyN (s0 := 0) (d0 := 0) (x0 := 7) dX1_give_9 lkX1_29 kn_copy rfl rfl (by decide) (by decide) rfl rfl rfl (by decide) (by decide) (by decide) (Nat.le_of_ble_eq_true rfl) (by decide) ?_
  show am_R E mX1_give 12 [some (.ref 9), some (.ref 47)] [] (hp (u1 I 10 (va_cpy (I 47) (I 10) 0 0 7)) J b) 64 64 Q
  refine am_aload_n rfl rfl dX1_give_12 ?_
  refine am_iconst 1 rfl dX1_give_13 ?_
  refine am_putZ dX1_give_14 flX1_21 (Or.inl rfl) rfl rfl (by decide) (by decide) ?_
  exact am_vret dX1_give_17 rfl wp
theorem bX9_lay_0 {E : Nat × (Nat → Int32)} {I : Nat → Nat → Int32} {J : Nat → Nat → Int64} {b : Bool} {a1 : Int32} {Q : Option Value → am_H → Prop}  (wp : ((a1 < 0 → Q (some (.int (-3))) (hp I J b)) ∧ (¬ a1 < 0 → ∃ j2, (I 4 0) = nI j2 ∧ j2 < 8 ∧ ((a1 < (am_fa j2) → am_R E mX3_fill 0 [some (.ref 47), some (.int (I 4 0)), some (.int a1), none, none, none, none, none, none] [] (hp I J b) 64 64 (fun r h' => am_R E mX9_lay 37 [some (.ref 0), none] (r.toList ++ []) h' 64 64 Q)) ∧ (¬ a1 < (am_fa j2) → Q (some (.int (-3))) (hp I J b)))))) : am_R E mX9_lay 0 [some (.ref 0), some (.int a1)] [] (hp I J b) 64 64 Q := by
  refine am_iload_n rfl rfl dX9_lay_0 ?_
  refine am_if_lt dX9_lay_1 (tgt := 19) rfl (fun hc1 => ?_) (fun hc1 => ?_)
  · have wp := wp.1 hc1
    refine am_bipush (-3) rfl dX9_lay_19 ?_
    exact am_iret dX9_lay_21 rfl rfl wp
  · have wp := wp.2 hc1
    refine am_iload_n rfl rfl dX9_lay_4 ?_
    refine am_gsF dX9_lay_5 fsX9_140 ?_
    refine am_aload_n rfl rfl dX9_lay_8 ?_
    refine am_getA (r := 4) dX9_lay_9 flX9_19 (Or.inl ⟨_, rfl⟩) rfl (by decide) rfl ?_
    refine am_getI dX9_lay_12 flX9_102 (Or.inl rfl) rfl (by decide) ?_
    obtain ⟨j2, e2, w2, wp⟩ := wp
    refine am_ildFN (j := j2) dX9_lay_15 e2 w2 ?_
    refine am_icmp_lt dX9_lay_16 (tgt := 22) rfl (fun hc3 => ?_) (fun hc3 => ?_)
    · have wp := wp.1 hc3
      refine am_aload_n rfl rfl dX9_lay_22 ?_
      refine am_getA (r := 47) dX9_lay_23 flX9_72 (Or.inr ⟨_, rfl⟩) rfl (by decide) rfl ?_
      refine am_aload_n rfl rfl dX9_lay_26 ?_
      refine am_getA (r := 4) dX9_lay_27 flX9_19 (Or.inl ⟨_, rfl⟩) rfl (by decide) rfl ?_
      refine am_getI dX9_lay_30 flX9_102 (Or.inl rfl) rfl (by decide) ?_
      refine am_iload_n rfl rfl dX9_lay_33 ?_
      refine am_invS (As := [.ref 47, .int (I 4 0), .int a1]) (lsZ := [some (.ref 47), some (.int (I 4 0)), some (.int a1), none, none, none, none, none, none]) (st := []) dX9_lay_34 hX3_fill lkX9_143 ⟨by decide, by decide⟩ rfl rfl (Nat.le_of_ble_eq_true rfl) rfl (Nat.le_of_ble_eq_true rfl) ⟨Nat.le_refl _, Nat.le_refl _⟩ (am_R.mono wp (fun r h' q => am_R.forget q ⟨rfl, trivial⟩))
    · have wp := wp.2 hc3
      refine am_bipush (-3) rfl dX9_lay_19 ?_
      exact am_iret dX9_lay_21 rfl rfl wp
theorem bX9_lay_37 {E : Nat × (Nat → Int32)} {I : Nat → Nat → Int32} {J : Nat → Nat → Int64} {b : Bool}  {Q : Option Value → am_H → Prop}  (wp : am_R E mX5_allMayDo 0 [some (.ref 23), some (.ref 47), none] [] (hp I J b) 64 64 (fun r h' => am_R E mX9_lay 48 [some (.ref 0), none] (r.toList ++ []) h' 64 64 Q)) : am_R E mX9_lay 37 [some (.ref 0), none] [] (hp I J b) 64 64 Q := by
  refine am_aload_n rfl rfl dX9_lay_37 ?_
  refine am_getA (r := 23) dX9_lay_38 flX9_43 (Or.inl ⟨_, rfl⟩) rfl (by decide) rfl ?_
  refine am_aload_n rfl rfl dX9_lay_41 ?_
  refine am_getA (r := 47) dX9_lay_42 flX9_72 (Or.inr ⟨_, rfl⟩) rfl (by decide) rfl ?_
  refine am_invV (ci := 3) (As := [.ref 47]) (lsZ := [some (.ref 23), some (.ref 47), none]) (st := []) dX9_lay_45 hX5_allMayDo lkX9_149 ⟨by decide, by decide⟩ (by decide) rfl (by decide) rfl rfl rfl (Nat.le_of_ble_eq_true rfl) rfl (Nat.le_of_ble_eq_true rfl) ⟨Nat.le_refl _, Nat.le_refl _⟩ (am_R.mono wp (fun r h' q => am_R.forget q ⟨rfl, trivial⟩))
theorem bX9_lay_48 {E : Nat × (Nat → Int32)} {I : Nat → Nat → Int32} {J : Nat → Nat → Int64} {b : Bool} {x0 : Int32} {Q : Option Value → am_H → Prop}  (wp : ((¬ x0 = 0 → am_R E mX1_give 0 [some (.ref 9), some (.ref 47)] [] (hp I J b) 64 64 (fun r h' => am_R E mX9_lay 65 [none, none] (r.toList ++ []) h' 64 64 Q)) ∧ (x0 = 0 → Q (some (.int (-4))) (hp I J b)))) : am_R E mX9_lay 48 [some (.ref 0), none] [.int x0] (hp I J b) 64 64 Q := by
  refine am_if_ne dX9_lay_48 (tgt := 54) rfl (fun hc1 => ?_) (fun hc1 => ?_)
  · have wp := wp.1 hc1
    refine am_aload_n rfl rfl dX9_lay_54 ?_
    refine am_getA (r := 9) dX9_lay_55 flX9_26 (Or.inl ⟨_, rfl⟩) rfl (by decide) rfl ?_
    refine am_aload_n rfl rfl dX9_lay_58 ?_
    refine am_getA (r := 47) dX9_lay_59 flX9_72 (Or.inr ⟨_, rfl⟩) rfl (by decide) rfl ?_
    refine am_invV (ci := 0) (As := [.ref 47]) (lsZ := [some (.ref 9), some (.ref 47)]) (st := []) dX9_lay_62 hX1_give lkX9_153 ⟨by decide, by decide⟩ (by decide) rfl (by decide) rfl rfl rfl (Nat.le_of_ble_eq_true rfl) rfl (Nat.le_of_ble_eq_true rfl) ⟨Nat.le_refl _, Nat.le_refl _⟩ (am_R.mono wp (fun r h' q => am_R.forget q trivial))
  · have wp := wp.2 hc1
    refine am_bipush (-4) rfl dX9_lay_51 ?_
    exact am_iret dX9_lay_53 rfl rfl wp
theorem bX9_lay_65 {E : Nat × (Nat → Int32)} {I : Nat → Nat → Int32} {J : Nat → Nat → Int64} {b : Bool}  {Q : Option Value → am_H → Prop}  (wp : Q (some (.int 1)) (hp I J b)) : am_R E mX9_lay 65 [none, none] [] (hp I J b) 64 64 Q := by
  refine am_iconst 1 rfl dX9_lay_65 ?_
  exact am_iret dX9_lay_66 rfl rfl wp
theorem bX10_lay_0 {E : Nat × (Nat → Int32)} {I : Nat → Nat → Int32} {J : Nat → Nat → Int64} {b : Bool} {a1 : Int32} {Q : Option Value → am_H → Prop}  (wp : ∃ j1, (I 48 0) = nI j1 ∧ j1 < 8 ∧ (((0 ≤ a1 ∧ a1 ≤ ((nI (fct j1)) - 1)) → am_R E mX10_takeDraw 0 [some (.ref 48), some (.int a1), none, none, none, none, none, none] [] (hp I J b) 64 64 (fun r h' => am_R E mX10_lay 25 [some (.ref 48), none] (r.toList ++ []) h' 64 64 Q)) ∧ (¬ (0 ≤ a1 ∧ a1 ≤ ((nI (fct j1)) - 1)) → Q (some (.int (-3))) (hp I J b)))) : am_R E mX10_lay 0 [some (.ref 48), some (.int a1)] [] (hp I J b) 64 64 Q := by
  refine am_iload_n rfl rfl dX10_lay_0 ?_
  refine am_iconst 0 rfl dX10_lay_1 ?_
  refine am_aload_n rfl rfl dX10_lay_2 ?_
  refine am_getI dX10_lay_3 flX10_7 (Or.inl rfl) rfl (by decide) ?_
  obtain ⟨j1, e1, w1, wp⟩ := wp
  refine am_invS (As := [.int (I 48 0)]) (lsZ := [some (.int (I 48 0)), none, none]) (st := [.int 0, .int a1]) dX10_lay_6 hX10_draws lkX10_173 ⟨by decide, by decide⟩ rfl rfl (Nat.le_of_ble_eq_true rfl) rfl (Nat.le_of_ble_eq_true rfl) ⟨Nat.le_refl _, Nat.le_refl _⟩ (tX10_draws (n := j1) e1 (Nat.le_of_lt_succ w1) ?_)
  show am_R E mX10_lay 9 [some (.ref 48), some (.int a1)] [.int (nI (fct j1)), .int 0, .int a1] (hp I J b) 64 64 Q
  refine am_iconst 1 rfl dX10_lay_9 ?_
  refine am_isub dX10_lay_10 ?_
  refine am_invS (As := [.int a1, .int 0, .int ((nI (fct j1)) - 1)]) (lsZ := [some (.int a1), some (.int 0), some (.int ((nI (fct j1)) - 1))]) (st := []) dX10_lay_11 hX10_in lkX10_69 ⟨by decide, by decide⟩ rfl rfl (Nat.le_of_ble_eq_true rfl) rfl (Nat.le_of_ble_eq_true rfl) ⟨Nat.le_refl _, Nat.le_refl _⟩ (tX10_in  (fun hc2 => ?_) (fun hc2 => ?_))
  · have wp := wp.1 hc2
    show am_R E mX10_lay 14 [some (.ref 48), some (.int a1)] [.int 1] (hp I J b) 64 64 Q
    refine am_if_ne dX10_lay_14 (tgt := 20) rfl (fun _ => ?_) (fun hc => absurd hc (by decide))
    refine am_aload_n rfl rfl dX10_lay_20 ?_
    refine am_iload_n rfl rfl dX10_lay_21 ?_
    refine am_invV (ci := 8) (As := [.int a1]) (lsZ := [some (.ref 48), some (.int a1), none, none, none, none, none, none]) (st := []) dX10_lay_22 hX10_takeDraw lkX10_177 ⟨by decide, by decide⟩ (by decide) rfl (by decide) rfl rfl rfl (Nat.le_of_ble_eq_true rfl) rfl (Nat.le_of_ble_eq_true rfl) ⟨Nat.le_refl _, Nat.le_refl _⟩ (am_R.mono wp (fun r h' q => am_R.forget q ⟨rfl, trivial⟩))
  · have wp := wp.2 hc2
    show am_R E mX10_lay 14 [some (.ref 48), some (.int a1)] [.int 0] (hp I J b) 64 64 Q
    refine am_if_ne dX10_lay_14 (tgt := 20) rfl (fun hc => absurd hc (by decide)) (fun _ => ?_)
    refine am_bipush (-3) rfl dX10_lay_17 ?_
    exact am_iret dX10_lay_19 rfl rfl wp
theorem bX10_lay_25 {E : Nat × (Nat → Int32)} {I : Nat → Nat → Int32} {J : Nat → Nat → Int64} {b : Bool}  {Q : Option Value → am_H → Prop}  (wp : am_R E mX10_isLawful 0 [some (.ref 48), none, none] [] (hp I J b) 64 64 (fun r h' => am_R E mX10_lay 29 [some (.ref 48), none] (r.toList ++ []) h' 64 64 Q)) : am_R E mX10_lay 25 [some (.ref 48), none] [] (hp I J b) 64 64 Q := by
  refine am_aload_n rfl rfl dX10_lay_25 ?_
  refine am_invV (ci := 8) (As := []) (lsZ := [some (.ref 48), none, none]) (st := []) dX10_lay_26 hX10_isLawful lkX10_180 ⟨by decide, by decide⟩ (by decide) rfl (by decide) rfl rfl rfl (Nat.le_of_ble_eq_true rfl) rfl (Nat.le_of_ble_eq_true rfl) ⟨Nat.le_refl _, Nat.le_refl _⟩ (am_R.mono wp (fun r h' q => am_R.forget q ⟨rfl, trivial⟩))
theorem bX10_lay_29 {E : Nat × (Nat → Int32)} {I : Nat → Nat → Int32} {J : Nat → Nat → Int64} {b : Bool} {x0 : Int32} {Q : Option Value → am_H → Prop}  (wp : ((¬ x0 = 0 → am_R E mX10_putToday 0 [some (.ref 48), none] [] (hp I J b) 64 64 (fun r h' => am_R E mX10_lay 39 [none, none] (r.toList ++ []) h' 64 64 Q)) ∧ (x0 = 0 → Q (some (.int (-4))) (hp I J b)))) : am_R E mX10_lay 29 [some (.ref 48), none] [.int x0] (hp I J b) 64 64 Q := by
  refine am_if_ne dX10_lay_29 (tgt := 35) rfl (fun hc1 => ?_) (fun hc1 => ?_)
  · have wp := wp.1 hc1
    refine am_aload_n rfl rfl dX10_lay_35 ?_
    refine am_invV (ci := 8) (As := []) (lsZ := [some (.ref 48), none]) (st := []) dX10_lay_36 hX10_putToday lkX10_183 ⟨by decide, by decide⟩ (by decide) rfl (by decide) rfl rfl rfl (Nat.le_of_ble_eq_true rfl) rfl (Nat.le_of_ble_eq_true rfl) ⟨Nat.le_refl _, Nat.le_refl _⟩ (am_R.mono wp (fun r h' q => am_R.forget q trivial))
  · have wp := wp.2 hc1
    refine am_bipush (-4) rfl dX10_lay_32 ?_
    exact am_iret dX10_lay_34 rfl rfl wp
theorem bX10_lay_39 {E : Nat × (Nat → Int32)} {I : Nat → Nat → Int32} {J : Nat → Nat → Int64} {b : Bool}  {Q : Option Value → am_H → Prop}  (wp : Q (some (.int 1)) (hp I J b)) : am_R E mX10_lay 39 [none, none] [] (hp I J b) 64 64 Q := by
  refine am_iconst 1 rfl dX10_lay_39 ?_
  exact am_iret dX10_lay_40 rfl rfl wp
theorem p_lay (hI : Inv I n) (a1 : Int32) : Pair E mX9_lay mX10_lay [some (.ref 0), some (.int a1)] [some (.ref 48), some (.int a1)] I J b := by
  have hI0 := hI
  obtain ⟨hM, hC⟩ := hI
  obtain ⟨hN, -, -, -, -, -, hD, -⟩ := hM
  obtain ⟨hCH, -⟩ := hC
  obtain ⟨n0, n2, n7⟩ := hN
  have e0 : I 4 0 = nI n := hCH.1
  have hY : Yw I n := hD.2.2.1
  have hfl := fct_le n (by omega)
  have r47 : rowc 47 := Or.inr (Or.inr (Or.inr (Or.inr (Or.inr (Or.inr (Or.inr rfl))))))
  have ef : nI (fct n) - 1 = nI (fct n - 1) := by rw [show (1 : Int32) = nI 1 from rfl, pk_sub (by omega)]
  by_cases hk : 0 ≤ a1 ∧ a1 < nI (fct n)
  · obtain ⟨c, hc1, rfl⟩ := nI_of (x := a1) (Int32.not_lt.mpr hk.1)
    have hc : c < fct n := (nI_ltI hc1 (by omega)).mp hk.2
    have hpm := ur_pm n7 hc
    have hk' : 0 ≤ nI c ∧ nI c ≤ nI (fct n) - 1 := ⟨hk.1, by rw [ef]; exact (nI_leI hc1 (by omega)).mpr (by omega)⟩
    by_cases hl : lawc I n c
    · refine ⟨.int 1, fun I1 => ∃ f, Rw f (ur n c) n ∧ I1 = u2 (u1 (u1 I 47 f) 10 (va_cpy f (I 10) 0 0 7)) 9 0 1, fun Q h => ?_, fun I1 J1 b1 e Q h => ?_⟩
      · refine bX9_lay_0 (lt_br (n := c) (m := 0) rfl rfl hc1 (by omega) (fun q => by omega) (fun _ => ⟨n, e0, by omega, ?_⟩))
        rw [fa_fct n (by omega)]
        refine lt_br rfl rfl hc1 (by omega) (fun _ => ?_) (fun q => by omega)
        refine tX3_fill (n := n) r47 n2 n7 e0 rfl hc (fun f hf => ?_)
        refine bX9_lay_37 (tX5_allMayDo (p := ur n c) r47 (hCH.row r47 f) (by rw [u1_s]; exact hf) (fun _ => ?_) (fun q => absurd hl q))
        refine bX9_lay_48 ⟨fun _ => bX1_give_0 (bX9_lay_65 (h _ J b ⟨f, hf, rfl⟩)), fun q => absurd q (by decide)⟩
      · obtain ⟨f, hf, rfl⟩ := e
        refine bX10_lay_0 ⟨n, n0, by omega, ⟨fun _ => ?_, fun q => absurd hk' q⟩⟩
        refine tX10_takeDraw (n := n) ⟨n0, n2, n7⟩ rfl hc (fun g hg => ?_)
        refine bX10_lay_25 (tX10_isLawful (n := n) (p := ur n c) ⟨n0, n2, n7⟩ hY (by rw [u1_s]; exact hg) (fun _ => ?_) (fun q => absurd hl q))
        refine bX10_lay_29 ⟨fun _ => tX10_putToday (n := n) ⟨n0, n2, n7⟩ (bX10_lay_39 ?_), fun q => absurd q (by decide)⟩
        obtain ⟨p1, p2, p3⟩ := put_at (f := I 55) hg
        refine h _ J1 b1 n (Inv.day (p := ur n c) hI0 ⟨⟨rfl, rfl, rfl, rfl⟩, ⟨rfl, rfl, rfl, rfl, rfl, rfl, rfl⟩, ⟨rfl, rfl, rfl, rfl, rfl, rfl, rfl, rfl, rfl, rfl, rfl, rfl, rfl, rfl, rfl, rfl⟩, ⟨rfl, rfl, rfl, rfl, rfl, rfl, rfl, rfl⟩⟩ rfl rfl (hf.cpy n7) p1 p2 (fun j hj => p3 j hj n7) hpm)
    · refine ⟨.int (-4), fun I1 => ∃ f, I1 = u1 I 47 f, fun Q h => ?_, fun I1 J1 b1 e Q h => ?_⟩
      · refine bX9_lay_0 (lt_br (n := c) (m := 0) rfl rfl hc1 (by omega) (fun q => by omega) (fun _ => ⟨n, e0, by omega, ?_⟩))
        rw [fa_fct n (by omega)]
        refine lt_br rfl rfl hc1 (by omega) (fun _ => ?_) (fun q => by omega)
        refine tX3_fill (n := n) r47 n2 n7 e0 rfl hc (fun f hf => ?_)
        refine bX9_lay_37 (tX5_allMayDo (p := ur n c) r47 (hCH.row r47 f) (by rw [u1_s]; exact hf) (fun q => absurd q hl) (fun _ => ?_))
        exact bX9_lay_48 ⟨fun q => absurd rfl q, fun _ => h _ J b ⟨f, rfl⟩⟩
      · obtain ⟨f, rfl⟩ := e
        refine bX10_lay_0 ⟨n, n0, by omega, ⟨fun _ => ?_, fun q => absurd hk' q⟩⟩
        refine tX10_takeDraw (n := n) ⟨n0, n2, n7⟩ rfl hc (fun g hg => ?_)
        refine bX10_lay_25 (tX10_isLawful (n := n) (p := ur n c) ⟨n0, n2, n7⟩ hY (by rw [u1_s]; exact hg) (fun q => absurd q hl) (fun _ => ?_))
        exact bX10_lay_29 ⟨fun q => absurd rfl q, fun _ => h _ J1 b1 n (hI0.sa ⟨⟨⟨rfl, rfl, rfl, rfl, rfl, rfl, rfl, rfl, rfl⟩, ⟨rfl, rfl, rfl, rfl, rfl, rfl, rfl, rfl, rfl, rfl, rfl, rfl, rfl, rfl, rfl, rfl⟩, ⟨rfl, rfl, rfl, rfl, rfl, rfl, rfl, rfl, rfl⟩⟩, ⟨rfl, rfl, rfl, rfl⟩⟩)⟩
  · refine Pair.same hI0 (.int (-3)) (fun Q h => bX9_lay_0 ⟨fun _ => h, fun q => ⟨n, e0, by omega, by rw [fa_fct n (by omega)]; exact ⟨fun q2 => absurd ⟨nlt q, q2⟩ hk, fun _ => h⟩⟩⟩) (fun J b Q h => bX10_lay_0 ⟨n, n0, by omega, ⟨fun q => ?_, fun _ => h⟩⟩)
    exfalso
    apply hk
    refine ⟨q.1, ?_⟩
    obtain ⟨c, hc1, rfl⟩ := nI_of (x := a1) (Int32.not_lt.mpr q.1)
    rw [ef] at q
    have := (nI_leI hc1 (by omega)).mp q.2
    exact (nI_ltI hc1 (by omega)).mpr (by omega)
theorem bX9_today_0 {E : Nat × (Nat → Int32)} {I : Nat → Nat → Int32} {J : Nat → Nat → Int64} {b : Bool} {a1 : Int32} {Q : Option Value → am_H → Prop}  (wp : ((a1 < 0 → Q (some (.int (-3))) (hp I J b)) ∧ (¬ a1 < 0 → ((a1 ≤ 2 → ((¬ (I 9 0) = 0 → ((a1 = 0 → am_R E mX3_numberOf 0 [some (.ref 10), some (.int (I 4 0)), none, none, none, none] [] (hp I J b) 64 64 (fun r h' => am_R E mX9_today 69 [none, none] (r.toList ++ []) h' 64 64 Q)) ∧ (a1 = 1 → am_R E mX2_workOf 0 [some (.ref 4), some (.ref 10), none, none] [] (hp I J b) 64 64 (fun r h' => am_R E mX9_today 84 [none, none] (r.toList ++ []) h' 64 64 Q)) ∧ (¬ a1 = 0 → ¬ a1 = 1 → am_R E mX2_gladnessOf 0 [some (.ref 4), some (.ref 10), none, none] [] (hp I J b) 64 64 (fun r h' => am_R E mX9_today 99 [none, none] (r.toList ++ []) h' 64 64 Q)))) ∧ ((I 9 0) = 0 → Q (some (.int (-4))) (hp I J b)))) ∧ (¬ a1 ≤ 2 → Q (some (.int (-3))) (hp I J b)))))) : am_R E mX9_today 0 [some (.ref 0), some (.int a1)] [] (hp I J b) 64 64 Q := by
  refine am_iload_n rfl rfl dX9_today_0 ?_
  refine am_if_lt dX9_today_1 (tgt := 9) rfl (fun hc1 => ?_) (fun hc1 => ?_)
  · have wp := wp.1 hc1
    refine am_bipush (-3) rfl dX9_today_9 ?_
    exact am_iret dX9_today_11 rfl rfl wp
  · have wp := wp.2 hc1
    refine am_iload_n rfl rfl dX9_today_4 ?_
    refine am_iconst 2 rfl dX9_today_5 ?_
    refine am_icmp_le dX9_today_6 (tgt := 12) rfl (fun hc2 => ?_) (fun hc2 => ?_)
    · have wp := wp.1 hc2
      refine am_aload_n rfl rfl dX9_today_12 ?_
      refine am_getA (r := 9) dX9_today_13 flX9_26 (Or.inl ⟨_, rfl⟩) rfl (by decide) rfl ?_
      refine am_getI dX9_today_16 flX9_160 (Or.inr rfl) rfl (by decide) ?_
      refine am_if_ne dX9_today_19 (tgt := 25) rfl (fun hc3 => ?_) (fun hc3 => ?_)
      · have wp := wp.1 hc3
        refine am_iload_n rfl rfl dX9_today_25 ?_
        have wq4 := wp
        by_cases hs4_0 : a1 = 0
        · have wp := wq4.1 hs4_0
          refine am_lookC 0 dX9_today_26 hs4_0 rfl rfl (tgt := 52) rfl ?_
          refine am_aload_n rfl rfl dX9_today_52 ?_
          refine am_getA (r := 9) dX9_today_53 flX9_26 (Or.inl ⟨_, rfl⟩) rfl (by decide) rfl ?_
          refine am_getA (r := 10) dX9_today_56 flX9_164 (Or.inr ⟨_, rfl⟩) rfl (by decide) rfl ?_
          refine am_aload_n rfl rfl dX9_today_59 ?_
          refine am_getA (r := 4) dX9_today_60 flX9_19 (Or.inl ⟨_, rfl⟩) rfl (by decide) rfl ?_
          refine am_getI dX9_today_63 flX9_102 (Or.inl rfl) rfl (by decide) ?_
          refine am_invS (As := [.ref 10, .int (I 4 0)]) (lsZ := [some (.ref 10), some (.int (I 4 0)), none, none, none, none]) (st := []) dX9_today_66 hX3_numberOf lkX9_192 ⟨by decide, by decide⟩ rfl rfl (Nat.le_of_ble_eq_true rfl) rfl (Nat.le_of_ble_eq_true rfl) ⟨Nat.le_refl _, Nat.le_refl _⟩ (am_R.mono wp (fun r h' q => am_R.forget q trivial))
        by_cases hs4_1 : a1 = 1
        · have wp := wq4.2.1 hs4_1
          refine am_lookC 1 dX9_today_26 hs4_1 rfl rfl (tgt := 70) rfl ?_
          refine am_aload_n rfl rfl dX9_today_70 ?_
          refine am_getA (r := 4) dX9_today_71 flX9_19 (Or.inl ⟨_, rfl⟩) rfl (by decide) rfl ?_
          refine am_aload_n rfl rfl dX9_today_74 ?_
          refine am_getA (r := 9) dX9_today_75 flX9_26 (Or.inl ⟨_, rfl⟩) rfl (by decide) rfl ?_
          refine am_getA (r := 10) dX9_today_78 flX9_164 (Or.inr ⟨_, rfl⟩) rfl (by decide) rfl ?_
          refine am_invV (ci := 1) (As := [.ref 10]) (lsZ := [some (.ref 4), some (.ref 10), none, none]) (st := []) dX9_today_81 hX2_workOf lkX9_195 ⟨by decide, by decide⟩ (by decide) rfl (by decide) rfl rfl rfl (Nat.le_of_ble_eq_true rfl) rfl (Nat.le_of_ble_eq_true rfl) ⟨Nat.le_refl _, Nat.le_refl _⟩ (am_R.mono wp (fun r h' q => am_R.forget q trivial))
        have wp := wq4.2.2 hs4_0 hs4_1
        have hz4_0 : a1.toInt ≠ 0 := am_ne hs4_0
        have hz4_1 : a1.toInt ≠ 1 := am_ne hs4_1
        refine am_look dX9_today_26 rfl (off := 59) (lkd_2 hz4_0 hz4_1) (tgt := 85) rfl ?_
        refine am_aload_n rfl rfl dX9_today_85 ?_
        refine am_getA (r := 4) dX9_today_86 flX9_19 (Or.inl ⟨_, rfl⟩) rfl (by decide) rfl ?_
        refine am_aload_n rfl rfl dX9_today_89 ?_
        refine am_getA (r := 9) dX9_today_90 flX9_26 (Or.inl ⟨_, rfl⟩) rfl (by decide) rfl ?_
        refine am_getA (r := 10) dX9_today_93 flX9_164 (Or.inr ⟨_, rfl⟩) rfl (by decide) rfl ?_
        refine am_invV (ci := 1) (As := [.ref 10]) (lsZ := [some (.ref 4), some (.ref 10), none, none]) (st := []) dX9_today_96 hX2_gladnessOf lkX9_178 ⟨by decide, by decide⟩ (by decide) rfl (by decide) rfl rfl rfl (Nat.le_of_ble_eq_true rfl) rfl (Nat.le_of_ble_eq_true rfl) ⟨Nat.le_refl _, Nat.le_refl _⟩ (am_R.mono wp (fun r h' q => am_R.forget q trivial))
      · have wp := wp.2 hc3
        refine am_bipush (-4) rfl dX9_today_22 ?_
        exact am_iret dX9_today_24 rfl rfl wp
    · have wp := wp.2 hc2
      refine am_bipush (-3) rfl dX9_today_9 ?_
      exact am_iret dX9_today_11 rfl rfl wp
theorem bX9_today_69 {E : Nat × (Nat → Int32)} {I : Nat → Nat → Int32} {J : Nat → Nat → Int64} {b : Bool} {x0 : Int32} {Q : Option Value → am_H → Prop}  (wp : Q (some (.int x0)) (hp I J b)) : am_R E mX9_today 69 [none, none] [.int x0] (hp I J b) 64 64 Q := by
  exact am_iret dX9_today_69 rfl rfl wp
theorem bX9_today_84 {E : Nat × (Nat → Int32)} {I : Nat → Nat → Int32} {J : Nat → Nat → Int64} {b : Bool} {x0 : Int32} {Q : Option Value → am_H → Prop}  (wp : Q (some (.int x0)) (hp I J b)) : am_R E mX9_today 84 [none, none] [.int x0] (hp I J b) 64 64 Q := by
  exact am_iret dX9_today_84 rfl rfl wp
theorem bX9_today_99 {E : Nat × (Nat → Int32)} {I : Nat → Nat → Int32} {J : Nat → Nat → Int64} {b : Bool} {x0 : Int32} {Q : Option Value → am_H → Prop}  (wp : Q (some (.int x0)) (hp I J b)) : am_R E mX9_today 99 [none, none] [.int x0] (hp I J b) 64 64 Q := by
  exact am_iret dX9_today_99 rfl rfl wp
theorem bX10_today_0 {E : Nat × (Nat → Int32)} {I : Nat → Nat → Int32} {J : Nat → Nat → Int64} {b : Bool} {a1 : Int32} {Q : Option Value → am_H → Prop}  (wp : (((0 ≤ a1 ∧ a1 ≤ 2) → ((¬ (I 55 0) = 0 → am_R E mX10_takeToday 0 [some (.ref 48), none] [] (hp I J b) 64 64 (fun r h' => am_R E mX10_today 28 [some (.ref 48), some (.int a1)] (r.toList ++ []) h' 64 64 Q)) ∧ ((I 55 0) = 0 → Q (some (.int (-4))) (hp I J b)))) ∧ (¬ (0 ≤ a1 ∧ a1 ≤ 2) → Q (some (.int (-3))) (hp I J b)))) : am_R E mX10_today 0 [some (.ref 48), some (.int a1)] [] (hp I J b) 64 64 Q := by
  refine am_iload_n rfl rfl dX10_today_0 ?_
  refine am_iconst 0 rfl dX10_today_1 ?_
  refine am_iconst 2 rfl dX10_today_2 ?_
  refine am_invS (As := [.int a1, .int 0, .int 2]) (lsZ := [some (.int a1), some (.int 0), some (.int 2)]) (st := []) dX10_today_3 hX10_in lkX10_69 ⟨by decide, by decide⟩ rfl rfl (Nat.le_of_ble_eq_true rfl) rfl (Nat.le_of_ble_eq_true rfl) ⟨Nat.le_refl _, Nat.le_refl _⟩ (tX10_in  (fun hc1 => ?_) (fun hc1 => ?_))
  · have wp := wp.1 hc1
    show am_R E mX10_today 6 [some (.ref 48), some (.int a1)] [.int 1] (hp I J b) 64 64 Q
    refine am_if_ne dX10_today_6 (tgt := 12) rfl (fun _ => ?_) (fun hc => absurd hc (by decide))
    refine am_aload_n rfl rfl dX10_today_12 ?_
    refine am_getA (r := 55) dX10_today_13 flX10_35 (Or.inr ⟨_, rfl⟩) rfl (by decide) rfl ?_
    refine am_iconst 0 rfl dX10_today_16 ?_
    refine am_ialdN (j := 0) dX10_today_17 rfl (by decide) rfl (by decide) (by decide) ?_
    refine am_if_ne dX10_today_18 (tgt := 24) rfl (fun hc2 => ?_) (fun hc2 => ?_)
    · have wp := wp.1 hc2
      refine am_aload_n rfl rfl dX10_today_24 ?_
      refine am_invV (ci := 8) (As := []) (lsZ := [some (.ref 48), none]) (st := []) dX10_today_25 hX10_takeToday lkX10_190 ⟨by decide, by decide⟩ (by decide) rfl (by decide) rfl rfl rfl (Nat.le_of_ble_eq_true rfl) rfl (Nat.le_of_ble_eq_true rfl) ⟨Nat.le_refl _, Nat.le_refl _⟩ (am_R.mono wp (fun r h' q => am_R.forget q ⟨rfl, ⟨rfl, trivial⟩⟩))
    · have wp := wp.2 hc2
      refine am_bipush (-4) rfl dX10_today_21 ?_
      exact am_iret dX10_today_23 rfl rfl wp
  · have wp := wp.2 hc1
    show am_R E mX10_today 6 [some (.ref 48), some (.int a1)] [.int 0] (hp I J b) 64 64 Q
    refine am_if_ne dX10_today_6 (tgt := 12) rfl (fun hc => absurd hc (by decide)) (fun _ => ?_)
    refine am_bipush (-3) rfl dX10_today_9 ?_
    exact am_iret dX10_today_11 rfl rfl wp
theorem bX10_today_28 {E : Nat × (Nat → Int32)} {I : Nat → Nat → Int32} {J : Nat → Nat → Int64} {b : Bool} {a1 : Int32} {Q : Option Value → am_H → Prop}  (wp : ((¬ a1 = 0 → ((¬ a1 = 1 → am_R E mX10_gladnessOf 0 [some (.ref 48), none, none] [] (hp I J b) 64 64 (fun r h' => am_R E mX10_today 55 [none, none] (r.toList ++ []) h' 64 64 Q)) ∧ (a1 = 1 → am_R E mX10_workOf 0 [some (.ref 48), none, none] [] (hp I J b) 64 64 (fun r h' => am_R E mX10_today 48 [none, none] (r.toList ++ []) h' 64 64 Q)))) ∧ (a1 = 0 → am_R E mX10_numberOf 0 [some (.ref 48), none, none, none, none] [] (hp I J b) 64 64 (fun r h' => am_R E mX10_today 36 [none, none] (r.toList ++ []) h' 64 64 Q)))) : am_R E mX10_today 28 [some (.ref 48), some (.int a1)] [] (hp I J b) 64 64 Q := by
  refine am_iload_n rfl rfl dX10_today_28 ?_
  refine am_if_ne dX10_today_29 (tgt := 39) rfl (fun hc1 => ?_) (fun hc1 => ?_)
  · have wp := wp.1 hc1
    refine am_iload_n rfl rfl dX10_today_39 ?_
    refine am_iconst 1 rfl dX10_today_40 ?_
    refine am_icmp_ne dX10_today_41 (tgt := 51) rfl (fun hc2 => ?_) (fun hc2 => ?_)
    · have wp := wp.1 hc2
      refine am_aload_n rfl rfl dX10_today_51 ?_
      refine am_invV (ci := 8) (As := []) (lsZ := [some (.ref 48), none, none]) (st := []) dX10_today_52 hX10_gladnessOf lkX10_200 ⟨by decide, by decide⟩ (by decide) rfl (by decide) rfl rfl rfl (Nat.le_of_ble_eq_true rfl) rfl (Nat.le_of_ble_eq_true rfl) ⟨Nat.le_refl _, Nat.le_refl _⟩ (am_R.mono wp (fun r h' q => am_R.forget q trivial))
    · have wp := wp.2 hc2
      refine am_aload_n rfl rfl dX10_today_44 ?_
      refine am_invV (ci := 8) (As := []) (lsZ := [some (.ref 48), none, none]) (st := []) dX10_today_45 hX10_workOf lkX10_227 ⟨by decide, by decide⟩ (by decide) rfl (by decide) rfl rfl rfl (Nat.le_of_ble_eq_true rfl) rfl (Nat.le_of_ble_eq_true rfl) ⟨Nat.le_refl _, Nat.le_refl _⟩ (am_R.mono wp (fun r h' q => am_R.forget q trivial))
  · have wp := wp.2 hc1
    refine am_aload_n rfl rfl dX10_today_32 ?_
    refine am_invV (ci := 8) (As := []) (lsZ := [some (.ref 48), none, none, none, none]) (st := []) dX10_today_33 hX10_numberOf lkX10_224 ⟨by decide, by decide⟩ (by decide) rfl (by decide) rfl rfl rfl (Nat.le_of_ble_eq_true rfl) rfl (Nat.le_of_ble_eq_true rfl) ⟨Nat.le_refl _, Nat.le_refl _⟩ (am_R.mono wp (fun r h' q => am_R.forget q trivial))
theorem bX10_today_36 {E : Nat × (Nat → Int32)} {I : Nat → Nat → Int32} {J : Nat → Nat → Int64} {b : Bool} {x0 : Int32} {Q : Option Value → am_H → Prop}  (wp : Q (some (.int x0)) (hp I J b)) : am_R E mX10_today 36 [none, none] [.int x0] (hp I J b) 64 64 Q := by
  refine am_goto dX10_today_36 (tgt := 55) rfl ?_
  exact am_iret dX10_today_55 rfl rfl wp
theorem bX10_today_48 {E : Nat × (Nat → Int32)} {I : Nat → Nat → Int32} {J : Nat → Nat → Int64} {b : Bool} {x0 : Int32} {Q : Option Value → am_H → Prop}  (wp : Q (some (.int x0)) (hp I J b)) : am_R E mX10_today 48 [none, none] [.int x0] (hp I J b) 64 64 Q := by
  refine am_goto dX10_today_48 (tgt := 55) rfl ?_
  exact am_iret dX10_today_55 rfl rfl wp
theorem bX10_today_55 {E : Nat × (Nat → Int32)} {I : Nat → Nat → Int32} {J : Nat → Nat → Int64} {b : Bool} {x0 : Int32} {Q : Option Value → am_H → Prop}  (wp : Q (some (.int x0)) (hp I J b)) : am_R E mX10_today 55 [none, none] [.int x0] (hp I J b) 64 64 Q := by
  exact am_iret dX10_today_55 rfl rfl wp
/-- today's row of the reference, once it is taken -/
theorem tk_rw {p : Nat → Nat} (h7 : n ≤ 7) (h1 : ∀ m, m < n → I 55 (1 + m) = nI (p m)) (hp' : Pm p n) : Rw (va_cpy (I 55) (I 58) 1 0 n) p n := by
  intro m hm
  refine ⟨?_, hp'.1 m hm⟩
  unfold va_cpy
  rw [if_pos (by omega), show 1 + (m - 0) = 1 + m by omega]
  exact h1 m hm
theorem p_today (hI : Inv I n) (a1 : Int32) : Pair E mX9_today mX10_today [some (.ref 0), some (.int a1)] [some (.ref 48), some (.int a1)] I J b := by
  have hI0 := hI
  obtain ⟨hM, hC⟩ := hI
  obtain ⟨hN, -, -, -, -, -, hD, -⟩ := hM
  obtain ⟨hCH, -, -, -, -, c5, -⟩ := hC
  obtain ⟨n0, n2, n7⟩ := hN
  have e0 : I 4 0 = nI n := hCH.1
  have r10 : rowc 10 := Or.inl rfl
  by_cases hk : 0 ≤ a1 ∧ a1 ≤ 2
  · have nl : ¬ a1 < 0 := Int32.not_lt.mpr hk.1
    rcases hD.1 with z | z
    · refine Pair.same hI0 (.int (-4)) (fun Q h => bX9_today_0 ⟨fun q => absurd q nl, fun _ => ⟨fun _ => ⟨fun q => absurd (c5.1.trans z) q, fun _ => h⟩, fun q => absurd hk.2 q⟩⟩) (fun J b Q h => bX10_today_0 ⟨fun _ => ⟨fun q => absurd z q, fun _ => h⟩, fun q => absurd hk q⟩)
    · obtain ⟨p, hp1, hp2⟩ := hD.2.1 z
      have nz1 : ¬ I 9 0 = 0 := by rw [c5.1, z]; decide
      have nz2 : ¬ I 55 0 = 0 := by rw [z]; decide
      have hR : Rw (I 10) p n := fun m hm => ⟨by rw [c5.2.2.1 z m hm]; exact hp1 m hm, hp2.1 m hm⟩
      have hR2 := tk_rw (I := I) n7 hp1 hp2
      have cls : ∀ Q : Option Value → am_H → Prop, ((a1 = 0 → Q (some (.int (nI (rk n p)))) (hp I J b)) ∧ (a1 = 1 → Q (some (.int (sm (fun m => I 49 (7 * m + p m)) n))) (hp I J b)) ∧ (¬ a1 = 0 → ¬ a1 = 1 → Q (some (.int (sm (fun m => I 50 (7 * m + p m)) n))) (hp I J b))) → am_R E mX9_today 0 [some (.ref 0), some (.int a1)] [] (hp I J b) 64 64 Q := by
        intro Q h
        exact bX9_today_0 ⟨fun q => absurd q nl, fun _ => ⟨fun _ => ⟨fun _ => ⟨fun q => tX3_numberOf r10 n7 e0 hR hp2 (bX9_today_69 (h.1 q)), fun q => tX2_workOf r10 hCH hR (bX9_today_84 (h.2.1 q)), fun q1 q2 => tX2_gladnessOf r10 hCH hR (bX9_today_99 (h.2.2 q1 q2))⟩, fun q => absurd q nz1⟩, fun q => absurd hk.2 q⟩⟩
      have mdl : ∀ (J : Nat → Nat → Int64) (b : Bool) (Q : Option Value → am_H → Prop), (∀ g, (a1 = 0 → Q (some (.int (nI (rk n p)))) (hp (u1 I 58 g) J b)) ∧ (a1 = 1 → Q (some (.int (sm (fun m => I 49 (7 * m + p m)) n))) (hp (u1 I 58 g) J b)) ∧ (¬ a1 = 0 → ¬ a1 = 1 → Q (some (.int (sm (fun m => I 50 (7 * m + p m)) n))) (hp (u1 I 58 g) J b))) → am_R E mX10_today 0 [some (.ref 48), some (.int a1)] [] (hp I J b) 64 64 Q := by
        intro J b Q h
        refine bX10_today_0 ⟨fun _ => ⟨fun _ => tX10_takeToday (n := n) ⟨n0, n2, n7⟩ ?_, fun q => absurd q nz2⟩, fun q => absurd hk q⟩
        have h := h (va_cpy (I 55) (I 58) 1 0 n)
        refine bX10_today_28 ⟨fun q0 => ⟨fun q1 => tX10_gladnessOf (n := n) (p := p) ⟨n0, n2, n7⟩ (by rw [u1_s]; exact hR2) (bX10_today_55 (h.2.2 q0 q1)), fun q1 => tX10_workOf (n := n) (p := p) ⟨n0, n2, n7⟩ (by rw [u1_s]; exact hR2) (bX10_today_48 (h.2.1 q1))⟩, fun q0 => tX10_numberOf (n := n) (p := p) ⟨n0, n2, n7⟩ (by rw [u1_s]; exact hR2) (bX10_today_36 (h.1 q0))⟩
      by_cases h0 : a1 = 0
      · exact ⟨.int (nI (rk n p)), fun I1 => I1 = I, fun Q h => cls Q ⟨fun _ => h I J b rfl, fun q => by rw [h0] at q; exact absurd q (by decide), fun q => absurd h0 q⟩, fun I1 J1 b1 e Q h => by subst e; exact mdl J1 b1 Q (fun g => ⟨fun _ => h _ J1 b1 n (hI0.sa ⟨⟨⟨rfl, rfl, rfl, rfl, rfl, rfl, rfl, rfl, rfl⟩, ⟨rfl, rfl, rfl, rfl, rfl, rfl, rfl, rfl, rfl, rfl, rfl, rfl, rfl, rfl, rfl, rfl⟩, ⟨rfl, rfl, rfl, rfl, rfl, rfl, rfl, rfl, rfl⟩⟩, ⟨rfl, rfl, rfl, rfl⟩⟩), fun q => by rw [h0] at q; exact absurd q (by decide), fun q => absurd h0 q⟩)⟩
      · by_cases h1 : a1 = 1
        · exact ⟨.int (sm (fun m => I 49 (7 * m + p m)) n), fun I1 => I1 = I, fun Q h => cls Q ⟨fun q => absurd q h0, fun _ => h I J b rfl, fun _ q => absurd h1 q⟩, fun I1 J1 b1 e Q h => by subst e; exact mdl J1 b1 Q (fun g => ⟨fun q => absurd q h0, fun _ => h _ J1 b1 n (hI0.sa ⟨⟨⟨rfl, rfl, rfl, rfl, rfl, rfl, rfl, rfl, rfl⟩, ⟨rfl, rfl, rfl, rfl, rfl, rfl, rfl, rfl, rfl, rfl, rfl, rfl, rfl, rfl, rfl, rfl⟩, ⟨rfl, rfl, rfl, rfl, rfl, rfl, rfl, rfl, rfl⟩⟩, ⟨rfl, rfl, rfl, rfl⟩⟩), fun _ q => absurd h1 q⟩)⟩
        · exact ⟨.int (sm (fun m => I 50 (7 * m + p m)) n), fun I1 => I1 = I, fun Q h => cls Q ⟨fun q => absurd q h0, fun q => absurd q h1, fun _ _ => h I J b rfl⟩, fun I1 J1 b1 e Q h => by subst e; exact mdl J1 b1 Q (fun g => ⟨fun q => absurd q h0, fun q => absurd q h1, fun _ _ => h _ J1 b1 n (hI0.sa ⟨⟨⟨rfl, rfl, rfl, rfl, rfl, rfl, rfl, rfl, rfl⟩, ⟨rfl, rfl, rfl, rfl, rfl, rfl, rfl, rfl, rfl, rfl, rfl, rfl, rfl, rfl, rfl, rfl⟩, ⟨rfl, rfl, rfl, rfl, rfl, rfl, rfl, rfl, rfl⟩⟩, ⟨rfl, rfl, rfl, rfl⟩⟩)⟩)⟩
  · exact Pair.same hI0 (.int (-3)) (fun Q h => bX9_today_0 ⟨fun _ => h, fun q => ⟨fun q2 => absurd ⟨nlt q, q2⟩ hk, fun _ => h⟩⟩) (fun J b Q h => bX10_today_0 ⟨fun q => absurd q hk, fun _ => h⟩)
theorem bX9_settle_0 {E : Nat × (Nat → Int32)} {I : Nat → Nat → Int32} {J : Nat → Nat → Int64} {b : Bool}  {Q : Option Value → am_H → Prop}  (wp : ((¬ (I 9 0) = 0 → am_R E mX5_passAll 0 [some (.ref 23), some (.ref 10), some (.int (I 4 1)), none] [] (hp I J b) 64 64 (fun r h' => am_R E mX9_settle 34 [none] (r.toList ++ []) h' 64 64 Q)) ∧ ((I 9 0) = 0 → Q (some (.int (-4))) (hp I J b)))) : am_R E mX9_settle 0 [some (.ref 0)] [] (hp I J b) 64 64 Q := by
  refine am_aload_n rfl rfl dX9_settle_0 ?_
  refine am_getA (r := 9) dX9_settle_1 flX9_26 (Or.inl ⟨_, rfl⟩) rfl (by decide) rfl ?_
  refine am_getI dX9_settle_4 flX9_160 (Or.inr rfl) rfl (by decide) ?_
  refine am_if_ne dX9_settle_7 (tgt := 13) rfl (fun hc1 => ?_) (fun hc1 => ?_)
  · have wp := wp.1 hc1
    refine am_aload_n rfl rfl dX9_settle_13 ?_
    refine am_getA (r := 23) dX9_settle_14 flX9_43 (Or.inl ⟨_, rfl⟩) rfl (by decide) rfl ?_
    refine am_aload_n rfl rfl dX9_settle_17 ?_
    refine am_getA (r := 9) dX9_settle_18 flX9_26 (Or.inl ⟨_, rfl⟩) rfl (by decide) rfl ?_
    refine am_getA (r := 10) dX9_settle_21 flX9_164 (Or.inr ⟨_, rfl⟩) rfl (by decide) rfl ?_
    refine am_aload_n rfl rfl dX9_settle_24 ?_
    refine am_getA (r := 4) dX9_settle_25 flX9_19 (Or.inl ⟨_, rfl⟩) rfl (by decide) rfl ?_
    refine am_getI dX9_settle_28 flX9_167 (Or.inl rfl) rfl (by decide) ?_
    refine am_invV (ci := 3) (As := [.ref 10, .int (I 4 1)]) (lsZ := [some (.ref 23), some (.ref 10), some (.int (I 4 1)), none]) (st := []) dX9_settle_31 hX5_passAll lkX9_182 ⟨by decide, by decide⟩ (by decide) rfl (by decide) rfl rfl rfl (Nat.le_of_ble_eq_true rfl) rfl (Nat.le_of_ble_eq_true rfl) ⟨Nat.le_refl _, Nat.le_refl _⟩ (am_R.mono wp (fun r h' q => am_R.forget q trivial))
  · have wp := wp.2 hc1
    refine am_bipush (-4) rfl dX9_settle_10 ?_
    exact am_iret dX9_settle_12 rfl rfl wp
theorem bX9_settle_34 {E : Nat × (Nat → Int32)} {I : Nat → Nat → Int32} {J : Nat → Nat → Int64} {b : Bool} {x0 : Int32} {Q : Option Value → am_H → Prop}  (wp : Q (some (.int x0)) (hp I J b)) : am_R E mX9_settle 34 [none] [.int x0] (hp I J b) 64 64 Q := by
  exact am_iret dX9_settle_34 rfl rfl wp
theorem bX10_settle_0 {E : Nat × (Nat → Int32)} {I : Nat → Nat → Int32} {J : Nat → Nat → Int64} {b : Bool}  {Q : Option Value → am_H → Prop}  (wp : ((¬ (I 55 0) = 0 → am_R E mX10_takeToday 0 [some (.ref 48), none] [] (hp I J b) 64 64 (fun r h' => am_R E mX10_settle 16 [some (.ref 48), none] (r.toList ++ []) h' 64 64 Q)) ∧ ((I 55 0) = 0 → Q (some (.int (-4))) (hp I J b)))) : am_R E mX10_settle 0 [some (.ref 48), none] [] (hp I J b) 64 64 Q := by
  refine am_aload_n rfl rfl dX10_settle_0 ?_
  refine am_getA (r := 55) dX10_settle_1 flX10_35 (Or.inr ⟨_, rfl⟩) rfl (by decide) rfl ?_
  refine am_iconst 0 rfl dX10_settle_4 ?_
  refine am_ialdN (j := 0) dX10_settle_5 rfl (by decide) rfl (by decide) (by decide) ?_
  refine am_if_ne dX10_settle_6 (tgt := 12) rfl (fun hc1 => ?_) (fun hc1 => ?_)
  · have wp := wp.1 hc1
    refine am_aload_n rfl rfl dX10_settle_12 ?_
    refine am_invV (ci := 8) (As := []) (lsZ := [some (.ref 48), none]) (st := []) dX10_settle_13 hX10_takeToday lkX10_190 ⟨by decide, by decide⟩ (by decide) rfl (by decide) rfl rfl rfl (Nat.le_of_ble_eq_true rfl) rfl (Nat.le_of_ble_eq_true rfl) ⟨Nat.le_refl _, Nat.le_refl _⟩ (am_R.mono wp (fun r h' q => am_R.forget q ⟨rfl, trivial⟩))
  · have wp := wp.2 hc1
    refine am_bipush (-4) rfl dX10_settle_9 ?_
    exact am_iret dX10_settle_11 rfl rfl wp
theorem bX10_settle_16 {E : Nat × (Nat → Int32)} {I : Nat → Nat → Int32} {J : Nat → Nat → Int64} {b : Bool}  {Q : Option Value → am_H → Prop}  (wp : am_R E mX10_settleBy 0 [some (.ref 48), some (.int (I 48 1)), none, none] [] (hp I J b) 64 64 (fun r h' => am_R E mX10_settle 24 [some (.ref 48), none] (r.toList ++ []) h' 64 64 Q)) : am_R E mX10_settle 16 [some (.ref 48), none] [] (hp I J b) 64 64 Q := by
  refine am_aload_n rfl rfl dX10_settle_16 ?_
  refine am_aload_n rfl rfl dX10_settle_17 ?_
  refine am_getI dX10_settle_18 flX10_13 (Or.inl rfl) rfl (by decide) ?_
  refine am_invV (ci := 8) (As := [.int (I 48 1)]) (lsZ := [some (.ref 48), some (.int (I 48 1)), none, none]) (st := []) dX10_settle_21 hX10_settleBy lkX10_221 ⟨by decide, by decide⟩ (by decide) rfl (by decide) rfl rfl rfl (Nat.le_of_ble_eq_true rfl) rfl (Nat.le_of_ble_eq_true rfl) ⟨Nat.le_refl _, Nat.le_refl _⟩ (am_R.mono wp (fun r h' q => am_R.forget q ⟨rfl, trivial⟩))
theorem bX10_settle_24 {E : Nat × (Nat → Int32)} {I : Nat → Nat → Int32} {J : Nat → Nat → Int64} {b : Bool} {x0 : Int32} {Q : Option Value → am_H → Prop}  (wp : am_R E mX10_putToday 0 [some (.ref 48), none] [] (hp I J b) 64 64 (fun r h' => am_R E mX10_settle 29 [none, some (.int x0)] (r.toList ++ []) h' 64 64 Q)) : am_R E mX10_settle 24 [some (.ref 48), none] [.int x0] (hp I J b) 64 64 Q := by
  refine am_istore_n (ls' := [some (.ref 48), some (.int x0)]) rfl (by decide) rfl rfl dX10_settle_24 ?_
  refine am_aload_n rfl rfl dX10_settle_25 ?_
  refine am_invV (ci := 8) (As := []) (lsZ := [some (.ref 48), none]) (st := []) dX10_settle_26 hX10_putToday lkX10_183 ⟨by decide, by decide⟩ (by decide) rfl (by decide) rfl rfl rfl (Nat.le_of_ble_eq_true rfl) rfl (Nat.le_of_ble_eq_true rfl) ⟨Nat.le_refl _, Nat.le_refl _⟩ (am_R.mono wp (fun r h' q => am_R.forget q ⟨rfl, trivial⟩))
theorem bX10_settle_29 {E : Nat × (Nat → Int32)} {I : Nat → Nat → Int32} {J : Nat → Nat → Int64} {b : Bool} {a1 : Int32} {Q : Option Value → am_H → Prop}  (wp : Q (some (.int a1)) (hp I J b)) : am_R E mX10_settle 29 [none, some (.int a1)] [] (hp I J b) 64 64 Q := by
  refine am_iload_n rfl rfl dX10_settle_29 ?_
  exact am_iret dX10_settle_30 rfl rfl wp
theorem p_settle (hI : Inv I n) : Pair E mX9_settle mX10_settle [some (.ref 0)] [some (.ref 48), none] I J b := by
  have hI0 := hI
  obtain ⟨hM, hC⟩ := hI
  obtain ⟨hN, hG, -, hL, -, -, hD, -⟩ := hM
  obtain ⟨hCH, c2, -, -, -, c5, -⟩ := hC
  obtain ⟨n0, n2, n7⟩ := hN
  have hY : Yw I n := hD.2.2.1
  have r10 : rowc 10 := Or.inl rfl
  rcases hD.1 with z | z
  · exact Pair.same hI0 (.int (-4)) (fun Q h => bX9_settle_0 ⟨fun q => absurd (c5.1.trans z) q, fun _ => h⟩) (fun J b Q h => bX10_settle_0 ⟨fun q => absurd z q, fun _ => h⟩)
  · obtain ⟨p, hp1, hp2⟩ := hD.2.1 z
    have nz1 : ¬ I 9 0 = 0 := by rw [c5.1, z]; decide
    have nz2 : ¬ I 55 0 = 0 := by rw [z]; decide
    have hR : Rw (I 10) p n := fun m hm => ⟨by rw [c5.2.2.1 z m hm]; exact hp1 m hm, hp2.1 m hm⟩
    obtain ⟨g, hg, eg⟩ : ∃ g : Nat, (g = 0 ∨ g = 2 ∨ g = 3) ∧ I 48 1 = nI g := by
      rcases hG with q | q | q
      · exact ⟨0, Or.inl rfl, q⟩
      · exact ⟨2, Or.inr (Or.inl rfl), q⟩
      · exact ⟨3, Or.inr (Or.inr rfl), q⟩
    have hpm := stR_pm (I := I) (by' := g) 63 p hp2
    refine ⟨.int (nI (stR I n g 63 p).2), fun I1 => ∃ f F c, Rw f (stR I n g 63 p).1 n ∧ I1 = fh (u1 I 10 f) F c, fun Q h => ?_, fun I1 J1 b1 e Q h => ?_⟩
    · refine bX9_settle_0 ⟨fun _ => tX5_passAll (by' := g) r10 hCH hR hg (c2.trans eg) (fun f F c hf => bX9_settle_34 (h _ J b ⟨f, F, c, hf, rfl⟩)), fun q => absurd q nz1⟩
    · obtain ⟨f, F, c, hf, rfl⟩ := e
      refine bX10_settle_0 ⟨fun _ => tX10_takeToday (n := n) ⟨n0, n2, n7⟩ ?_, fun q => absurd q nz2⟩
      refine bX10_settle_16 (tX10_settleBy (n := n) (by' := g) (p := p) ⟨n0, n2, n7⟩ hY hL ?_ eg (by omega) (fun f2 x y zz hf2 => ?_))
      · rw [u1_s]; exact tk_rw (I := fh (u1 I 10 f) F c) n7 hp1 hp2
      · have es : stR (u1 (fh (u1 I 10 f) F c) 58 (va_cpy (fh (u1 I 10 f) F c 55) (fh (u1 I 10 f) F c 58) 1 0 n)) = stR I := stR_eq rfl rfl rfl (fun _ => rfl)
        rw [es] at hf2 ⊢
        refine bX10_settle_24 (tX10_putToday (n := n) ⟨n0, n2, n7⟩ (bX10_settle_29 ?_))
        obtain ⟨p1, p2, p3⟩ := put_at (f := I 55) hf2
        refine h _ J1 b1 n (Inv.day (p := (stR I n g 63 p).1) hI0 ⟨⟨rfl, rfl, rfl, rfl⟩, ⟨rfl, rfl, rfl, rfl, rfl, rfl, rfl⟩, ⟨rfl, rfl, rfl, rfl, rfl, rfl, rfl, rfl, rfl, rfl, rfl, rfl, rfl, rfl, rfl, rfl⟩, ⟨rfl, rfl, rfl, rfl, rfl, rfl, rfl, rfl⟩⟩ ?_ rfl (fun m hm => (hf m hm).1) p1 p2 (fun j hj => p3 j hj n7) hpm)
        exact c5.1.trans z
end P4
