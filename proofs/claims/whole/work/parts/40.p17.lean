/-! ===== pair: ends ===== -/
section P17
variable {E : Nat × (Nat → Int32)} {I I' : Nat → Nat → Int32} {J J' : Nat → Nat → Int64} {b : Bool} {n : Nat} {Q : Option Value → am_H → Prop}
/-- the reference's cells of its search may differ -/
def An (I I' : Nat → Nat → Int32) : Prop := (∀ a, a ≠ 48 → a ≠ 58 → a ≠ 60 → a ≠ 61 → I' a = I a) ∧ ∀ j, j < 26 → I' 48 j = I 48 j
theorem An.rf (I : Nat → Nat → Int32) : An I I := ⟨fun _ _ _ _ _ => rfl, fun _ _ => rfl⟩
theorem An.u1 {k : Nat} {f : Nat → Int32} (h : An I I') (hk : k = 58 ∨ k = 60 ∨ k = 61) : An I (u1 I' k f) := ⟨fun a h1 h2 h3 h4 => by rw [u1_n _ _ (by omega)]; exact h.1 a h1 h2 h3 h4, fun j hj => by rw [u1_n _ _ (by omega)]; exact h.2 j hj⟩
theorem An.u2 {k i : Nat} {x : Int32} (h : An I I') (hk : k = 58 ∨ k = 60 ∨ k = 61) : An I (u2 I' k i x) := ⟨fun a h1 h2 h3 h4 => by rw [u2_n _ _ _ (by omega)]; exact h.1 a h1 h2 h3 h4, fun j hj => by rw [u2_n _ _ _ (by omega)]; exact h.2 j hj⟩
theorem rg_n48 {I : Nat → Nat → Int32} {x y z : Int32} {a : Nat} (h : a ≠ 48) : rg I x y z a = I a := by unfold rg; exact u1_n _ _ h
theorem An.rg' {x y z : Int32} (h : An I I') : An I (rg I' x y z) := ⟨fun a h1 h2 h3 h4 => by rw [rg_n48 h1]; exact h.1 a h1 h2 h3 h4, fun j hj => by
  have e : rg I' x y z 48 j = I' 48 j := by
    unfold rg
    rw [u1_s]
    unfold upd
    rw [if_neg (by omega), if_neg (by omega), if_neg (by omega)]
  rw [e]; exact h.2 j hj⟩
theorem An.m (h : An I I') (hN : Nn I n) (hY : Yw I n) : Nn I' n ∧ Yw I' n ∧ wc I' = wc I ∧ I' 50 = I 50 := by
  have g : ∀ a, a ≠ 48 → a ≠ 58 → a ≠ 60 → a ≠ 61 → I' a = I a := h.1
  refine ⟨⟨by rw [h.2 0 (by omega)]; exact hN.1, hN.2⟩, ?_, wc_eq (g 49 (by decide) (by decide) (by decide) (by decide)) (g 50 (by decide) (by decide) (by decide) (by decide)) (g 51 (by decide) (by decide) (by decide) (by decide)) (fun m => by rw [g 55 (by decide) (by decide) (by decide) (by decide)]), g 50 (by decide) (by decide) (by decide) (by decide)⟩
  unfold Yw at hY ⊢
  rw [g 55 (by decide) (by decide) (by decide) (by decide)]; exact hY
/-- met, and in a line -/
def LnS (I I1 : Nat → Nat → Int32) (N : Nat) (q : (Nat → Bool) × (Nat → Bool)) (ln : Nat → Nat) (many i : Nat) : Prop := An I I1 ∧ (∀ c, c < 5040 → I1 60 c = if q.1 c then 1 else 0) ∧ (∀ j, j < many → I1 61 j = nI (ln j) ∧ q.1 (ln j) = true) ∧ (∀ j, i ≤ j → j < many → q.2 (ln j) = true) ∧ (∀ c, q.2 c = true → ∃ j, i ≤ j ∧ j < many ∧ ln j = c) ∧ (∀ j j', i ≤ j → j < j' → j' < many → ln j ≠ ln j') ∧ fb_ct q.1 N = many ∧ (∀ c, q.1 c = true → c < N) ∧ i ≤ many
theorem LnS.heap {I1 I2 : Nat → Nat → Int32} {N many i : Nat} {q : (Nat → Bool) × (Nat → Bool)} {ln : Nat → Nat} (h : LnS I I1 N q ln many i) (hA : An I I2) (e60 : I2 60 = I1 60) (e61 : I2 61 = I1 61) : LnS I I2 N q ln many i := by
  obtain ⟨-, h2, h3, h4⟩ := h
  exact ⟨hA, by rw [e60]; exact h2, by rw [e61]; exact h3, h4⟩
theorem LnS.add {I1 : Nat → Nat → Int32} {N many i d : Nat} {q : (Nat → Bool) × (Nat → Bool)} {ln : Nat → Nat} (h : LnS I I1 N q ln many i) (hN5 : N ≤ 5040) (hd : d < N) (hq : q.1 d = false) : many < N ∧ LnS I (u2 (u2 I1 60 d 1) 61 many (nI d)) N (aSW q d) (va_up ln many d) (many + 1) i := by
  obtain ⟨h1, h2, h3, h4, h5, h6, h7, h8, h9⟩ := h
  have up := fb_ct_upd q.1 true hd
  rw [hq] at up
  simp only [Bool.false_eq_true, if_false, if_true] at up
  have ec : fb_ct (aSW q d).1 N = fb_ct (fun k => if k = d then true else q.1 k) N := fb_ct_cong (fun x _ => by
    unfold aSW
    by_cases e : x = d
    · simp [e]
    · simp [e])
  have hle := fb_ct_le (fun k => if k = d then true else q.1 k) N
  have hml : many < N := by omega
  refine ⟨hml, (h1.u2 (Or.inr (Or.inl rfl))).u2 (Or.inr (Or.inr rfl)), fun c hc => ?_, fun j hj => ?_, fun j hj hj2 => ?_, fun c hc => ?_, fun j j' hj hjj hj' => ?_, ?_, fun c hc => ?_, by omega⟩
  · rw [u2_n _ _ _ (by decide), u2_s]
    unfold upd aSW
    by_cases e : c = d
    · rw [if_pos e]; simp [e]
    · rw [if_neg e, h2 c hc]; simp [e]
  · rw [u2_s, u2_n _ _ _ (by decide)]
    unfold upd va_up
    by_cases e : j = many
    · rw [if_pos e, if_pos e]; exact ⟨rfl, by simp [aSW]⟩
    · rw [if_neg e, if_neg e]
      obtain ⟨a1, a2⟩ := h3 j (by omega)
      exact ⟨a1, by simp [aSW, a2]⟩
  · unfold va_up
    by_cases e : j = many
    · rw [if_pos e]; simp [aSW, hq]
    · rw [if_neg e]
      simp [aSW, h4 j hj (by omega)]
  · have hc2 : q.2 c = true ∨ c = d := by
      simp [aSW] at hc
      rcases hc with q1 | ⟨q1, -⟩
      · exact Or.inl q1
      · exact Or.inr q1
    unfold va_up
    rcases hc2 with q1 | q1
    · obtain ⟨j, j1, j2, j3⟩ := h5 c q1
      exact ⟨j, j1, by omega, by rw [if_neg (by omega)]; exact j3⟩
    · exact ⟨many, h9, by omega, by rw [if_pos rfl]; exact q1.symm⟩
  · unfold va_up
    rw [if_neg (show ¬ j = many by omega)]
    by_cases e : j' = many
    · rw [if_pos e]
      intro z
      have := (h3 j (by omega)).2
      rw [z, hq] at this
      cases this
    · rw [if_neg e]; exact h6 j j' hj hjj (by omega)
  · rw [ec]; omega
  · unfold aSW at hc
    simp at hc
    rcases hc with q1 | q1
    · exact h8 c q1
    · rw [q1]; exact hd
theorem bX10_ends_0 {E : Nat × (Nat → Int32)} {I : Nat → Nat → Int32} {J : Nat → Nat → Int64} {b : Bool} {a1 : Int32} {Q : Option Value → am_H → Prop}  (wp : (((0 ≤ a1 ∧ a1 ≤ 2) → ((¬ (I 55 0) = 0 → am_R E mX10_ends 26 [some (.ref 48), some (.int a1), some (.int 0), none, none, none, none, none, none] [] (hp I J b) 64 64 Q) ∧ ((I 55 0) = 0 → Q (some (.int (-4))) (hp I J b)))) ∧ (¬ (0 ≤ a1 ∧ a1 ≤ 2) → Q (some (.int (-3))) (hp I J b)))) : am_R E mX10_ends 0 [some (.ref 48), some (.int a1), none, none, none, none, none, none, none] [] (hp I J b) 64 64 Q := by
  refine am_iload_n rfl rfl dX10_ends_0 ?_
  refine am_iconst 0 rfl dX10_ends_1 ?_
  refine am_iconst 2 rfl dX10_ends_2 ?_
  refine am_invS (As := [.int a1, .int 0, .int 2]) (lsZ := [some (.int a1), some (.int 0), some (.int 2)]) (st := []) dX10_ends_3 hX10_in lkX10_69 ⟨by decide, by decide⟩ rfl rfl (Nat.le_of_ble_eq_true rfl) rfl (Nat.le_of_ble_eq_true rfl) ⟨Nat.le_refl _, Nat.le_refl _⟩ (tX10_in  (fun hc1 => ?_) (fun hc1 => ?_))
  · have wp := wp.1 hc1
    show am_R E mX10_ends 6 [some (.ref 48), some (.int a1), none, none, none, none, none, none, none] [.int 1] (hp I J b) 64 64 Q
    refine am_if_ne dX10_ends_6 (tgt := 12) rfl (fun _ => ?_) (fun hc => absurd hc (by decide))
    refine am_aload_n rfl rfl dX10_ends_12 ?_
    refine am_getA (r := 55) dX10_ends_13 flX10_35 (Or.inr ⟨_, rfl⟩) rfl (by decide) rfl ?_
    refine am_iconst 0 rfl dX10_ends_16 ?_
    refine am_ialdN (j := 0) dX10_ends_17 rfl (by decide) rfl (by decide) (by decide) ?_
    refine am_if_ne dX10_ends_18 (tgt := 24) rfl (fun hc2 => ?_) (fun hc2 => ?_)
    · have wp := wp.1 hc2
      refine am_iconst 0 rfl dX10_ends_24 ?_
      refine am_istore_n (ls' := [some (.ref 48), some (.int a1), some (.int 0), none, none, none, none, none, none]) rfl (by decide) rfl rfl dX10_ends_25 ?_
      exact am_R.forget wp ⟨rfl, ⟨rfl, ⟨rfl, trivial⟩⟩⟩
    · have wp := wp.2 hc2
      refine am_bipush (-4) rfl dX10_ends_21 ?_
      exact am_iret dX10_ends_23 rfl rfl wp
  · have wp := wp.2 hc1
    show am_R E mX10_ends 6 [some (.ref 48), some (.int a1), none, none, none, none, none, none, none] [.int 0] (hp I J b) 64 64 Q
    refine am_if_ne dX10_ends_6 (tgt := 12) rfl (fun hc => absurd hc (by decide)) (fun _ => ?_)
    refine am_bipush (-3) rfl dX10_ends_9 ?_
    exact am_iret dX10_ends_11 rfl rfl wp
theorem bX10_ends_26 {E : Nat × (Nat → Int32)} {I : Nat → Nat → Int32} {J : Nat → Nat → Int64} {b : Bool} {a1 : Int32} {a2 : Int32} {Q : Option Value → am_H → Prop}  (wp : ((5040 ≤ a2 → am_R E mX10_takeToday 0 [some (.ref 48), none] [] (hp I J b) 64 64 (fun r h' => am_R E mX10_ends 50 [some (.ref 48), some (.int a1), none, none, none, none, none, none, none] (r.toList ++ []) h' 64 64 Q)) ∧ (¬ 5040 ≤ a2 → ∃ j2, a2 = nI j2 ∧ j2 < 5040 ∧ am_R E mX10_ends 26 [some (.ref 48), some (.int a1), some (.int (a2 + 1)), none, none, none, none, none, none] [] (hp (u2 I 60 j2 0) J b) 64 64 Q))) : am_R E mX10_ends 26 [some (.ref 48), some (.int a1), some (.int a2), none, none, none, none, none, none] [] (hp I J b) 64 64 Q := by
  refine am_iload_n rfl rfl dX10_ends_26 ?_
  refine am_sipush 5040 rfl dX10_ends_27 ?_
  refine am_icmp_ge dX10_ends_30 (tgt := 46) rfl (fun hc1 => ?_) (fun hc1 => ?_)
  · have wp := wp.1 hc1
    refine am_aload_n rfl rfl dX10_ends_46 ?_
    refine am_invV (ci := 8) (As := []) (lsZ := [some (.ref 48), none]) (st := []) dX10_ends_47 hX10_takeToday lkX10_190 ⟨by decide, by decide⟩ (by decide) rfl (by decide) rfl rfl rfl (Nat.le_of_ble_eq_true rfl) rfl (Nat.le_of_ble_eq_true rfl) ⟨Nat.le_refl _, Nat.le_refl _⟩ (am_R.mono wp (fun r h' q => am_R.forget q ⟨rfl, ⟨rfl, trivial⟩⟩))
  · have wp := wp.2 hc1
    refine am_aload_n rfl rfl dX10_ends_33 ?_
    refine am_getA (r := 60) dX10_ends_34 flX10_51 (Or.inr ⟨_, rfl⟩) rfl (by decide) rfl ?_
    refine am_iload_n rfl rfl dX10_ends_37 ?_
    refine am_iconst 0 rfl dX10_ends_38 ?_
    obtain ⟨j2, e2, w2, wp⟩ := wp
    refine am_zastN (j := j2) dX10_ends_39 rfl (by decide) e2 w2 (by decide) (by decide) ?_
    refine am_iinc (ls' := [some (.ref 48), some (.int a1), some (.int (a2 + 1)), none, none, none, none, none, none]) (by decide) rfl rfl rfl dX10_ends_40 ?_
    refine am_goto dX10_ends_43 (tgt := 26) rfl ?_
    exact am_R.forget wp ⟨rfl, ⟨rfl, ⟨rfl, trivial⟩⟩⟩
theorem bX10_ends_50 {E : Nat × (Nat → Int32)} {I : Nat → Nat → Int32} {J : Nat → Nat → Int64} {b : Bool} {a1 : Int32} {Q : Option Value → am_H → Prop}  (wp : am_R E mX10_numberOf 0 [some (.ref 48), none, none, none, none] [] (hp I J b) 64 64 (fun r h' => am_R E mX10_ends 59 [some (.ref 48), some (.int a1), none, none, none, none, none, none, none] (r.toList ++ [.int 0, .ref 61]) h' 64 64 Q)) : am_R E mX10_ends 50 [some (.ref 48), some (.int a1), none, none, none, none, none, none, none] [] (hp I J b) 64 64 Q := by
  refine am_aload_n rfl rfl dX10_ends_50 ?_
  refine am_getA (r := 61) dX10_ends_51 flX10_54 (Or.inr ⟨_, rfl⟩) rfl (by decide) rfl ?_
  refine am_iconst 0 rfl dX10_ends_54 ?_
  refine am_aload_n rfl rfl dX10_ends_55 ?_
  refine am_invV (ci := 8) (As := []) (lsZ := [some (.ref 48), none, none, none, none]) (st := [.int 0, .ref 61]) dX10_ends_56 hX10_numberOf lkX10_224 ⟨by decide, by decide⟩ (by decide) rfl (by decide) rfl rfl rfl (Nat.le_of_ble_eq_true rfl) rfl (Nat.le_of_ble_eq_true rfl) ⟨Nat.le_refl _, Nat.le_refl _⟩ (am_R.mono wp (fun r h' q => am_R.forget q ⟨rfl, ⟨rfl, trivial⟩⟩))
theorem bX10_ends_59 {E : Nat × (Nat → Int32)} {I : Nat → Nat → Int32} {J : Nat → Nat → Int64} {b : Bool} {a1 : Int32} {x0 : Int32} {x1 : Int32} {Q : Option Value → am_H → Prop}  (wp : ∃ j1, x1 = nI j1 ∧ j1 < 5040 ∧ ∃ j2, ((u2 I 61 j1 x0) 61 0) = nI j2 ∧ j2 < 5040 ∧ am_R E mX10_ends 85 [some (.ref 48), some (.int a1), some (.int 1), some (.int 0), some (.int (-1)), some (.int (-1)), some (.int 0), none, none] [] (hp (u2 (u2 I 61 j1 x0) 60 j2 1) J b) 64 64 Q) : am_R E mX10_ends 59 [some (.ref 48), some (.int a1), none, none, none, none, none, none, none] [.int x0, .int x1, .ref 61] (hp I J b) 64 64 Q := by
  obtain ⟨j1, e1, w1, wp⟩ := wp
  refine am_iastN (j := j1) dX10_ends_59 rfl (by decide) e1 w1 (by decide) ?_
  refine am_aload_n rfl rfl dX10_ends_60 ?_
  refine am_getA (r := 60) dX10_ends_61 flX10_51 (Or.inr ⟨_, rfl⟩) rfl (by decide) rfl ?_
  refine am_aload_n rfl rfl dX10_ends_64 ?_
  refine am_getA (r := 61) dX10_ends_65 flX10_54 (Or.inr ⟨_, rfl⟩) rfl (by decide) rfl ?_
  refine am_iconst 0 rfl dX10_ends_68 ?_
  refine am_ialdN (j := 0) dX10_ends_69 rfl (by decide) rfl (by decide) (by decide) ?_
  show am_R E mX10_ends 70 [some (.ref 48), some (.int a1), none, none, none, none, none, none, none] [.int ((u2 I 61 j1 x0) 61 0), .ref 60] (hp (u2 I 61 j1 x0) J b) 64 64 Q
  refine am_iconst 1 rfl dX10_ends_70 ?_
  obtain ⟨j2, e2, w2, wp⟩ := wp
  refine am_zastN (j := j2) dX10_ends_71 rfl (by decide) e2 w2 (by decide) (by decide) ?_
  refine am_iconst 1 rfl dX10_ends_72 ?_
  refine am_istore_n (ls' := [some (.ref 48), some (.int a1), some (.int 1), none, none, none, none, none, none]) rfl (by decide) rfl rfl dX10_ends_73 ?_
  refine am_iconst 0 rfl dX10_ends_74 ?_
  refine am_istore_n (ls' := [some (.ref 48), some (.int a1), some (.int 1), some (.int 0), none, none, none, none, none]) rfl (by decide) rfl rfl dX10_ends_75 ?_
  refine am_iconst (-1) rfl dX10_ends_76 ?_
  refine am_istore (ls' := [some (.ref 48), some (.int a1), some (.int 1), some (.int 0), some (.int (-1)), none, none, none, none]) (by decide) rfl rfl dX10_ends_77 ?_
  refine am_iconst (-1) rfl dX10_ends_79 ?_
  refine am_istore (ls' := [some (.ref 48), some (.int a1), some (.int 1), some (.int 0), some (.int (-1)), some (.int (-1)), none, none, none]) (by decide) rfl rfl dX10_ends_80 ?_
  refine am_iconst 0 rfl dX10_ends_82 ?_
  refine am_istore (ls' := [some (.ref 48), some (.int a1), some (.int 1), some (.int 0), some (.int (-1)), some (.int (-1)), some (.int 0), none, none]) (by decide) rfl rfl dX10_ends_83 ?_
  exact am_R.forget wp ⟨rfl, ⟨rfl, ⟨rfl, ⟨rfl, ⟨rfl, ⟨rfl, ⟨rfl, trivial⟩⟩⟩⟩⟩⟩⟩
theorem bX10_ends_85 {E : Nat × (Nat → Int32)} {I : Nat → Nat → Int32} {J : Nat → Nat → Int64} {b : Bool} {a1 : Int32} {a2 : Int32} {a3 : Int32} {a4 : Int32} {a5 : Int32} {a6 : Int32} {Q : Option Value → am_H → Prop}  (wp : ((a2 ≤ a6 → ((¬ a1 = 0 → ((¬ a1 = 1 → Q (some (.int a5)) (hp I J b)) ∧ (a1 = 1 → Q (some (.int a4)) (hp I J b)))) ∧ (a1 = 0 → Q (some (.int a3)) (hp I J b)))) ∧ (¬ a2 ≤ a6 → ∃ j4, a6 = nI j4 ∧ j4 < 5040 ∧ am_R E mX10_takeDraw 0 [some (.ref 48), some (.int (I 61 j4)), none, none, none, none, none, none] [] (hp I J b) 64 64 (fun r h' => am_R E mX10_ends 102 [some (.ref 48), some (.int a1), some (.int a2), some (.int a3), some (.int a4), some (.int a5), some (.int a6), none, none] (r.toList ++ []) h' 64 64 Q)))) : am_R E mX10_ends 85 [some (.ref 48), some (.int a1), some (.int a2), some (.int a3), some (.int a4), some (.int a5), some (.int a6), none, none] [] (hp I J b) 64 64 Q := by
  refine am_iload rfl dX10_ends_85 ?_
  refine am_iload_n rfl rfl dX10_ends_87 ?_
  refine am_icmp_ge dX10_ends_88 (tgt := 275) rfl (fun hc1 => ?_) (fun hc1 => ?_)
  · have wp := wp.1 hc1
    refine am_iload_n rfl rfl dX10_ends_275 ?_
    refine am_if_ne dX10_ends_276 (tgt := 283) rfl (fun hc2 => ?_) (fun hc2 => ?_)
    · have wp := wp.1 hc2
      refine am_iload_n rfl rfl dX10_ends_283 ?_
      refine am_iconst 1 rfl dX10_ends_284 ?_
      refine am_icmp_ne dX10_ends_285 (tgt := 293) rfl (fun hc3 => ?_) (fun hc3 => ?_)
      · have wp := wp.1 hc3
        refine am_iload rfl dX10_ends_293 ?_
        exact am_iret dX10_ends_295 rfl rfl wp
      · have wp := wp.2 hc3
        refine am_iload rfl dX10_ends_288 ?_
        refine am_goto dX10_ends_290 (tgt := 295) rfl ?_
        exact am_iret dX10_ends_295 rfl rfl wp
    · have wp := wp.2 hc2
      refine am_iload_n rfl rfl dX10_ends_279 ?_
      refine am_goto dX10_ends_280 (tgt := 295) rfl ?_
      exact am_iret dX10_ends_295 rfl rfl wp
  · have wp := wp.2 hc1
    refine am_aload_n rfl rfl dX10_ends_91 ?_
    refine am_aload_n rfl rfl dX10_ends_92 ?_
    refine am_getA (r := 61) dX10_ends_93 flX10_54 (Or.inr ⟨_, rfl⟩) rfl (by decide) rfl ?_
    refine am_iload rfl dX10_ends_96 ?_
    obtain ⟨j4, e4, w4, wp⟩ := wp
    refine am_ialdN (j := j4) dX10_ends_98 rfl (by decide) e4 w4 (by decide) ?_
    refine am_invV (ci := 8) (As := [.int (I 61 j4)]) (lsZ := [some (.ref 48), some (.int (I 61 j4)), none, none, none, none, none, none]) (st := []) dX10_ends_99 hX10_takeDraw lkX10_177 ⟨by decide, by decide⟩ (by decide) rfl (by decide) rfl rfl rfl (Nat.le_of_ble_eq_true rfl) rfl (Nat.le_of_ble_eq_true rfl) ⟨Nat.le_refl _, Nat.le_refl _⟩ (am_R.mono wp (fun r h' q => am_R.forget q ⟨rfl, ⟨rfl, ⟨rfl, ⟨rfl, ⟨rfl, ⟨rfl, ⟨rfl, trivial⟩⟩⟩⟩⟩⟩⟩))
theorem bX10_ends_102 {E : Nat × (Nat → Int32)} {I : Nat → Nat → Int32} {J : Nat → Nat → Int64} {b : Bool} {a1 : Int32} {a2 : Int32} {a3 : Int32} {a4 : Int32} {a5 : Int32} {a6 : Int32} {Q : Option Value → am_H → Prop}  (wp : am_R E mX10_nextWanted 0 [some (.ref 48), some (.int 0), some (.int (I 48 1)), none, none] [] (hp I J b) 64 64 (fun r h' => am_R E mX10_ends 111 [some (.ref 48), some (.int a1), some (.int a2), some (.int a3), some (.int a4), some (.int a5), some (.int a6), none, none] (r.toList ++ []) h' 64 64 Q)) : am_R E mX10_ends 102 [some (.ref 48), some (.int a1), some (.int a2), some (.int a3), some (.int a4), some (.int a5), some (.int a6), none, none] [] (hp I J b) 64 64 Q := by
  refine am_aload_n rfl rfl dX10_ends_102 ?_
  refine am_iconst 0 rfl dX10_ends_103 ?_
  refine am_aload_n rfl rfl dX10_ends_104 ?_
  refine am_getI dX10_ends_105 flX10_13 (Or.inl rfl) rfl (by decide) ?_
  refine am_invV (ci := 8) (As := [.int 0, .int (I 48 1)]) (lsZ := [some (.ref 48), some (.int 0), some (.int (I 48 1)), none, none]) (st := []) dX10_ends_108 hX10_nextWanted lkX10_217 ⟨by decide, by decide⟩ (by decide) rfl (by decide) rfl rfl rfl (Nat.le_of_ble_eq_true rfl) rfl (Nat.le_of_ble_eq_true rfl) ⟨Nat.le_refl _, Nat.le_refl _⟩ (am_R.mono wp (fun r h' q => am_R.forget q ⟨rfl, ⟨rfl, ⟨rfl, ⟨rfl, ⟨rfl, ⟨rfl, ⟨rfl, trivial⟩⟩⟩⟩⟩⟩⟩))
theorem bX10_ends_111 {E : Nat × (Nat → Int32)} {I : Nat → Nat → Int32} {J : Nat → Nat → Int64} {b : Bool} {a1 : Int32} {a2 : Int32} {a3 : Int32} {a4 : Int32} {a5 : Int32} {a6 : Int32} {x0 : Int32} {Q : Option Value → am_H → Prop}  (wp : ((¬ x0 = (-1) → am_R E mX10_ends 184 [some (.ref 48), some (.int a1), some (.int a2), some (.int a3), some (.int a4), some (.int a5), some (.int a6), some (.int x0), none] [] (hp I J b) 64 64 Q) ∧ (x0 = (-1) → am_R E mX10_gladnessOf 0 [some (.ref 48), none, none] [] (hp I J b) 64 64 (fun r h' => am_R E mX10_ends 123 [some (.ref 48), some (.int a1), some (.int a2), some (.int a3), some (.int a4), some (.int a5), some (.int a6), some (.int x0), none] (r.toList ++ []) h' 64 64 Q)))) : am_R E mX10_ends 111 [some (.ref 48), some (.int a1), some (.int a2), some (.int a3), some (.int a4), some (.int a5), some (.int a6), none, none] [.int x0] (hp I J b) 64 64 Q := by
  refine am_istore (ls' := [some (.ref 48), some (.int a1), some (.int a2), some (.int a3), some (.int a4), some (.int a5), some (.int a6), some (.int x0), none]) (by decide) rfl rfl dX10_ends_111 ?_
  refine am_iload rfl dX10_ends_113 ?_
  refine am_iconst (-1) rfl dX10_ends_115 ?_
  refine am_icmp_ne dX10_ends_116 (tgt := 184) rfl (fun hc1 => ?_) (fun hc1 => ?_)
  · have wp := wp.1 hc1
    exact am_R.forget wp ⟨rfl, ⟨rfl, ⟨rfl, ⟨rfl, ⟨rfl, ⟨rfl, ⟨rfl, ⟨rfl, trivial⟩⟩⟩⟩⟩⟩⟩⟩
  · have wp := wp.2 hc1
    refine am_aload_n rfl rfl dX10_ends_119 ?_
    refine am_invV (ci := 8) (As := []) (lsZ := [some (.ref 48), none, none]) (st := []) dX10_ends_120 hX10_gladnessOf lkX10_200 ⟨by decide, by decide⟩ (by decide) rfl (by decide) rfl rfl rfl (Nat.le_of_ble_eq_true rfl) rfl (Nat.le_of_ble_eq_true rfl) ⟨Nat.le_refl _, Nat.le_refl _⟩ (am_R.mono wp (fun r h' q => am_R.forget q ⟨rfl, ⟨rfl, ⟨rfl, ⟨rfl, ⟨rfl, ⟨rfl, ⟨rfl, ⟨rfl, trivial⟩⟩⟩⟩⟩⟩⟩⟩))
theorem bX10_ends_123 {E : Nat × (Nat → Int32)} {I : Nat → Nat → Int32} {J : Nat → Nat → Int64} {b : Bool} {a1 : Int32} {a2 : Int32} {a3 : Int32} {a4 : Int32} {a5 : Int32} {a6 : Int32} {a7 : Int32} {x0 : Int32} {Q : Option Value → am_H → Prop}  (wp : ((a4 < x0 → ∃ j2, a6 = nI j2 ∧ j2 < 5040 ∧ ((x0 ≤ a4 → am_R E mX10_ends 184 [some (.ref 48), some (.int a1), some (.int a2), some (.int (a3 + 1)), some (.int a4), some (.int (I 61 j2)), some (.int a6), some (.int a7), none] [] (hp I J b) 64 64 Q) ∧ (¬ x0 ≤ a4 → am_R E mX10_ends 184 [some (.ref 48), some (.int a1), some (.int a2), some (.int (a3 + 1)), some (.int x0), some (.int (I 61 j2)), some (.int a6), some (.int a7), none] [] (hp I J b) 64 64 Q))) ∧ (¬ a4 < x0 → ((¬ x0 = a4 → ((x0 ≤ a4 → am_R E mX10_ends 184 [some (.ref 48), some (.int a1), some (.int a2), some (.int (a3 + 1)), some (.int a4), some (.int a5), some (.int a6), some (.int a7), none] [] (hp I J b) 64 64 Q) ∧ (¬ x0 ≤ a4 → am_R E mX10_ends 184 [some (.ref 48), some (.int a1), some (.int a2), some (.int (a3 + 1)), some (.int x0), some (.int a5), some (.int a6), some (.int a7), none] [] (hp I J b) 64 64 Q))) ∧ (x0 = a4 → ∃ j6, a6 = nI j6 ∧ j6 < 5040 ∧ ((a5 ≤ (I 61 j6) → ((x0 ≤ a4 → am_R E mX10_ends 184 [some (.ref 48), some (.int a1), some (.int a2), some (.int (a3 + 1)), some (.int a4), some (.int a5), some (.int a6), some (.int a7), none] [] (hp I J b) 64 64 Q) ∧ (¬ x0 ≤ a4 → am_R E mX10_ends 184 [some (.ref 48), some (.int a1), some (.int a2), some (.int (a3 + 1)), some (.int x0), some (.int a5), some (.int a6), some (.int a7), none] [] (hp I J b) 64 64 Q))) ∧ (¬ a5 ≤ (I 61 j6) → ((x0 ≤ a4 → am_R E mX10_ends 184 [some (.ref 48), some (.int a1), some (.int a2), some (.int (a3 + 1)), some (.int a4), some (.int (I 61 j6)), some (.int a6), some (.int a7), none] [] (hp I J b) 64 64 Q) ∧ (¬ x0 ≤ a4 → am_R E mX10_ends 184 [some (.ref 48), some (.int a1), some (.int a2), some (.int (a3 + 1)), some (.int x0), some (.int (I 61 j6)), some (.int a6), some (.int a7), none] [] (hp I J b) 64 64 Q))))))))) : am_R E mX10_ends 123 [some (.ref 48), some (.int a1), some (.int a2), some (.int a3), some (.int a4), some (.int a5), some (.int a6), some (.int a7), none] [.int x0] (hp I J b) 64 64 Q := by
  refine am_istore (ls' := [some (.ref 48), some (.int a1), some (.int a2), some (.int a3), some (.int a4), some (.int a5), some (.int a6), some (.int a7), some (.int x0)]) (by decide) rfl rfl dX10_ends_123 ?_
  refine am_iinc (ls' := [some (.ref 48), some (.int a1), some (.int a2), some (.int (a3 + 1)), some (.int a4), some (.int a5), some (.int a6), some (.int a7), some (.int x0)]) (by decide) rfl rfl rfl dX10_ends_125 ?_
  refine am_iload rfl dX10_ends_128 ?_
  refine am_iload rfl dX10_ends_130 ?_
  refine am_icmp_gt dX10_ends_132 (tgt := 154) rfl (fun hc1 => ?_) (fun hc1 => ?_)
  · have wp := wp.1 hc1
    refine am_aload_n rfl rfl dX10_ends_154 ?_
    refine am_getA (r := 61) dX10_ends_155 flX10_54 (Or.inr ⟨_, rfl⟩) rfl (by decide) rfl ?_
    refine am_iload rfl dX10_ends_158 ?_
    obtain ⟨j2, e2, w2, wp⟩ := wp
    refine am_ialdN (j := j2) dX10_ends_160 rfl (by decide) e2 w2 (by decide) ?_
    refine am_goto dX10_ends_161 (tgt := 166) rfl ?_
    refine am_istore (ls' := [some (.ref 48), some (.int a1), some (.int a2), some (.int (a3 + 1)), some (.int a4), some (.int (I 61 j2)), some (.int a6), some (.int a7), some (.int x0)]) (by decide) rfl rfl dX10_ends_166 ?_
    refine am_iload rfl dX10_ends_168 ?_
    refine am_iload rfl dX10_ends_170 ?_
    refine am_icmp_le dX10_ends_172 (tgt := 180) rfl (fun hc3 => ?_) (fun hc3 => ?_)
    · have wp := wp.1 hc3
      refine am_iload rfl dX10_ends_180 ?_
      refine am_istore (ls' := [some (.ref 48), some (.int a1), some (.int a2), some (.int (a3 + 1)), some (.int a4), some (.int (I 61 j2)), some (.int a6), some (.int a7), some (.int x0)]) (by decide) rfl rfl dX10_ends_182 ?_
      exact am_R.forget wp ⟨rfl, ⟨rfl, ⟨rfl, ⟨rfl, ⟨rfl, ⟨rfl, ⟨rfl, ⟨rfl, trivial⟩⟩⟩⟩⟩⟩⟩⟩
    · have wp := wp.2 hc3
      refine am_iload rfl dX10_ends_175 ?_
      refine am_goto dX10_ends_177 (tgt := 182) rfl ?_
      refine am_istore (ls' := [some (.ref 48), some (.int a1), some (.int a2), some (.int (a3 + 1)), some (.int x0), some (.int (I 61 j2)), some (.int a6), some (.int a7), some (.int x0)]) (by decide) rfl rfl dX10_ends_182 ?_
      exact am_R.forget wp ⟨rfl, ⟨rfl, ⟨rfl, ⟨rfl, ⟨rfl, ⟨rfl, ⟨rfl, ⟨rfl, trivial⟩⟩⟩⟩⟩⟩⟩⟩
  · have wp := wp.2 hc1
    refine am_iload rfl dX10_ends_135 ?_
    refine am_iload rfl dX10_ends_137 ?_
    refine am_icmp_ne dX10_ends_139 (tgt := 164) rfl (fun hc4 => ?_) (fun hc4 => ?_)
    · have wp := wp.1 hc4
      refine am_iload rfl dX10_ends_164 ?_
      refine am_istore (ls' := [some (.ref 48), some (.int a1), some (.int a2), some (.int (a3 + 1)), some (.int a4), some (.int a5), some (.int a6), some (.int a7), some (.int x0)]) (by decide) rfl rfl dX10_ends_166 ?_
      refine am_iload rfl dX10_ends_168 ?_
      refine am_iload rfl dX10_ends_170 ?_
      refine am_icmp_le dX10_ends_172 (tgt := 180) rfl (fun hc5 => ?_) (fun hc5 => ?_)
      · have wp := wp.1 hc5
        refine am_iload rfl dX10_ends_180 ?_
        refine am_istore (ls' := [some (.ref 48), some (.int a1), some (.int a2), some (.int (a3 + 1)), some (.int a4), some (.int a5), some (.int a6), some (.int a7), some (.int x0)]) (by decide) rfl rfl dX10_ends_182 ?_
        exact am_R.forget wp ⟨rfl, ⟨rfl, ⟨rfl, ⟨rfl, ⟨rfl, ⟨rfl, ⟨rfl, ⟨rfl, trivial⟩⟩⟩⟩⟩⟩⟩⟩
      · have wp := wp.2 hc5
        refine am_iload rfl dX10_ends_175 ?_
        refine am_goto dX10_ends_177 (tgt := 182) rfl ?_
        refine am_istore (ls' := [some (.ref 48), some (.int a1), some (.int a2), some (.int (a3 + 1)), some (.int x0), some (.int a5), some (.int a6), some (.int a7), some (.int x0)]) (by decide) rfl rfl dX10_ends_182 ?_
        exact am_R.forget wp ⟨rfl, ⟨rfl, ⟨rfl, ⟨rfl, ⟨rfl, ⟨rfl, ⟨rfl, ⟨rfl, trivial⟩⟩⟩⟩⟩⟩⟩⟩
    · have wp := wp.2 hc4
      refine am_aload_n rfl rfl dX10_ends_142 ?_
      refine am_getA (r := 61) dX10_ends_143 flX10_54 (Or.inr ⟨_, rfl⟩) rfl (by decide) rfl ?_
      refine am_iload rfl dX10_ends_146 ?_
      obtain ⟨j6, e6, w6, wp⟩ := wp
      refine am_ialdN (j := j6) dX10_ends_148 rfl (by decide) e6 w6 (by decide) ?_
      refine am_iload rfl dX10_ends_149 ?_
      refine am_icmp_ge dX10_ends_151 (tgt := 164) rfl (fun hc7 => ?_) (fun hc7 => ?_)
      · have wp := wp.1 hc7
        refine am_iload rfl dX10_ends_164 ?_
        refine am_istore (ls' := [some (.ref 48), some (.int a1), some (.int a2), some (.int (a3 + 1)), some (.int a4), some (.int a5), some (.int a6), some (.int a7), some (.int x0)]) (by decide) rfl rfl dX10_ends_166 ?_
        refine am_iload rfl dX10_ends_168 ?_
        refine am_iload rfl dX10_ends_170 ?_
        refine am_icmp_le dX10_ends_172 (tgt := 180) rfl (fun hc8 => ?_) (fun hc8 => ?_)
        · have wp := wp.1 hc8
          refine am_iload rfl dX10_ends_180 ?_
          refine am_istore (ls' := [some (.ref 48), some (.int a1), some (.int a2), some (.int (a3 + 1)), some (.int a4), some (.int a5), some (.int a6), some (.int a7), some (.int x0)]) (by decide) rfl rfl dX10_ends_182 ?_
          exact am_R.forget wp ⟨rfl, ⟨rfl, ⟨rfl, ⟨rfl, ⟨rfl, ⟨rfl, ⟨rfl, ⟨rfl, trivial⟩⟩⟩⟩⟩⟩⟩⟩
        · have wp := wp.2 hc8
          refine am_iload rfl dX10_ends_175 ?_
          refine am_goto dX10_ends_177 (tgt := 182) rfl ?_
          refine am_istore (ls' := [some (.ref 48), some (.int a1), some (.int a2), some (.int (a3 + 1)), some (.int x0), some (.int a5), some (.int a6), some (.int a7), some (.int x0)]) (by decide) rfl rfl dX10_ends_182 ?_
          exact am_R.forget wp ⟨rfl, ⟨rfl, ⟨rfl, ⟨rfl, ⟨rfl, ⟨rfl, ⟨rfl, ⟨rfl, trivial⟩⟩⟩⟩⟩⟩⟩⟩
      · have wp := wp.2 hc7
        refine am_aload_n rfl rfl dX10_ends_154 ?_
        refine am_getA (r := 61) dX10_ends_155 flX10_54 (Or.inr ⟨_, rfl⟩) rfl (by decide) rfl ?_
        refine am_iload rfl dX10_ends_158 ?_
        refine am_ialdN (j := j6) dX10_ends_160 rfl (by decide) e6 w6 (by decide) ?_
        refine am_goto dX10_ends_161 (tgt := 166) rfl ?_
        refine am_istore (ls' := [some (.ref 48), some (.int a1), some (.int a2), some (.int (a3 + 1)), some (.int a4), some (.int (I 61 j6)), some (.int a6), some (.int a7), some (.int x0)]) (by decide) rfl rfl dX10_ends_166 ?_
        refine am_iload rfl dX10_ends_168 ?_
        refine am_iload rfl dX10_ends_170 ?_
        refine am_icmp_le dX10_ends_172 (tgt := 180) rfl (fun hc9 => ?_) (fun hc9 => ?_)
        · have wp := wp.1 hc9
          refine am_iload rfl dX10_ends_180 ?_
          refine am_istore (ls' := [some (.ref 48), some (.int a1), some (.int a2), some (.int (a3 + 1)), some (.int a4), some (.int (I 61 j6)), some (.int a6), some (.int a7), some (.int x0)]) (by decide) rfl rfl dX10_ends_182 ?_
          exact am_R.forget wp ⟨rfl, ⟨rfl, ⟨rfl, ⟨rfl, ⟨rfl, ⟨rfl, ⟨rfl, ⟨rfl, trivial⟩⟩⟩⟩⟩⟩⟩⟩
        · have wp := wp.2 hc9
          refine am_iload rfl dX10_ends_175 ?_
          refine am_goto dX10_ends_177 (tgt := 182) rfl ?_
          refine am_istore (ls' := [some (.ref 48), some (.int a1), some (.int a2), some (.int (a3 + 1)), some (.int x0), some (.int (I 61 j6)), some (.int a6), some (.int a7), some (.int x0)]) (by decide) rfl rfl dX10_ends_182 ?_
          exact am_R.forget wp ⟨rfl, ⟨rfl, ⟨rfl, ⟨rfl, ⟨rfl, ⟨rfl, ⟨rfl, ⟨rfl, trivial⟩⟩⟩⟩⟩⟩⟩⟩
theorem bX10_ends_184 {E : Nat × (Nat → Int32)} {I : Nat → Nat → Int32} {J : Nat → Nat → Int64} {b : Bool} {a1 : Int32} {a2 : Int32} {a3 : Int32} {a4 : Int32} {a5 : Int32} {a6 : Int32} {a7 : Int32} {Q : Option Value → am_H → Prop}  (wp : ((a7 = (-1) → am_R E mX10_ends 85 [some (.ref 48), some (.int a1), some (.int a2), some (.int a3), some (.int a4), some (.int a5), some (.int (a6 + 1)), none, none] [] (hp I J b) 64 64 Q) ∧ (¬ a7 = (-1) → am_R E mX10_goRing 0 [some (.ref 48), some (.int (I 48 26)), some (.int (I 48 27)), some (.int (I 48 28)), none] [] (hp I J b) 64 64 (fun r h' => am_R E mX10_ends 206 [some (.ref 48), some (.int a1), some (.int a2), some (.int a3), some (.int a4), some (.int a5), some (.int a6), some (.int a7), none] (r.toList ++ []) h' 64 64 Q)))) : am_R E mX10_ends 184 [some (.ref 48), some (.int a1), some (.int a2), some (.int a3), some (.int a4), some (.int a5), some (.int a6), some (.int a7), none] [] (hp I J b) 64 64 Q := by
  refine am_iload rfl dX10_ends_184 ?_
  refine am_iconst (-1) rfl dX10_ends_186 ?_
  refine am_icmp_eq dX10_ends_187 (tgt := 269) rfl (fun hc1 => ?_) (fun hc1 => ?_)
  · have wp := wp.1 hc1
    refine am_iinc (ls' := [some (.ref 48), some (.int a1), some (.int a2), some (.int a3), some (.int a4), some (.int a5), some (.int (a6 + 1)), some (.int a7), none]) (by decide) rfl rfl rfl dX10_ends_269 ?_
    refine am_goto dX10_ends_272 (tgt := 85) rfl ?_
    exact am_R.forget wp ⟨rfl, ⟨rfl, ⟨rfl, ⟨rfl, ⟨rfl, ⟨rfl, ⟨rfl, trivial⟩⟩⟩⟩⟩⟩⟩
  · have wp := wp.2 hc1
    refine am_aload_n rfl rfl dX10_ends_190 ?_
    refine am_aload_n rfl rfl dX10_ends_191 ?_
    refine am_getI dX10_ends_192 flX10_204 (Or.inl rfl) rfl (by decide) ?_
    refine am_aload_n rfl rfl dX10_ends_195 ?_
    refine am_getI dX10_ends_196 flX10_207 (Or.inl rfl) rfl (by decide) ?_
    refine am_aload_n rfl rfl dX10_ends_199 ?_
    refine am_getI dX10_ends_200 flX10_210 (Or.inl rfl) rfl (by decide) ?_
    refine am_invV (ci := 8) (As := [.int (I 48 26), .int (I 48 27), .int (I 48 28)]) (lsZ := [some (.ref 48), some (.int (I 48 26)), some (.int (I 48 27)), some (.int (I 48 28)), none]) (st := []) dX10_ends_203 hX10_goRing lkX10_196 ⟨by decide, by decide⟩ (by decide) rfl (by decide) rfl rfl rfl (Nat.le_of_ble_eq_true rfl) rfl (Nat.le_of_ble_eq_true rfl) ⟨Nat.le_refl _, Nat.le_refl _⟩ (am_R.mono wp (fun r h' q => am_R.forget q ⟨rfl, ⟨rfl, ⟨rfl, ⟨rfl, ⟨rfl, ⟨rfl, ⟨rfl, ⟨rfl, trivial⟩⟩⟩⟩⟩⟩⟩⟩))
theorem bX10_ends_206 {E : Nat × (Nat → Int32)} {I : Nat → Nat → Int32} {J : Nat → Nat → Int64} {b : Bool} {a1 : Int32} {a2 : Int32} {a3 : Int32} {a4 : Int32} {a5 : Int32} {a6 : Int32} {a7 : Int32} {Q : Option Value → am_H → Prop}  (wp : am_R E mX10_numberOf 0 [some (.ref 48), none, none, none, none] [] (hp I J b) 64 64 (fun r h' => am_R E mX10_ends 210 [some (.ref 48), some (.int a1), some (.int a2), some (.int a3), some (.int a4), some (.int a5), some (.int a6), some (.int a7), none] (r.toList ++ []) h' 64 64 Q)) : am_R E mX10_ends 206 [some (.ref 48), some (.int a1), some (.int a2), some (.int a3), some (.int a4), some (.int a5), some (.int a6), some (.int a7), none] [] (hp I J b) 64 64 Q := by
  refine am_aload_n rfl rfl dX10_ends_206 ?_
  refine am_invV (ci := 8) (As := []) (lsZ := [some (.ref 48), none, none, none, none]) (st := []) dX10_ends_207 hX10_numberOf lkX10_224 ⟨by decide, by decide⟩ (by decide) rfl (by decide) rfl rfl rfl (Nat.le_of_ble_eq_true rfl) rfl (Nat.le_of_ble_eq_true rfl) ⟨Nat.le_refl _, Nat.le_refl _⟩ (am_R.mono wp (fun r h' q => am_R.forget q ⟨rfl, ⟨rfl, ⟨rfl, ⟨rfl, ⟨rfl, ⟨rfl, ⟨rfl, ⟨rfl, trivial⟩⟩⟩⟩⟩⟩⟩⟩))
theorem bX10_ends_210 {E : Nat × (Nat → Int32)} {I : Nat → Nat → Int32} {J : Nat → Nat → Int64} {b : Bool} {a1 : Int32} {a2 : Int32} {a3 : Int32} {a4 : Int32} {a5 : Int32} {a6 : Int32} {a7 : Int32} {x0 : Int32} {Q : Option Value → am_H → Prop}  (wp : ∃ j1, x0 = nI j1 ∧ j1 < 5040 ∧ ((¬ (I 60 j1) = 0 → ∃ j3, a6 = nI j3 ∧ j3 < 5040 ∧ am_R E mX10_takeDraw 0 [some (.ref 48), some (.int (I 61 j3)), none, none, none, none, none, none] [] (hp I J b) 64 64 (fun r h' => am_R E mX10_ends 252 [some (.ref 48), some (.int a1), some (.int a2), some (.int a3), some (.int a4), some (.int a5), some (.int a6), some (.int a7), none] (r.toList ++ []) h' 64 64 Q)) ∧ ((I 60 j1) = 0 → ∃ j4, a2 = nI j4 ∧ j4 < 5040 ∧ ∃ j5, a6 = nI j5 ∧ j5 < 5040 ∧ am_R E mX10_takeDraw 0 [some (.ref 48), some (.int ((u2 (u2 I 60 j1 1) 61 j4 x0) 61 j5)), none, none, none, none, none, none] [] (hp (u2 (u2 I 60 j1 1) 61 j4 x0) J b) 64 64 (fun r h' => am_R E mX10_ends 252 [some (.ref 48), some (.int a1), some (.int (a2 + 1)), some (.int a3), some (.int a4), some (.int a5), some (.int a6), some (.int a7), none] (r.toList ++ []) h' 64 64 Q)))) : am_R E mX10_ends 210 [some (.ref 48), some (.int a1), some (.int a2), some (.int a3), some (.int a4), some (.int a5), some (.int a6), some (.int a7), none] [.int x0] (hp I J b) 64 64 Q := by
  refine am_istore (ls' := [some (.ref 48), some (.int a1), some (.int a2), some (.int a3), some (.int a4), some (.int a5), some (.int a6), some (.int a7), some (.int x0)]) (by decide) rfl rfl dX10_ends_210 ?_
  refine am_aload_n rfl rfl dX10_ends_212 ?_
  refine am_getA (r := 60) dX10_ends_213 flX10_51 (Or.inr ⟨_, rfl⟩) rfl (by decide) rfl ?_
  refine am_iload rfl dX10_ends_216 ?_
  obtain ⟨j1, e1, w1, wp⟩ := wp
  refine am_zaldN (j := j1) dX10_ends_218 rfl (by decide) e1 w1 (by decide) ?_
  refine am_if_ne dX10_ends_219 (tgt := 241) rfl (fun hc2 => ?_) (fun hc2 => ?_)
  · have wp := wp.1 hc2
    refine am_aload_n rfl rfl dX10_ends_241 ?_
    refine am_aload_n rfl rfl dX10_ends_242 ?_
    refine am_getA (r := 61) dX10_ends_243 flX10_54 (Or.inr ⟨_, rfl⟩) rfl (by decide) rfl ?_
    refine am_iload rfl dX10_ends_246 ?_
    obtain ⟨j3, e3, w3, wp⟩ := wp
    refine am_ialdN (j := j3) dX10_ends_248 rfl (by decide) e3 w3 (by decide) ?_
    refine am_invV (ci := 8) (As := [.int (I 61 j3)]) (lsZ := [some (.ref 48), some (.int (I 61 j3)), none, none, none, none, none, none]) (st := []) dX10_ends_249 hX10_takeDraw lkX10_177 ⟨by decide, by decide⟩ (by decide) rfl (by decide) rfl rfl rfl (Nat.le_of_ble_eq_true rfl) rfl (Nat.le_of_ble_eq_true rfl) ⟨Nat.le_refl _, Nat.le_refl _⟩ (am_R.mono wp (fun r h' q => am_R.forget q ⟨rfl, ⟨rfl, ⟨rfl, ⟨rfl, ⟨rfl, ⟨rfl, ⟨rfl, ⟨rfl, trivial⟩⟩⟩⟩⟩⟩⟩⟩))
  · have wp := wp.2 hc2
    refine am_aload_n rfl rfl dX10_ends_222 ?_
    refine am_getA (r := 60) dX10_ends_223 flX10_51 (Or.inr ⟨_, rfl⟩) rfl (by decide) rfl ?_
    refine am_iload rfl dX10_ends_226 ?_
    refine am_iconst 1 rfl dX10_ends_228 ?_
    refine am_zastN (j := j1) dX10_ends_229 rfl (by decide) e1 w1 (by decide) (by decide) ?_
    refine am_aload_n rfl rfl dX10_ends_230 ?_
    refine am_getA (r := 61) dX10_ends_231 flX10_54 (Or.inr ⟨_, rfl⟩) rfl (by decide) rfl ?_
    refine am_iload_n rfl rfl dX10_ends_234 ?_
    refine am_iload rfl dX10_ends_235 ?_
    obtain ⟨j4, e4, w4, wp⟩ := wp
    refine am_iastN (j := j4) dX10_ends_237 rfl (by decide) e4 w4 (by decide) ?_
    refine am_iinc (ls' := [some (.ref 48), some (.int a1), some (.int (a2 + 1)), some (.int a3), some (.int a4), some (.int a5), some (.int a6), some (.int a7), some (.int x0)]) (by decide) rfl rfl rfl dX10_ends_238 ?_
    refine am_aload_n rfl rfl dX10_ends_241 ?_
    refine am_aload_n rfl rfl dX10_ends_242 ?_
    refine am_getA (r := 61) dX10_ends_243 flX10_54 (Or.inr ⟨_, rfl⟩) rfl (by decide) rfl ?_
    refine am_iload rfl dX10_ends_246 ?_
    obtain ⟨j5, e5, w5, wp⟩ := wp
    refine am_ialdN (j := j5) dX10_ends_248 rfl (by decide) e5 w5 (by decide) ?_
    show am_R E mX10_ends 249 [some (.ref 48), some (.int a1), some (.int (a2 + 1)), some (.int a3), some (.int a4), some (.int a5), some (.int a6), some (.int a7), some (.int x0)] [.int ((u2 (u2 I 60 j1 1) 61 j4 x0) 61 j5), .ref 48] (hp (u2 (u2 I 60 j1 1) 61 j4 x0) J b) 64 64 Q
    refine am_invV (ci := 8) (As := [.int ((u2 (u2 I 60 j1 1) 61 j4 x0) 61 j5)]) (lsZ := [some (.ref 48), some (.int ((u2 (u2 I 60 j1 1) 61 j4 x0) 61 j5)), none, none, none, none, none, none]) (st := []) dX10_ends_249 hX10_takeDraw lkX10_177 ⟨by decide, by decide⟩ (by decide) rfl (by decide) rfl rfl rfl (Nat.le_of_ble_eq_true rfl) rfl (Nat.le_of_ble_eq_true rfl) ⟨Nat.le_refl _, Nat.le_refl _⟩ (am_R.mono wp (fun r h' q => am_R.forget q ⟨rfl, ⟨rfl, ⟨rfl, ⟨rfl, ⟨rfl, ⟨rfl, ⟨rfl, ⟨rfl, trivial⟩⟩⟩⟩⟩⟩⟩⟩))
theorem bX10_ends_252 {E : Nat × (Nat → Int32)} {I : Nat → Nat → Int32} {J : Nat → Nat → Int64} {b : Bool} {a1 : Int32} {a2 : Int32} {a3 : Int32} {a4 : Int32} {a5 : Int32} {a6 : Int32} {a7 : Int32} {Q : Option Value → am_H → Prop}  (wp : am_R E mX10_nextWanted 0 [some (.ref 48), some (.int (a7 + 1)), some (.int (I 48 1)), none, none] [] (hp I J b) 64 64 (fun r h' => am_R E mX10_ends 264 [some (.ref 48), some (.int a1), some (.int a2), some (.int a3), some (.int a4), some (.int a5), some (.int a6), none, none] (r.toList ++ []) h' 64 64 Q)) : am_R E mX10_ends 252 [some (.ref 48), some (.int a1), some (.int a2), some (.int a3), some (.int a4), some (.int a5), some (.int a6), some (.int a7), none] [] (hp I J b) 64 64 Q := by
  refine am_aload_n rfl rfl dX10_ends_252 ?_
  refine am_iload rfl dX10_ends_253 ?_
  refine am_iconst 1 rfl dX10_ends_255 ?_
  refine am_iadd dX10_ends_256 ?_
  refine am_aload_n rfl rfl dX10_ends_257 ?_
  refine am_getI dX10_ends_258 flX10_13 (Or.inl rfl) rfl (by decide) ?_
  refine am_invV (ci := 8) (As := [.int (a7 + 1), .int (I 48 1)]) (lsZ := [some (.ref 48), some (.int (a7 + 1)), some (.int (I 48 1)), none, none]) (st := []) dX10_ends_261 hX10_nextWanted lkX10_217 ⟨by decide, by decide⟩ (by decide) rfl (by decide) rfl rfl rfl (Nat.le_of_ble_eq_true rfl) rfl (Nat.le_of_ble_eq_true rfl) ⟨Nat.le_refl _, Nat.le_refl _⟩ (am_R.mono wp (fun r h' q => am_R.forget q ⟨rfl, ⟨rfl, ⟨rfl, ⟨rfl, ⟨rfl, ⟨rfl, ⟨rfl, trivial⟩⟩⟩⟩⟩⟩⟩))
theorem bX10_ends_264 {E : Nat × (Nat → Int32)} {I : Nat → Nat → Int32} {J : Nat → Nat → Int64} {b : Bool} {a1 : Int32} {a2 : Int32} {a3 : Int32} {a4 : Int32} {a5 : Int32} {a6 : Int32} {x0 : Int32} {Q : Option Value → am_H → Prop}  (wp : am_R E mX10_ends 184 [some (.ref 48), some (.int a1), some (.int a2), some (.int a3), some (.int a4), some (.int a5), some (.int a6), some (.int x0), none] [] (hp I J b) 64 64 Q) : am_R E mX10_ends 264 [some (.ref 48), some (.int a1), some (.int a2), some (.int a3), some (.int a4), some (.int a5), some (.int a6), none, none] [.int x0] (hp I J b) 64 64 Q := by
  refine am_istore (ls' := [some (.ref 48), some (.int a1), some (.int a2), some (.int a3), some (.int a4), some (.int a5), some (.int a6), some (.int x0), none]) (by decide) rfl rfl dX10_ends_264 ?_
  refine am_goto dX10_ends_266 (tgt := 184) rfl ?_
  exact am_R.forget wp ⟨rfl, ⟨rfl, ⟨rfl, ⟨rfl, ⟨rfl, ⟨rfl, ⟨rfl, ⟨rfl, trivial⟩⟩⟩⟩⟩⟩⟩⟩
theorem tX10_ends85 {a1 : Int32} {by' s : Nat} (hN : Nn I n) (hY : Yw I n) (hL : Lk I) (hb : by' = 0 ∨ by' = 2 ∨ by' = 3) (eb : I 48 1 = nI by') (k : ∀ I2 h g u, An I I2 → Fin (fct n) (scI I n by') (enI I n by') (gdI I n) s h g u → (a1 = 0 → Q (some (.int h)) (hp I2 J b)) ∧ (a1 = 1 → Q (some (.int g)) (hp I2 J b)) ∧ (¬ a1 = 0 → ¬ a1 = 1 → Q (some (.int u)) (hp I2 J b))) : ∀ j i, i + j = 5040 → ∀ (I1 : Nat → Nat → Int32) (q : (Nat → Bool) × (Nat → Bool)) (ln : Nat → Nat) (many : Nat) (h g u : Int32), LnS I I1 (fct n) q ln many i → KI (fct n) (scI I n by') s q.1 q.2 → KT (fct n) (enI I n by') (gdI I n) q.1 q.2 h g u → am_R E mX10_ends 85 [some (.ref 48), some (.int a1), some (.int (nI many)), some (.int h), some (.int g), some (.int u), some (.int (nI i)), none, none] [] (hp I1 J b) 64 64 Q := by
  have n7 := hN.2.2
  have hfl := fct_le n (by omega)
  have hm1 : ∀ e : Nat, e < 448 → ¬ nI e = (-1 : Int32) := by decide +kernel
  have hscl : ∀ c, c < fct n → ∀ d, d ∈ scI I n by' c → d < fct n := fun c _ d hd => sc_lt hd
  -- nothing waits
  have stop : ∀ (i : Nat) (I1 : Nat → Nat → Int32) (q : (Nat → Bool) × (Nat → Bool)) (ln : Nat → Nat) (h g u : Int32), LnS I I1 (fct n) q ln i i → i ≤ 5040 → KI (fct n) (scI I n by') s q.1 q.2 → KT (fct n) (enI I n by') (gdI I n) q.1 q.2 h g u → am_R E mX10_ends 85 [some (.ref 48), some (.int a1), some (.int (nI i)), some (.int h), some (.int g), some (.int u), some (.int (nI i)), none, none] [] (hp I1 J b) 64 64 Q := by
    intro i I1 q ln h g u hLS hi hK hT
    have hw : ∀ c, q.2 c = false := fun c => by
      cases hc : q.2 c with
      | false => rfl
      | true =>
        obtain ⟨j, j1, j2, -⟩ := hLS.2.2.2.2.1 c hc
        omega
    have kk := k I1 h g u hLS.1 (hK.fin hT hw)
    exact bX10_ends_85 (le_br rfl rfl (by omega) (by omega) (fun _ => ⟨fun z => ⟨fun z2 => kk.2.2 z z2, fun z2 => kk.2.1 z2⟩, fun z => kk.1 z⟩) (fun z => by omega))
  intro j
  induction j with
  | zero =>
    intro i hi I1 q ln many h g u hLS hK hT
    have hct := hLS.2.2.2.2.2.2.1
    have hle := fb_ct_le q.1 (fct n)
    have him := hLS.2.2.2.2.2.2.2.2
    have e : many = i := by omega
    subst e
    exact stop many I1 q ln h g u hLS (by omega) hK hT
  | succ j ih =>
    intro i hi I1 q ln many h g u hLS hK hT
    by_cases him : i = many
    · subst him
      exact stop i I1 q ln h g u hLS (by omega) hK hT
    obtain ⟨l1, l2, l3, l4, l5, l6, l7, l8, l9⟩ := hLS
    have hmN := fb_ct_le q.1 (fct n)
    have hil : i < many := by omega
    obtain ⟨e61, hSc⟩ := l3 i hil
    generalize hc0 : ln i = c at e61 hSc
    have hWc : q.2 c = true := by rw [← hc0]; exact l4 i (Nat.le_refl _) hil
    have hcl : c < fct n := l8 c hSc
    have hup := ur_pm n7 hcl
    obtain ⟨ks1, ks2⟩ := hK.step hWc hscl
    have hSW : (q.1 c && !q.2 c) = false := by rw [hWc]; simp
    have hts := hT.step (S' := ((scI I n by' c).foldl aSW (q.1, fun x => q.2 x && decide (x ≠ c))).1) (W' := ((scI I n by' c).foldl aSW (q.1, fun x => q.2 x && decide (x ≠ c))).2) hcl hSW ks2
    -- the line behind c
    have hLS1 : LnS I I1 (fct n) (q.1, fun x => q.2 x && decide (x ≠ c)) ln many (i + 1) := by
      refine ⟨l1, l2, l3, fun j hj hj2 => ?_, fun x hx => ?_, fun j j' hj => l6 j j' (by omega), l7, l8, by omega⟩
      · have h1 := l4 j (by omega) hj2
        have h2 : ln j ≠ c := fun z => l6 i j (Nat.le_refl _) (by omega) hj2 (by rw [hc0, z])
        simp [h1, h2]
      · obtain ⟨x1, x2⟩ := Bool.and_eq_true_iff.mp hx
        obtain ⟨j, j1, j2, j3⟩ := l5 x x1
        refine ⟨j, ?_, j2, j3⟩
        have x2 := of_decide_eq_true x2
        rcases Nat.lt_or_ge i j with z | z
        · exact z
        · exact absurd (by rw [← j3, ← hc0, show j = i by omega]) x2
    -- over the wanted rings
    have inner : ∀ (R : List Nat) (f : Nat) (q1 : (Nat → Bool) × (Nat → Bool)) (ln1 : Nat → Nat) (many1 : Nat) (I2 : Nat → Nat → Int32) (h g u : Int32), wr I n by' (ur n c) f = R → f ≤ 448 → LnS I I2 (fct n) q1 ln1 many1 (i + 1) → I2 61 i = nI c → Rw (I2 58) (ur n c) n → (∀ I3 ln2 many2, LnS I I3 (fct n) ((R.map (fun w => rk n (nx by' (ur n c) w))).foldl aSW q1) ln2 many2 (i + 1) → am_R E mX10_ends 85 [some (.ref 48), some (.int a1), some (.int (nI many2)), some (.int h), some (.int g), some (.int u), some (.int (nI (i + 1))), none, none] [] (hp I3 J b) 64 64 Q) → ∀ Kc : Option Value → am_H → Prop, (∀ v I3, (R = [] ∨ ¬ v = -1) → am_R E mX10_ends 184 [some (.ref 48), some (.int a1), some (.int (nI many1)), some (.int h), some (.int g), some (.int u), some (.int (nI i)), some (.int v), none] [] (hp I3 J b) 64 64 Q → Kc (some (.int v)) (hp I3 J b)) → am_R E mX10_nextWanted 0 [some (.ref 48), some (.int (nI f)), some (.int (I2 48 1)), none, none] [] (hp I2 J b) 64 64 Kc := by
      intro R
      induction R with
      | nil =>
        intro f q1 ln1 many1 I2 h g u hR0 hf hLS2 e61 hRw kk Kc hKc
        obtain ⟨m1, m2, m3, m4⟩ := hLS2.1.m hN hY
        refine tX10_nextWanted (I := I2) (n := n) (f := f) (by' := by') (p := ur n c) m1 m2 hRw rfl hf (by rw [hLS2.1.2 1 (by omega)]; exact eb) (by omega) (fun hno x y z => ?_) (fun c' h1 h2 hw hno => ?_)
        · refine hKc _ _ (Or.inl rfl) (bX10_ends_184 ⟨fun _ => ?_, fun w => absurd rfl w⟩)
          rw [n1]
          exact kk _ ln1 many1 (hLS2.heap hLS2.1.rg' (rg_n48 (by decide)) (rg_n48 (by decide)))
        · rw [m3] at hw hno
          rw [wr_some (I := I) h1 h2 hw hno] at hR0; cases hR0
      | cons w0 R ihR =>
        intro f q1 ln1 many1 I2 h g u hR0 hf hLS2 e61 hRw kk Kc hKc
        obtain ⟨m1, m2, m3, m4⟩ := hLS2.1.m hN hY
        refine tX10_nextWanted (I := I2) (n := n) (f := f) (by' := by') (p := ur n c) m1 m2 hRw rfl hf (by rw [hLS2.1.2 1 (by omega)]; exact eb) (by omega) (fun hno x y z => ?_) (fun w h1 h2 hw hno => ?_)
        · rw [m3] at hno
          rw [wr_none (I := I) hno] at hR0; cases hR0
        · rw [m3] at hw hno
          rw [wr_some (I := I) h1 h2 hw hno] at hR0
          injection hR0 with hw0 hR1
          subst hw0
          have hRn := Rw.nx (I := I) hRw hw
          have hpm := hup.nxt hw
          have hd : rk n (nx by' (ur n c) w) < fct n := rk_lt
          have hw0 := hw
          obtain ⟨p1, ⟨p2, p3, p4⟩, p5⟩ := hw
          refine hKc _ _ (Or.inr (hm1 w h2)) (bX10_ends_184 ⟨fun z => absurd z (hm1 w h2), fun _ => ?_⟩)
          have hi5 : i < 5040 := by omega
          -- behind the ring
          have nxt : ∀ g2, Rw g2 (nx by' (ur n c) w) n → am_R E mX10_ends 206 [some (.ref 48), some (.int a1), some (.int (nI many1)), some (.int h), some (.int g), some (.int u), some (.int (nI i)), some (.int (nI w)), none] [] (hp (rg (u1 I2 58 g2) (nI (w / 64)) (nI (w / 8 % 8)) (if by' = 2 then -1 else nI (w % 8))) J b) 64 64 Q := by
            intro g2 hg2
            have hA3 : An I (rg (u1 I2 58 g2) (nI (w / 64)) (nI (w / 8 % 8)) (if by' = 2 then -1 else nI (w % 8))) := (hLS2.1.u1 (Or.inl rfl)).rg'
            generalize hH : rg (u1 I2 58 g2) (nI (w / 64)) (nI (w / 8 % 8)) (if by' = 2 then -1 else nI (w % 8)) = H at hA3
            have H58 : H 58 = g2 := by rw [← hH, rg_n48 (by decide), u1_s]
            have H60 : H 60 = I2 60 := by rw [← hH, rg_n48 (by decide), u1_n _ _ (by decide)]
            have H61 : H 61 = I2 61 := by rw [← hH, rg_n48 (by decide), u1_n _ _ (by decide)]
            have hLH : LnS I H (fct n) q1 ln1 many1 (i + 1) := hLS2.heap hA3 H60 H61
            refine bX10_ends_206 (tX10_numberOf (n := n) (p := nx by' (ur n c) w) (hA3.m hN hY).1 (by rw [H58]; exact hg2) (bX10_ends_210 ⟨rk n (nx by' (ur n c) w), rfl, by omega, ?_⟩))
            rw [hLH.2.1 _ (by omega)]
            cases hq : q1.1 (rk n (nx by' (ur n c) w)) with
            | true =>
              refine ⟨fun _ => ⟨i, rfl, hi5, ?_⟩, fun z => absurd z (by decide)⟩
              refine tX10_takeDraw (n := n) (hA3.m hN hY).1 (by rw [H61]; exact e61) hcl (fun f2 hf2 => bX10_ends_252 ?_)
              rw [n1]
              have hA4 : An I (u1 H 58 f2) := hA3.u1 (Or.inl rfl)
              refine ihR (w + 1) q1 ln1 many1 (u1 H 58 f2) h g u hR1 (by omega) (hLH.heap hA4 (u1_n _ _ (by decide)) (u1_n _ _ (by decide))) (by rw [u1_n _ _ (by decide), H61]; exact e61) (by rw [u1_s]; exact hf2) (fun I3 ln2 many2 z => kk I3 ln2 many2 ?_) _ (fun v I3 _ z => bX10_ends_264 z)
              rw [List.map_cons, List.foldl_cons, aSW_in hq]
              exact z
            | false =>
              obtain ⟨hml, hLA⟩ := hLH.add (by omega) hd hq
              refine ⟨fun z => absurd rfl z, fun _ => ⟨many1, rfl, by omega, i, rfl, hi5, ?_⟩⟩
              have hA4 := hLA.1
              have hi61 : u2 (u2 H 60 (rk n (nx by' (ur n c) w)) 1) 61 many1 (nI (rk n (nx by' (ur n c) w))) 61 i = nI c := by
                rw [u2_s, u2_n _ _ _ (by decide), H61]
                unfold upd
                have := hLH.2.2.2.2.2.2.2.2
                rw [if_neg (by omega)]
                exact e61
              refine tX10_takeDraw (n := n) (hA4.m hN hY).1 hi61 hcl (fun f2 hf2 => bX10_ends_252 ?_)
              rw [n1, n1]
              have hA5 := hA4.u1 (k := 58) (f := f2) (Or.inl rfl)
              refine ihR (w + 1) (aSW q1 (rk n (nx by' (ur n c) w))) _ (many1 + 1) _ h g u hR1 (by omega) (hLA.heap hA5 (u1_n _ _ (by decide)) (u1_n _ _ (by decide))) (by rw [u1_n _ _ (by decide)]; exact hi61) (by rw [u1_s]; exact hf2) (fun I3 ln2 many2 z => kk I3 ln2 many2 ?_) _ (fun v I3 _ z => bX10_ends_264 z)
              rw [List.map_cons, List.foldl_cons]
              exact z
          refine tX10_goRing (I := rg I2 (nI (w / 64)) (nI (w / 8 % 8)) (if by' = 2 then -1 else nI (w % 8))) (x := w / 64) (y := w / 8 % 8) rfl (by omega) rfl (by omega) ?_ (fun e => ?_) (fun z e hz => ?_)
          · rcases p5 with ⟨e, -, -⟩ | ⟨e, ⟨e1, e2, e3⟩, -⟩
            · exact Or.inl (by show (if by' = 2 then (-1 : Int32) else nI (w % 8)) = -1; rw [if_pos e])
            · exact Or.inr ⟨w % 8, by show (if by' = 2 then (-1 : Int32) else nI (w % 8)) = _; rw [if_neg e], by omega, by omega⟩
          · have e : (if by' = 2 then (-1 : Int32) else nI (w % 8)) = -1 := e
            have b2 : by' = 2 := by
              by_cases z : by' = 2
              · exact z
              · rw [if_neg z] at e; exact absurd e (hm1 _ (by omega))
            rw [rg_u1, rg_n48 (by decide)]
            rw [if_pos b2] at hRn
            exact nxt _ hRn
          · have e : (if by' = 2 then (-1 : Int32) else nI (w % 8)) = nI z := e
            have b2 : by' ≠ 2 := by
              intro z2
              rw [if_pos z2] at e; exact absurd e.symm (hm1 _ (by omega))
            rw [if_neg b2] at e
            have ez : w % 8 = z := (nI_eq (by omega) (by omega)).mp e
            rw [rg_u1, rg_n48 (by decide)]
            rw [if_neg b2] at hRn
            rw [← ez]
            exact nxt _ hRn
    refine bX10_ends_85 (le_br rfl rfl (by omega) (by omega) (fun z => by omega) (fun _ => ⟨i, rfl, by omega, ?_⟩))
    rw [e61]
    refine tX10_takeDraw (n := n) (l1.m hN hY).1 rfl hcl (fun f2 hf2 => bX10_ends_102 ?_)
    have hA2 : An I (u1 I1 58 f2) := l1.u1 (Or.inl rfl)
    have hLS2 : LnS I (u1 I1 58 f2) (fct n) (q.1, fun x => q.2 x && decide (x ≠ c)) ln many (i + 1) := hLS1.heap hA2 (u1_n _ _ (by decide)) (u1_n _ _ (by decide))
    have e61' : u1 I1 58 f2 61 i = nI c := by rw [u1_n _ _ (by decide)]; exact e61
    cases hR : wr I n by' (ur n c) 0 with
    | nil =>
      have hwl : wl I n by' (ur n c) 448 = [] := by rw [← wr_0]; exact hR
      have hen : enI I n by' c = true := by unfold enI; rw [hwl]; rfl
      have hsc : scI I n by' c = [] := by unfold scI; rw [hwl]; rfl
      obtain ⟨m1, m2, m3, m4⟩ := hA2.m hN hY
      obtain ⟨g1, g2⟩ := gd_ok (n := n) n7 hL hcl
      have hT0 := hT
      obtain ⟨t1, best, t2, t3, t4⟩ := hT0
      have hB : ∀ x, best = some x → x < fct n := fun x hx => by
        subst hx
        exact hK.1 x (Bool.and_eq_true_iff.mp t2.1.1).1
      have hbg : ∀ x, best = some x → gdI I n x ≤ 63 := fun x hx => (gd_ok (n := n) n7 hL (hB x hx)).2
      have hlt := gI_lt (gd := gdI I n) (best := best) (c := c) hbg g2
      refine tX10_nextWanted (I := u1 I1 58 f2) (n := n) (f := 0) (by' := by') (p := ur n c) m1 m2 (by rw [u1_s]; exact hf2) rfl (by omega) (by rw [hA2.2 1 (by omega)]; exact eb) (by omega) (fun hno x y z => ?_) (fun c' h1 h2 hw hno => ?_)
      · refine bX10_ends_111 ⟨fun w => absurd rfl w, fun _ => ?_⟩
        have hA3 := hA2.rg' (x := x) (y := y) (z := z)
        refine tX10_gladnessOf (n := n) (p := ur n c) (hA3.m hN hY).1 (by rw [rg_n48 (by decide), u1_s]; exact hf2) (bX10_ends_123 ?_)
        rw [(hA3.m hN hY).2.2.2, g1]
        have hx61 : rg (u1 I1 58 f2) x y z 61 i = nI c := by rw [rg_n48 (by decide)]; exact e61'
        have go : ∀ g' u', g' = gI (gdI I n) (ub (gdI I n) best c) → u' = oI (ub (gdI I n) best c) → am_R E mX10_ends 184 [some (.ref 48), some (.int a1), some (.int (nI many)), some (.int (h + 1)), some (.int g'), some (.int u'), some (.int (nI i)), some (.int (-1)), none] [] (hp (rg (u1 I1 58 f2) x y z) J b) 64 64 Q := by
          intro g' u' eg eu
          subst eg; subst eu
          refine bX10_ends_184 ⟨fun _ => ?_, fun w => absurd rfl w⟩
          rw [n1]
          have hk2 := ks1
          have ht2 := hts.2 hen best t2 t3 t4
          rw [hsc] at hk2 ht2
          exact ih (i + 1) (by omega) _ (q.1, fun x => q.2 x && decide (x ≠ c)) ln many _ _ _ (hLS2.heap hA3 (rg_n48 (by decide)) (rg_n48 (by decide))) hk2 ht2
        rw [t3, t4]
        refine ⟨fun w => ⟨i, rfl, by omega, ?_⟩, fun w => ?_⟩
        · rw [hx61]
          have hub : ub (gdI I n) best c = some c := by
            cases best with
            | none => rfl
            | some y => exact if_pos (Or.inl (hlt.mp w y rfl))
          refine ⟨fun w2 => absurd w (Int32.not_lt.mpr w2), fun _ => go _ _ (by rw [hub]; rfl) (by rw [hub]; rfl)⟩
        · cases best with
          | none => exact absurd (hlt.mpr (fun y e => by cases e)) w
          | some y =>
            have hy := hB y rfl
            have hgy := hbg y rfl
            have nl : ¬ gdI I n y < gdI I n c := fun z2 => w (hlt.mpr (fun y' e => by cases e; exact z2))
            have le : nI (gdI I n c) ≤ gI (gdI I n) (some y) := Int32.not_lt.mp w
            refine ne_br (n := gdI I n c) (m := gdI I n y) rfl rfl (by omega) (by omega) (fun z2 => ⟨i, rfl, by omega, ?_⟩) (fun z2 => ?_)
            · rw [hx61]
              refine le_br (n := y) (m := c) rfl rfl (by omega) (by omega) (fun z3 => ?_) (fun z3 => ?_)
              · have hub : ub (gdI I n) (some y) c = some y := if_neg (fun z4 => by omega)
                exact ⟨fun _ => go _ _ (by rw [hub]) (by rw [hub]), fun z4 => absurd le z4⟩
              · have hub : ub (gdI I n) (some y) c = some c := if_pos (Or.inr ⟨z2, z3⟩)
                refine ⟨fun _ => go _ _ ?_ (by rw [hub]; rfl), fun z4 => absurd le z4⟩
                rw [hub]
                show nI (gdI I n y) = nI (gdI I n c)
                rw [z2]
            · have hub : ub (gdI I n) (some y) c = some y := if_neg (fun z4 => by omega)
              exact ⟨fun _ => go _ _ (by rw [hub]) (by rw [hub]), fun z4 => absurd le z4⟩
      · rw [m3] at hw hno
        rw [wr_some (I := I) h1 h2 hw hno] at hR; cases hR
    | cons w0 R =>
      have hwl : wl I n by' (ur n c) 448 = w0 :: R := by rw [← wr_0]; exact hR
      have hen : enI I n by' c = false := by unfold enI; rw [hwl]; rfl
      have hsc : scI I n by' c = (w0 :: R).map (fun w => rk n (nx by' (ur n c) w)) := by unfold scI; rw [hwl]
      have hk2 := ks1
      have ht2 := hts.1 hen
      rw [hsc] at hk2 ht2
      refine inner (w0 :: R) 0 (q.1, fun x => q.2 x && decide (x ≠ c)) ln many (u1 I1 58 f2) h g u hR (by omega) hLS2 e61' (by rw [u1_s]; exact hf2) (fun I3 ln2 many2 z => ih (i + 1) (by omega) I3 _ ln2 many2 h g u z hk2 ht2) _ (fun v I3 hv z => bX10_ends_111 ⟨fun _ => z, fun w => absurd w (hv.resolve_left (by simp))⟩)
theorem bX9_ends_0 {E : Nat × (Nat → Int32)} {I : Nat → Nat → Int32} {J : Nat → Nat → Int64} {b : Bool} {a1 : Int32} {Q : Option Value → am_H → Prop}  (wp : ((a1 < 0 → Q (some (.int (-3))) (hp I J b)) ∧ (¬ a1 < 0 → ((a1 ≤ 2 → ((¬ (I 9 0) = 0 → am_R E mX7_from 0 [some (.ref 36), some (.ref 10), some (.int (I 4 1)), none, none] [] (hp I J b) 64 64 (fun r h' => am_R E mX9_ends 46 [some (.ref 0), some (.int a1)] (r.toList ++ []) h' 64 64 Q)) ∧ ((I 9 0) = 0 → Q (some (.int (-4))) (hp I J b)))) ∧ (¬ a1 ≤ 2 → Q (some (.int (-3))) (hp I J b)))))) : am_R E mX9_ends 0 [some (.ref 0), some (.int a1)] [] (hp I J b) 64 64 Q := by
  refine am_iload_n rfl rfl dX9_ends_0 ?_
  refine am_if_lt dX9_ends_1 (tgt := 9) rfl (fun hc1 => ?_) (fun hc1 => ?_)
  · have wp := wp.1 hc1
    refine am_bipush (-3) rfl dX9_ends_9 ?_
    exact am_iret dX9_ends_11 rfl rfl wp
  · have wp := wp.2 hc1
    refine am_iload_n rfl rfl dX9_ends_4 ?_
    refine am_iconst 2 rfl dX9_ends_5 ?_
    refine am_icmp_le dX9_ends_6 (tgt := 12) rfl (fun hc2 => ?_) (fun hc2 => ?_)
    · have wp := wp.1 hc2
      refine am_aload_n rfl rfl dX9_ends_12 ?_
      refine am_getA (r := 9) dX9_ends_13 flX9_26 (Or.inl ⟨_, rfl⟩) rfl (by decide) rfl ?_
      refine am_getI dX9_ends_16 flX9_160 (Or.inr rfl) rfl (by decide) ?_
      refine am_if_ne dX9_ends_19 (tgt := 25) rfl (fun hc3 => ?_) (fun hc3 => ?_)
      · have wp := wp.1 hc3
        refine am_aload_n rfl rfl dX9_ends_25 ?_
        refine am_getA (r := 36) dX9_ends_26 flX9_61 (Or.inl ⟨_, rfl⟩) rfl (by decide) rfl ?_
        refine am_aload_n rfl rfl dX9_ends_29 ?_
        refine am_getA (r := 9) dX9_ends_30 flX9_26 (Or.inl ⟨_, rfl⟩) rfl (by decide) rfl ?_
        refine am_getA (r := 10) dX9_ends_33 flX9_164 (Or.inr ⟨_, rfl⟩) rfl (by decide) rfl ?_
        refine am_aload_n rfl rfl dX9_ends_36 ?_
        refine am_getA (r := 4) dX9_ends_37 flX9_19 (Or.inl ⟨_, rfl⟩) rfl (by decide) rfl ?_
        refine am_getI dX9_ends_40 flX9_167 (Or.inl rfl) rfl (by decide) ?_
        refine am_invV (ci := 5) (As := [.ref 10, .int (I 4 1)]) (lsZ := [some (.ref 36), some (.ref 10), some (.int (I 4 1)), none, none]) (st := []) dX9_ends_43 hX7_from lkX9_198 ⟨by decide, by decide⟩ (by decide) rfl (by decide) rfl rfl rfl (Nat.le_of_ble_eq_true rfl) rfl (Nat.le_of_ble_eq_true rfl) ⟨Nat.le_refl _, Nat.le_refl _⟩ (am_R.mono wp (fun r h' q => am_R.forget q ⟨rfl, ⟨rfl, trivial⟩⟩))
      · have wp := wp.2 hc3
        refine am_bipush (-4) rfl dX9_ends_22 ?_
        exact am_iret dX9_ends_24 rfl rfl wp
    · have wp := wp.2 hc2
      refine am_bipush (-3) rfl dX9_ends_9 ?_
      exact am_iret dX9_ends_11 rfl rfl wp
theorem bX9_ends_46 {E : Nat × (Nat → Int32)} {I : Nat → Nat → Int32} {J : Nat → Nat → Int64} {b : Bool} {a1 : Int32} {Q : Option Value → am_H → Prop}  (wp : ((a1 = 0 → Q (some (.int (I 36 5))) (hp I J b)) ∧ (a1 = 1 → Q (some (.int (I 36 6))) (hp I J b)) ∧ (¬ a1 = 0 → ¬ a1 = 1 → Q (some (.int (I 36 7))) (hp I J b)))) : am_R E mX9_ends 46 [some (.ref 0), some (.int a1)] [] (hp I J b) 64 64 Q := by
  refine am_iload_n rfl rfl dX9_ends_46 ?_
  have wq1 := wp
  by_cases hs1_0 : a1 = 0
  · have wp := wq1.1 hs1_0
    refine am_lookC 0 dX9_ends_47 hs1_0 rfl rfl (tgt := 72) rfl ?_
    refine am_aload_n rfl rfl dX9_ends_72 ?_
    refine am_getA (r := 36) dX9_ends_73 flX9_61 (Or.inl ⟨_, rfl⟩) rfl (by decide) rfl ?_
    refine am_getI dX9_ends_76 flX9_201 (Or.inl rfl) rfl (by decide) ?_
    exact am_iret dX9_ends_79 rfl rfl wp
  by_cases hs1_1 : a1 = 1
  · have wp := wq1.2.1 hs1_1
    refine am_lookC 1 dX9_ends_47 hs1_1 rfl rfl (tgt := 80) rfl ?_
    refine am_aload_n rfl rfl dX9_ends_80 ?_
    refine am_getA (r := 36) dX9_ends_81 flX9_61 (Or.inl ⟨_, rfl⟩) rfl (by decide) rfl ?_
    refine am_getI dX9_ends_84 flX9_204 (Or.inl rfl) rfl (by decide) ?_
    exact am_iret dX9_ends_87 rfl rfl wp
  have wp := wq1.2.2 hs1_0 hs1_1
  have hz1_0 : a1.toInt ≠ 0 := am_ne hs1_0
  have hz1_1 : a1.toInt ≠ 1 := am_ne hs1_1
  refine am_look dX9_ends_47 rfl (off := 41) (lkd_2 hz1_0 hz1_1) (tgt := 88) rfl ?_
  refine am_aload_n rfl rfl dX9_ends_88 ?_
  refine am_getA (r := 36) dX9_ends_89 flX9_61 (Or.inl ⟨_, rfl⟩) rfl (by decide) rfl ?_
  refine am_getI dX9_ends_92 flX9_207 (Or.inl rfl) rfl (by decide) ?_
  exact am_iret dX9_ends_95 rfl rfl wp
theorem p_ends (hI : Inv I n) (a1 : Int32) : Pair E mX9_ends mX10_ends [some (.ref 0), some (.int a1)] [some (.ref 48), some (.int a1), none, none, none, none, none, none, none] I J b := by
  have hI0 := hI
  obtain ⟨hM, hC⟩ := hI
  obtain ⟨hN, hG, -, hL, -, -, hD, -⟩ := hM
  obtain ⟨hCH, c2, -, -, -, c5, -⟩ := hC
  have n0 := hN.1
  have n2 := hN.2.1
  have n7 := hN.2.2
  have hfl := fct_le n (by omega)
  have hY : Yw I n := hD.2.2.1
  by_cases hk : 0 ≤ a1 ∧ a1 ≤ 2
  case neg => exact Pair.same hI0 (.int (-3)) (fun Q h => bX9_ends_0 ⟨fun _ => h, fun q => ⟨fun q2 => absurd ⟨nlt q, q2⟩ hk, fun _ => h⟩⟩) (fun J b Q h => bX10_ends_0 ⟨fun q => absurd q hk, fun _ => h⟩)
  have nl : ¬ a1 < 0 := Int32.not_lt.mpr hk.1
  rcases hD.1 with z | z
  · exact Pair.same hI0 (.int (-4)) (fun Q h => bX9_ends_0 ⟨fun q => absurd q nl, fun _ => ⟨fun _ => ⟨fun q => absurd (c5.1.trans z) q, fun _ => h⟩, fun q => absurd hk.2 q⟩⟩) (fun J b Q h => bX10_ends_0 ⟨fun _ => ⟨fun q => absurd z q, fun _ => h⟩, fun q => absurd hk q⟩)
  · obtain ⟨p, hp1, hp2⟩ := hD.2.1 z
    have nz1 : ¬ I 9 0 = 0 := by rw [c5.1, z]; decide
    have nz2 : ¬ I 55 0 = 0 := by rw [z]; decide
    have hR : Rw (I 10) p n := fun m hm => ⟨by rw [c5.2.2.1 z m hm]; exact hp1 m hm, hp2.1 m hm⟩
    obtain ⟨g, hg, eg⟩ : ∃ g : Nat, (g = 0 ∨ g = 2 ∨ g = 3) ∧ I 48 1 = nI g := by
      rcases hG with q | q | q
      · exact ⟨0, Or.inl rfl, q⟩
      · exact ⟨2, Or.inr (Or.inl rfl), q⟩
      · exact ⟨3, Or.inr (Or.inr rfl), q⟩
    have hrl : rk n p < fct n := rk_lt
    obtain ⟨fh, fg, fu, hF⟩ := Fin.ex (N := fct n) (s := rk n p) (sc := scI I n g) (en := enI I n g) (gd := gdI I n) hrl (fun c _ d hd => sc_lt hd)
    have cls : ∀ Q : Option Value → am_H → Prop, (∀ I1 J1, Ag eS I I1 → (a1 = 0 → Q (some (.int fh)) (hp I1 J1 b)) ∧ (a1 = 1 → Q (some (.int fg)) (hp I1 J1 b)) ∧ (¬ a1 = 0 → ¬ a1 = 1 → Q (some (.int fu)) (hp I1 J1 b))) → am_R E mX9_ends 0 [some (.ref 0), some (.int a1)] [] (hp I J b) 64 64 Q := by
      intro Q h
      refine bX9_ends_0 ⟨fun q => absurd q nl, fun _ => ⟨fun _ => ⟨fun _ => ?_, fun q => absurd q nz1⟩, fun q => absurd hk.2 q⟩⟩
      refine tX7_from (n := n) (by' := g) (p := p) hCH hL hg (c2.trans eg) hR hp2 (fun I1 J1 hA hF1 => bX9_ends_46 ?_)
      obtain ⟨e1, e2, e3⟩ := hF1.uniq hF
      rw [e1, e2, e3]
      exact h I1 J1 hA
    have mdl : ∀ (I1 : Nat → Nat → Int32) (J1 : Nat → Nat → Int64) (b1 : Bool) (Q : Option Value → am_H → Prop), Ag eS I I1 → (∀ I2, An I1 I2 → (a1 = 0 → Q (some (.int fh)) (hp I2 J1 b1)) ∧ (a1 = 1 → Q (some (.int fg)) (hp I2 J1 b1)) ∧ (¬ a1 = 0 → ¬ a1 = 1 → Q (some (.int fu)) (hp I2 J1 b1))) → am_R E mX10_ends 0 [some (.ref 48), some (.int a1), none, none, none, none, none, none, none] [] (hp I1 J1 b1) 64 64 Q := by
      intro I1 J1 b1 Q hA h
      have e48 := hA 48 (by decide)
      have e50 := hA 50 (by decide)
      have e55 := hA 55 (by decide)
      have hN1 : Nn I1 n := by unfold Nn; rw [e48]; exact hN
      have hY1 : Yw I1 n := by unfold Yw; rw [e55]; exact hY
      have hL1 : Lk I1 := by unfold Lk; rw [e50]; exact hL
      obtain ⟨g1, g2, g3⟩ := graph_eq (I := I) (I' := I1) (hA 49 (by decide)) e50 (hA 51 (by decide)) (fun m => by rw [e55])
      have loop := tX10_ends85 (E := E) (J := J1) (b := b1) (Q := Q) (a1 := a1) (I := I1) (n := n) (by' := g) (s := rk n p) hN1 hY1 hL1 hg (by rw [e48]; exact eg) (fun I2 h' g' u' hA2 hF2 => by
        rw [g1, g2, g3] at hF2
        obtain ⟨e1, e2, e3⟩ := hF2.uniq hF
        rw [e1, e2, e3]
        exact h I2 hA2)
      refine bX10_ends_0 ⟨fun _ => ⟨fun _ => ?_, fun q => absurd (by rw [← e55]; exact q) nz2⟩, fun q => absurd hk q⟩
      have clear : ∀ r c, c + r = 5040 → ∀ f : Nat → Int32, (∀ x, x < c → f x = 0) → am_R E mX10_ends 26 [some (.ref 48), some (.int a1), some (.int (nI c)), none, none, none, none, none, none] [] (hp (u1 I1 60 f) J1 b1) 64 64 Q := by
        intro r
        induction r with
        | zero =>
          intro c hc f hf
          have e : c = 5040 := by omega
          subst e
          have hA2 : An I1 (u1 I1 60 f) := (An.rf I1).u1 (Or.inr (Or.inl rfl))
          obtain ⟨m1, m2, m3, m4⟩ := hA2.m hN1 hY1
          refine bX10_ends_26 (le_br (n := 5040) rfl rfl (by omega) (by omega) (fun _ => ?_) (fun q => by omega))
          refine tX10_takeToday (n := n) m1 (bX10_ends_50 ?_)
          have e55' : u1 I1 60 f 55 = I 55 := by rw [u1_n _ _ (by decide)]; exact e55
          have hA3 := hA2.u1 (k := 58) (f := va_cpy (u1 I1 60 f 55) (u1 I1 60 f 58) 1 0 n) (Or.inl rfl)
          refine tX10_numberOf (n := n) (p := p) (hA3.m hN1 hY1).1 (by rw [u1_s]; exact tk_rw (I := u1 I1 60 f) n7 (by rw [e55']; exact hp1) hp2) (bX10_ends_59 ⟨0, rfl, by omega, rk n p, by rw [u2_s]; rfl, by omega, ?_⟩)
          generalize hH : u1 (u1 I1 60 f) 58 (va_cpy (u1 I1 60 f 55) (u1 I1 60 f 58) 1 0 n) = H at hA3
          have H60 : H 60 = f := by rw [← hH, u1_n _ _ (by decide), u1_s]
          refine loop 5040 0 (by omega) _ (fun x => decide (x = rk n p), fun x => decide (x = rk n p)) (fun _ => rk n p) 1 0 (-1) (-1) ⟨(hA3.u2 (Or.inr (Or.inr rfl))).u2 (Or.inr (Or.inl rfl)), fun c hc => ?_, fun j hj => ?_, fun j _ _ => by simp, fun c hc => ⟨0, by omega, by omega, (of_decide_eq_true hc).symm⟩, fun j j' h1 h2 h3 => by omega, ?_, fun c hc => ?_, by omega⟩ ⟨fun c hc => ?_, fun c hc => hc, by simp, fun c hc => ?_, fun c hc hw => ?_⟩ ⟨?_, none, fun c q => ?_, rfl, rfl⟩
          · rw [u2_s, u2_n _ _ _ (by decide), H60]
            unfold upd
            by_cases e : c = rk n p
            · rw [if_pos e]; simp [e]
            · rw [if_neg e, hf c hc]; simp [e]
          · have e : j = 0 := by omega
            subst e
            rw [u2_n _ _ _ (by decide), u2_s]
            exact ⟨rfl, by simp⟩
          · have up := fb_ct_upd (fun _ => false) true hrl
            have e0 : fb_ct (fun _ => false) (fct n) = 0 := fb_ct_zero.mpr (fun _ _ => rfl)
            simp only [Bool.false_eq_true, if_false, if_true] at up
            have ec : fb_ct (fun x => decide (x = rk n p)) (fct n) = fb_ct (fun k => if k = rk n p then true else false) (fct n) := fb_ct_cong (fun x _ => by by_cases e : x = rk n p <;> simp [e])
            rw [ec]
            omega
          · rw [of_decide_eq_true hc]; exact hrl
          · rw [of_decide_eq_true hc]; exact hrl
          · rw [of_decide_eq_true hc]; exact Rch.st
          · exfalso
            have hc : decide (c = rk n p) = true := hc
            have hw : decide (c = rk n p) = false := hw
            rw [hc] at hw
            cases hw
          · have : fb_ct (fun c => (decide (c = rk n p) && !decide (c = rk n p)) && enI I1 n g c) (fct n) = 0 := fb_ct_zero.mpr (fun x _ => by simp)
            show (0 : Int32) = nI (fb_ct (fun c => (decide (c = rk n p) && !decide (c = rk n p)) && enI I1 n g c) (fct n))
            rw [this]; rfl
          · have := q.1
            simp at this
        | succ r ihr =>
          intro c hc f hf
          refine bX10_ends_26 (le_br (n := 5040) rfl rfl (by omega) (by omega) (fun q => by omega) (fun _ => ⟨c, rfl, by omega, ?_⟩))
          rw [n1, u2_u1]
          refine ihr (c + 1) (by omega) _ (fun x hx => ?_)
          unfold upd
          by_cases e : x = c
          · rw [if_pos e]
          · rw [if_neg e]; exact hf x (by omega)
      have := clear 5040 0 (by omega) (I1 60) (fun x hx => by omega)
      rw [u1_self] at this
      exact this
    have fin : ∀ I1 I2, Ag eS I I1 → An I1 I2 → Inv I2 n := by
      intro I1 I2 hA hA2
      have g : ∀ a, a ∉ ([23, 25, 36, 37, 38, 48, 58, 60, 61] : List Nat) → I2 a = I a := fun a ha => by
        simp at ha
        obtain ⟨x1, x2, x3, x4, x5, x6, x7, x8, x9⟩ := ha
        rw [hA2.1 a x6 x7 x8 x9]
        exact hA a (by simp [eS]; exact ⟨x1, x2, x3, x4, x5⟩)
      have g48 : ∀ j, j < 26 → I2 48 j = I 48 j := fun j hj => (hA2.2 j hj).trans (by rw [hA 48 (by decide)])
      exact hI0.sa ⟨⟨⟨g 4 (by decide), g 5 (by decide), g 6 (by decide), g 7 (by decide), g 8 (by decide), g 9 (by decide), g 10 (by decide), g 11 (by decide), g 12 (by decide)⟩, ⟨g 14 (by decide), g 15 (by decide), g 16 (by decide), g 17 (by decide), g 18 (by decide), g 19 (by decide), g 20 (by decide), g 21 (by decide), g 22 (by decide), g 24 (by decide), g 27 (by decide), g 29 (by decide), g 30 (by decide), g 32 (by decide), g 33 (by decide), g 35 (by decide)⟩, ⟨g48 0 (by decide), g48 1 (by decide), g 49 (by decide), g 50 (by decide), g 51 (by decide), g 52 (by decide), g 55 (by decide), g 56 (by decide), g 57 (by decide)⟩⟩, ⟨by rw [g 1 (by decide)], g 2 (by decide), g48 6 (by decide), g 53 (by decide)⟩⟩
    by_cases h0 : a1 = 0
    · exact ⟨.int fh, fun I1 => Ag eS I I1, fun Q h => cls Q (fun I1 J1 hA => ⟨fun _ => h I1 J1 b hA, fun q => by rw [h0] at q; exact absurd q (by decide), fun q => absurd h0 q⟩), fun I1 J1 b1 e Q h => mdl I1 J1 b1 Q e (fun I2 hA2 => ⟨fun _ => h I2 J1 b1 n (fin I1 I2 e hA2), fun q => by rw [h0] at q; exact absurd q (by decide), fun q => absurd h0 q⟩)⟩
    · by_cases h1 : a1 = 1
      · exact ⟨.int fg, fun I1 => Ag eS I I1, fun Q h => cls Q (fun I1 J1 hA => ⟨fun q => absurd q h0, fun _ => h I1 J1 b hA, fun _ q => absurd h1 q⟩), fun I1 J1 b1 e Q h => mdl I1 J1 b1 Q e (fun I2 hA2 => ⟨fun q => absurd q h0, fun _ => h I2 J1 b1 n (fin I1 I2 e hA2), fun _ q => absurd h1 q⟩)⟩
      · exact ⟨.int fu, fun I1 => Ag eS I I1, fun Q h => cls Q (fun I1 J1 hA => ⟨fun q => absurd q h0, fun q => absurd q h1, fun _ _ => h I1 J1 b hA⟩), fun I1 J1 b1 e Q h => mdl I1 J1 b1 Q e (fun I2 hA2 => ⟨fun q => absurd q h0, fun q => absurd q h1, fun _ _ => h I2 J1 b1 n (fin I1 I2 e hA2)⟩)⟩
end P17
