/-! ===== lines: the reference ===== -/
section P22
variable {E : Nat × (Nat → Int32)} {I I0 I' I2 : Nat → Nat → Int32} {J J' : Nat → Nat → Int64} {b : Bool} {n : Nat} {Q : Option Value → am_H → Prop}
variable {T : Nat → Int32} {L p : Nat}
/-- what the reference's reading may change -/
def Rs (I I1 : Nat → Nat → Int32) : Prop := (∀ a, a ≠ 48 → a ≠ 54 → I1 a = I a) ∧ I1 48 0 = I 48 0 ∧ I1 48 1 = I 48 1 ∧ I1 48 6 = I 48 6
theorem Rs.rf (I : Nat → Nat → Int32) : Rs I I := ⟨fun _ _ _ => rfl, rfl, rfl, rfl⟩
theorem Rs.tr (h : Rs I I') (g : Rs I' I2) : Rs I I2 := ⟨fun a h1 h2 => (g.1 a h1 h2).trans (h.1 a h1 h2), g.2.1.trans h.2.1, g.2.2.1.trans h.2.2.1, g.2.2.2.trans h.2.2.2⟩
theorem Mt.rs (h : Mt I I') : Rs I I' := ⟨fun a h1 _ => h.1 a h1, h.2 0 (by decide) (by decide) (by decide) (by decide), h.2 1 (by decide) (by decide) (by decide) (by decide), h.2 6 (by decide) (by decide) (by decide) (by decide)⟩
theorem Rs.u54 {j : Nat} {x : Int32} (h : Rs I I') : Rs I (u2 I' 54 j x) := ⟨fun a h1 h2 => by rw [u2_n _ _ _ h2]; exact h.1 a h1 h2, h.2.1, h.2.2.1, h.2.2.2⟩
theorem Rs.u48 {j : Nat} {x : Int32} (h : Rs I I') (hj : 8 ≤ j) : Rs I (u2 I' 48 j x) := ⟨fun a h1 h2 => by rw [u2_n _ _ _ h1]; exact h.1 a h1 h2, by rw [u2_at, if_neg (by omega)]; exact h.2.1, by rw [u2_at, if_neg (by omega)]; exact h.2.2.1, by rw [u2_at, if_neg (by omega)]; exact h.2.2.2⟩
theorem bX10_isNumber_0 {E : Nat × (Nat → Int32)} {I : Nat → Nat → Int32} {J : Nat → Nat → Int64} {b : Bool} {a1 : Int32} {a2 : Int32} {a3 : Int32} {Q : Option Value → am_H → Prop}  (wp : am_R E mX10_nextToken 0 [some (.ref 48)] [] (hp I J b) 64 64 (fun r h' => am_R E mX10_isNumber 4 [some (.ref 48), some (.int a1), some (.int a2), some (.int a3)] (r.toList ++ []) h' 64 64 Q)) : am_R E mX10_isNumber 0 [some (.ref 48), some (.int a1), some (.int a2), some (.int a3)] [] (hp I J b) 64 64 Q := by
  refine am_aload_n rfl rfl dX10_isNumber_0 ?_
  refine am_invV (ci := 8) (As := []) (lsZ := [some (.ref 48)]) (st := []) dX10_isNumber_1 hX10_nextToken lkX10_109 ⟨by decide, by decide⟩ (by decide) rfl (by decide) rfl rfl rfl (Nat.le_of_ble_eq_true rfl) rfl (Nat.le_of_ble_eq_true rfl) ⟨Nat.le_refl _, Nat.le_refl _⟩ (am_R.mono wp (fun r h' q => am_R.forget q ⟨rfl, ⟨rfl, ⟨rfl, ⟨rfl, trivial⟩⟩⟩⟩))
theorem bX10_isNumber_4 {E : Nat × (Nat → Int32)} {I : Nat → Nat → Int32} {J : Nat → Nat → Int64} {b : Bool} {a1 : Int32} {a2 : Int32} {a3 : Int32} {Q : Option Value → am_H → Prop}  (wp : ((¬ (lg_cmp (J 48 10) (-1)) = 0 → am_R E mX10_fails 0 [some (.ref 48)] [] (hp I J b) 64 64 (fun r h' => am_R E mX10_isNumber 31 [none, none, none, none] (r.toList ++ []) h' 64 64 Q)) ∧ ((lg_cmp (J 48 10) (-1)) = 0 → (((a2 ≤ (I 48 12) ∧ (I 48 12) ≤ a3) → ∃ j3, a1 = nI j3 ∧ j3 < 56 ∧ Q (some (.int 1)) (hp (u2 I 54 j3 (I 48 12)) J b)) ∧ (¬ (a2 ≤ (I 48 12) ∧ (I 48 12) ≤ a3) → am_R E mX10_fails 0 [some (.ref 48)] [] (hp I J b) 64 64 (fun r h' => am_R E mX10_isNumber 31 [none, none, none, none] (r.toList ++ []) h' 64 64 Q)))))) : am_R E mX10_isNumber 4 [some (.ref 48), some (.int a1), some (.int a2), some (.int a3)] [] (hp I J b) 64 64 Q := by
  refine am_aload_n rfl rfl dX10_isNumber_4 ?_
  refine am_getJ dX10_isNumber_5 flX10_92 rfl rfl (by decide) ?_
  refine am_ldc2 (-1) kcX10_102 dX10_isNumber_8 ?_
  refine am_lcmp dX10_isNumber_11 ?_
  refine am_if_ne dX10_isNumber_12 (tgt := 27) rfl (fun hc1 => ?_) (fun hc1 => ?_)
  · have wp := wp.1 hc1
    refine am_aload_n rfl rfl dX10_isNumber_27 ?_
    refine am_invV (ci := 8) (As := []) (lsZ := [some (.ref 48)]) (st := []) dX10_isNumber_28 hX10_fails lkX10_112 ⟨by decide, by decide⟩ (by decide) rfl (by decide) rfl rfl rfl (Nat.le_of_ble_eq_true rfl) rfl (Nat.le_of_ble_eq_true rfl) ⟨Nat.le_refl _, Nat.le_refl _⟩ (am_R.mono wp (fun r h' q => am_R.forget q trivial))
  · have wp := wp.2 hc1
    refine am_aload_n rfl rfl dX10_isNumber_15 ?_
    refine am_getI dX10_isNumber_16 flX10_87 (Or.inl rfl) rfl (by decide) ?_
    refine am_iload_n rfl rfl dX10_isNumber_19 ?_
    refine am_iload_n rfl rfl dX10_isNumber_20 ?_
    refine am_invS (As := [.int (I 48 12), .int a2, .int a3]) (lsZ := [some (.int (I 48 12)), some (.int a2), some (.int a3)]) (st := []) dX10_isNumber_21 hX10_in lkX10_69 ⟨by decide, by decide⟩ rfl rfl (Nat.le_of_ble_eq_true rfl) rfl (Nat.le_of_ble_eq_true rfl) ⟨Nat.le_refl _, Nat.le_refl _⟩ (tX10_in  (fun hc2 => ?_) (fun hc2 => ?_))
    · have wp := wp.1 hc2
      show am_R E mX10_isNumber 24 [some (.ref 48), some (.int a1), some (.int a2), some (.int a3)] [.int 1] (hp I J b) 64 64 Q
      refine am_if_ne dX10_isNumber_24 (tgt := 32) rfl (fun _ => ?_) (fun hc => absurd hc (by decide))
      refine am_aload_n rfl rfl dX10_isNumber_32 ?_
      refine am_getA (r := 54) dX10_isNumber_33 flX10_32 (Or.inr ⟨_, rfl⟩) rfl (by decide) rfl ?_
      refine am_iload_n rfl rfl dX10_isNumber_36 ?_
      refine am_aload_n rfl rfl dX10_isNumber_37 ?_
      refine am_getI dX10_isNumber_38 flX10_87 (Or.inl rfl) rfl (by decide) ?_
      obtain ⟨j3, e3, w3, wp⟩ := wp
      refine am_iastN (j := j3) dX10_isNumber_41 rfl (by decide) e3 w3 (by decide) ?_
      refine am_iconst 1 rfl dX10_isNumber_42 ?_
      exact am_iret dX10_isNumber_43 rfl (by decide) wp
    · have wp := wp.2 hc2
      show am_R E mX10_isNumber 24 [some (.ref 48), some (.int a1), some (.int a2), some (.int a3)] [.int 0] (hp I J b) 64 64 Q
      refine am_if_ne dX10_isNumber_24 (tgt := 32) rfl (fun hc => absurd hc (by decide)) (fun _ => ?_)
      refine am_aload_n rfl rfl dX10_isNumber_27 ?_
      refine am_invV (ci := 8) (As := []) (lsZ := [some (.ref 48)]) (st := []) dX10_isNumber_28 hX10_fails lkX10_112 ⟨by decide, by decide⟩ (by decide) rfl (by decide) rfl rfl rfl (Nat.le_of_ble_eq_true rfl) rfl (Nat.le_of_ble_eq_true rfl) ⟨Nat.le_refl _, Nat.le_refl _⟩ (am_R.mono wp (fun r h' q => am_R.forget q trivial))
theorem bX10_isNumber_31 {E : Nat × (Nat → Int32)} {I : Nat → Nat → Int32} {J : Nat → Nat → Int64} {b : Bool} {x0 : Int32} {Q : Option Value → am_H → Prop}  (wp : (narrow .boolean (.int x0) = .int x0) ∧ Q (some (.int x0)) (hp I J b)) : am_R E mX10_isNumber 31 [none, none, none, none] [.int x0] (hp I J b) 64 64 Q := by
  exact am_iret dX10_isNumber_31 rfl wp.1 wp.2
theorem tX10_isNumber {w lo hi : Nat} {a1 a2 a3 : Int32} (eL : I 48 6 = nI L) (hL : L ≤ 200) (e8 : I 48 8 = nI p) (hp' : p ≤ L) (hT : ∀ j, j < L → I 53 j = T j) (ew : a1 = nI w) (hw : w < 56) (el : a2 = nI lo) (hlo : lo ≤ 99) (eh : a3 = nI hi) (hhi : hi ≤ 99) (k0 : ∀ I1 J1, (∀ x, nv T L p = some x → ¬ (lo ≤ x ∧ x ≤ hi)) → Rs I I1 → I1 48 13 = nI (ts T L p) → Q (some (.int 0)) (hp I1 J1 b)) (k1 : ∀ I1 J1 x, nv T L p = some x → lo ≤ x ∧ x ≤ hi → Mt I I1 → I1 48 8 = nI (te T L p) → I1 48 9 = nI (ts T L p) → Q (some (.int 1)) (hp (u2 I1 54 w (nI x)) J1 b)) : am_R E mX10_isNumber 0 [some (.ref 48), some (.int a1), some (.int a2), some (.int a3)] [] (hp I J b) 64 64 Q := by
  subst ew; subst el; subst eh
  refine bX10_isNumber_0 (tX10_nextToken eL hL e8 hp' hT (fun I1 J1 hM h8 h9 hJ hx => bX10_isNumber_4 ?_))
  have fin : (∀ x, nv T L p = some x → ¬ (lo ≤ x ∧ x ≤ hi)) → am_R E mX10_fails 0 [some (.ref 48)] [] (hp I1 J1 b) 64 64 (fun r h' => am_R E mX10_isNumber 31 [none, none, none, none] (r.toList ++ []) h' 64 64 Q) := fun h => bX10_fails_0 (bX10_isNumber_31 ⟨rfl, k0 _ _ h (hM.rs.u48 (by decide)) (by rw [u2_at, if_pos rfl]; exact h9)⟩)
  have hnum := tkv_num (T := T) hp'
  refine ⟨fun q => fin (fun x hx2 => ?_), fun q => ?_⟩
  · exact absurd ((lg_cmp_eq _ _).mpr (hJ.trans (hnum.mpr ⟨x, hx2⟩))) q
  · obtain ⟨x, hx2⟩ := hnum.mp (hJ.symm.trans ((lg_cmp_eq _ _).mp q))
    have hx9 := nv_le hp' hx2
    rw [hx x hx2]
    refine ⟨fun z => ⟨w, rfl, hw, k1 I1 J1 x hx2 ⟨(nI_leI (by omega) (by omega)).mp z.1, (nI_leI (by omega) (by omega)).mp z.2⟩ hM h8 h9⟩, fun z => fin (fun y hy zz => z ?_)⟩
    rw [hx2] at hy
    cases hy
    exact ⟨(nI_leI (by omega) (by omega)).mpr zz.1, (nI_leI (by omega) (by omega)).mpr zz.2⟩
/-- the reference's number of a verb -/
def mvc (i : Nat) : Nat := ([0, 1, 2, 5, 6, 7, 8, 4, 3] : List Nat).getD i 0
def mvI : Option Nat → Int32
  | none => -1
  | some i => nI (mvc i)
/-- within a line: t numbers less 1 are read -/
def Ms (I0 I : Nat → Nat → Int32) (L c i mo t p : Nat) (xs : Nat → Nat) : Prop := Rs I0 I ∧ I 48 8 = nI p ∧ p ≤ L ∧ I 48 14 = I0 48 14 ∧ I 48 15 = nI mo ∧ (∀ j, j < 4 * c → I 54 j = I0 54 j) ∧ I 54 (4 * c) = nI (mvc i) ∧ ∀ u, 1 ≤ u → u < t → I 54 (4 * c + u) = nI (xs u)
theorem Ms.step {c i mo t x : Nat} {xs : Nat → Nat} (hS : Ms I0 I L c i mo t p xs) (ht : 1 ≤ t) (hte : te T L p ≤ L) (hM : Mt I I') (h8 : I' 48 8 = nI (te T L p)) : Ms I0 (u2 I' 54 (4 * c + t) (nI x)) L c i mo (t + 1) (te T L p) (va_up xs t x) := by
  obtain ⟨s1, s2, s3, s4, s5, s6, s7, s8⟩ := hS
  have g54 : I' 54 = I 54 := hM.1 54 (by decide)
  refine ⟨(s1.tr hM.rs).u54, ?_, hte, ?_, ?_, fun j hj => ?_, ?_, fun u h1 h2 => ?_⟩
  · rw [u2_n _ _ _ (by decide)]; exact h8
  · rw [u2_n _ _ _ (by decide), hM.2 14 (by decide) (by decide) (by decide) (by decide)]; exact s4
  · rw [u2_n _ _ _ (by decide), hM.2 15 (by decide) (by decide) (by decide) (by decide)]; exact s5
  · rw [u2_at, if_neg (by omega), g54]; exact s6 j hj
  · rw [u2_at, if_neg (by omega), g54]; exact s7
  · rw [u2_at, g54]
    by_cases z : u = t
    · rw [if_pos (by omega), z, up_s]
    · rw [if_neg (by omega), up_n z]; exact s8 u h1 (by omega)
theorem nStep {c i mo t r lo hi : Nat} {xs : Nat → Nat} {a1 a2 a3 : Int32} (eL : I0 48 6 = nI L) (hL : L ≤ 200) (hT : ∀ j, j < L → I0 53 j = T j) (hS : Ms I0 I L c i mo t p xs) (hc : c < 14) (ht : 1 ≤ t) (ht3 : t ≤ 3) (ea : a1 = nI (4 * c + t)) (el : a2 = nI lo) (hlo : lo ≤ 99) (eh : a3 = nI hi) (hhi : hi ≤ 99) (hfit : ∀ x, x ≤ 99 → (fitN i t x mo = true ↔ lo ≤ x ∧ x ≤ hi)) (k0 : ∀ I1 J1, pN T L i mo (r + 1) t p xs = .inl (ts T L p) → Rs I0 I1 → I1 48 13 = nI (ts T L p) → Q (some (.int 0)) (hp I1 J1 b)) (k1 : ∀ I1 J1 x, pN T L i mo (r + 1) t p xs = pN T L i mo r (t + 1) (te T L p) (va_up xs t x) → Ms I0 I1 L c i mo (t + 1) (te T L p) (va_up xs t x) → Q (some (.int 1)) (hp I1 J1 b)) : am_R E mX10_isNumber 0 [some (.ref 48), some (.int a1), some (.int a2), some (.int a3)] [] (hp I J b) 64 64 Q := by
  have s1 := hS.1
  have s3 := hS.2.2.1
  refine tX10_isNumber (L := L) (p := p) (T := T) (by rw [s1.2.2.2]; exact eL) hL hS.2.1 s3 (fun j hj => by rw [s1.1 53 (by decide) (by decide)]; exact hT j hj) ea (by omega) el hlo eh hhi (fun I1 J1 hno hR h13 => k0 I1 J1 ?_ (s1.tr hR) h13) (fun I1 J1 x hx hin hM h8 h9 => k1 _ J1 x ?_ (hS.step ht (te_ok s3).2.1 hM h8))
  · cases hv : nv T L p with
    | none => rw [pN, hv]
    | some x =>
      have hf : ¬ fitN i t x mo = true := fun z => hno x hv ((hfit x (nv_le s3 hv)).mp z)
      rw [pN, hv]
      exact if_neg hf
  · have hf : fitN i t x mo = true := (hfit x (nv_le s3 hx)).mpr hin
    rw [pN, hx]
    exact if_pos hf
theorem bX10_isThere_0 {E : Nat × (Nat → Int32)} {I : Nat → Nat → Int32} {J : Nat → Nat → Int64} {b : Bool} {a1 : Int32} {Q : Option Value → am_H → Prop}  (wp : am_R E mX10_isNumber 0 [some (.ref 48), some (.int a1), some (.int 0), some (.int ((I 48 15) - 1))] [] (hp I J b) 64 64 (fun r h' => am_R E mX10_isThere 12 [none, none] (r.toList ++ []) h' 64 64 Q)) : am_R E mX10_isThere 0 [some (.ref 48), some (.int a1)] [] (hp I J b) 64 64 Q := by
  refine am_aload_n rfl rfl dX10_isThere_0 ?_
  refine am_iload_n rfl rfl dX10_isThere_1 ?_
  refine am_iconst 0 rfl dX10_isThere_2 ?_
  refine am_aload_n rfl rfl dX10_isThere_3 ?_
  refine am_getI dX10_isThere_4 flX10_116 (Or.inl rfl) rfl (by decide) ?_
  refine am_iconst 1 rfl dX10_isThere_7 ?_
  refine am_isub dX10_isThere_8 ?_
  refine am_invV (ci := 8) (As := [.int a1, .int 0, .int ((I 48 15) - 1)]) (lsZ := [some (.ref 48), some (.int a1), some (.int 0), some (.int ((I 48 15) - 1))]) (st := []) dX10_isThere_9 hX10_isNumber lkX10_119 ⟨by decide, by decide⟩ (by decide) rfl (by decide) rfl rfl rfl (Nat.le_of_ble_eq_true rfl) rfl (Nat.le_of_ble_eq_true rfl) ⟨Nat.le_refl _, Nat.le_refl _⟩ (am_R.mono wp (fun r h' q => am_R.forget q trivial))
theorem bX10_isThere_12 {E : Nat × (Nat → Int32)} {I : Nat → Nat → Int32} {J : Nat → Nat → Int64} {b : Bool} {x0 : Int32} {Q : Option Value → am_H → Prop}  (wp : (narrow .boolean (.int x0) = .int x0) ∧ Q (some (.int x0)) (hp I J b)) : am_R E mX10_isThere 12 [none, none] [.int x0] (hp I J b) 64 64 Q := by
  exact am_iret dX10_isThere_12 rfl wp.1 wp.2
theorem nThere {c i mo t r : Nat} {xs : Nat → Nat} {a1 : Int32} (eL : I0 48 6 = nI L) (hL : L ≤ 200) (hT : ∀ j, j < L → I0 53 j = T j) (hS : Ms I0 I L c i mo t p xs) (hc : c < 14) (ht : 1 ≤ t) (ht3 : t ≤ 2) (hm : 1 ≤ mo) (hm7 : mo ≤ 7) (hi0 : ¬ i = 0) (hi7 : ¬ i = 7) (ea : a1 = nI (4 * c + t)) (k0 : ∀ I1 J1, pN T L i mo (r + 1) t p xs = .inl (ts T L p) → Rs I0 I1 → I1 48 13 = nI (ts T L p) → Q (some (.int 0)) (hp I1 J1 b)) (k1 : ∀ I1 J1 x, pN T L i mo (r + 1) t p xs = pN T L i mo r (t + 1) (te T L p) (va_up xs t x) → Ms I0 I1 L c i mo (t + 1) (te T L p) (va_up xs t x) → Q (some (.int 1)) (hp I1 J1 b)) : am_R E mX10_isThere 0 [some (.ref 48), some (.int a1)] [] (hp I J b) 64 64 Q := by
  refine bX10_isThere_0 (nStep (r := r) (lo := 0) (hi := mo - 1) eL hL hT hS hc ht (by omega) ea rfl (by omega) (by rw [hS.2.2.2.2.1, show (1 : Int32) = nI 1 from rfl, pk_sub hm]) (by omega) (fun x hx => ?_) (fun I1 J1 h1 h2 h3 => bX10_isThere_12 ⟨rfl, k0 I1 J1 h1 h2 h3⟩) (fun I1 J1 x h1 h2 => bX10_isThere_12 ⟨rfl, k1 I1 J1 x h1 h2⟩))
  unfold fitN
  rw [if_neg hi0, if_neg hi7, if_neg (by omega), decide_eq_true_eq]
  omega
/-- the line's verb -/
theorem bX10_isHall_0 {E : Nat × (Nat → Int32)} {I : Nat → Nat → Int32} {J : Nat → Nat → Int64} {b : Bool} {a1 : Int32} {Q : Option Value → am_H → Prop}  (wp : am_R E mX10_isNumber 0 [some (.ref 48), some (.int (a1 + 1)), some (.int 2), some (.int 7)] [] (hp I J b) 64 64 (fun r h' => am_R E mX10_isHall 10 [some (.ref 48), some (.int a1)] (r.toList ++ []) h' 64 64 Q)) : am_R E mX10_isHall 0 [some (.ref 48), some (.int a1)] [] (hp I J b) 64 64 Q := by
  refine am_aload_n rfl rfl dX10_isHall_0 ?_
  refine am_iload_n rfl rfl dX10_isHall_1 ?_
  refine am_iconst 1 rfl dX10_isHall_2 ?_
  refine am_iadd dX10_isHall_3 ?_
  refine am_iconst 2 rfl dX10_isHall_4 ?_
  refine am_bipush 7 rfl dX10_isHall_5 ?_
  refine am_invV (ci := 8) (As := [.int (a1 + 1), .int 2, .int 7]) (lsZ := [some (.ref 48), some (.int (a1 + 1)), some (.int 2), some (.int 7)]) (st := []) dX10_isHall_7 hX10_isNumber lkX10_119 ⟨by decide, by decide⟩ (by decide) rfl (by decide) rfl rfl rfl (Nat.le_of_ble_eq_true rfl) rfl (Nat.le_of_ble_eq_true rfl) ⟨Nat.le_refl _, Nat.le_refl _⟩ (am_R.mono wp (fun r h' q => am_R.forget q ⟨rfl, ⟨rfl, trivial⟩⟩))
theorem bX10_isHall_10 {E : Nat × (Nat → Int32)} {I : Nat → Nat → Int32} {J : Nat → Nat → Int64} {b : Bool} {a1 : Int32} {x0 : Int32} {Q : Option Value → am_H → Prop}  (wp : ((¬ x0 = 0 → ∃ j2, (a1 + 1) = nI j2 ∧ j2 < 56 ∧ Q (some (.int 1)) (hp (u2 I 48 15 (I 54 j2)) J b)) ∧ (x0 = 0 → Q (some (.int 0)) (hp I J b)))) : am_R E mX10_isHall 10 [some (.ref 48), some (.int a1)] [.int x0] (hp I J b) 64 64 Q := by
  refine am_if_ne dX10_isHall_10 (tgt := 15) rfl (fun hc1 => ?_) (fun hc1 => ?_)
  · have wp := wp.1 hc1
    refine am_aload_n rfl rfl dX10_isHall_15 ?_
    refine am_aload_n rfl rfl dX10_isHall_16 ?_
    refine am_getA (r := 54) dX10_isHall_17 flX10_32 (Or.inr ⟨_, rfl⟩) rfl (by decide) rfl ?_
    refine am_iload_n rfl rfl dX10_isHall_20 ?_
    refine am_iconst 1 rfl dX10_isHall_21 ?_
    refine am_iadd dX10_isHall_22 ?_
    obtain ⟨j2, e2, w2, wp⟩ := wp
    refine am_ialdN (j := j2) dX10_isHall_23 rfl (by decide) e2 w2 (by decide) ?_
    refine am_putI dX10_isHall_24 flX10_116 (Or.inl rfl) rfl rfl (by decide) ?_
    refine am_iconst 1 rfl dX10_isHall_27 ?_
    exact am_iret dX10_isHall_28 rfl (by decide) wp
  · have wp := wp.2 hc1
    refine am_iconst 0 rfl dX10_isHall_13 ?_
    exact am_iret dX10_isHall_14 rfl (by decide) wp
theorem bX10_isRing_0 {E : Nat × (Nat → Int32)} {I : Nat → Nat → Int32} {J : Nat → Nat → Int64} {b : Bool} {a1 : Int32} {Q : Option Value → am_H → Prop}  (wp : am_R E mX10_isNumber 0 [some (.ref 48), some (.int (a1 + 1)), some (.int 0), some (.int 3)] [] (hp I J b) 64 64 (fun r h' => am_R E mX10_isRing 9 [some (.ref 48), some (.int a1)] (r.toList ++ []) h' 64 64 Q)) : am_R E mX10_isRing 0 [some (.ref 48), some (.int a1)] [] (hp I J b) 64 64 Q := by
  refine am_aload_n rfl rfl dX10_isRing_0 ?_
  refine am_iload_n rfl rfl dX10_isRing_1 ?_
  refine am_iconst 1 rfl dX10_isRing_2 ?_
  refine am_iadd dX10_isRing_3 ?_
  refine am_iconst 0 rfl dX10_isRing_4 ?_
  refine am_iconst 3 rfl dX10_isRing_5 ?_
  refine am_invV (ci := 8) (As := [.int (a1 + 1), .int 0, .int 3]) (lsZ := [some (.ref 48), some (.int (a1 + 1)), some (.int 0), some (.int 3)]) (st := []) dX10_isRing_6 hX10_isNumber lkX10_119 ⟨by decide, by decide⟩ (by decide) rfl (by decide) rfl rfl rfl (Nat.le_of_ble_eq_true rfl) rfl (Nat.le_of_ble_eq_true rfl) ⟨Nat.le_refl _, Nat.le_refl _⟩ (am_R.mono wp (fun r h' q => am_R.forget q ⟨rfl, ⟨rfl, trivial⟩⟩))
theorem bX10_isRing_9 {E : Nat × (Nat → Int32)} {I : Nat → Nat → Int32} {J : Nat → Nat → Int64} {b : Bool} {a1 : Int32} {x0 : Int32} {Q : Option Value → am_H → Prop}  (wp : ((¬ x0 = 0 → ∃ j2, (a1 + 1) = nI j2 ∧ j2 < 56 ∧ ((¬ (I 54 j2) = 1 → Q (some (.int 1)) (hp I J b)) ∧ ((I 54 j2) = 1 → am_R E mX10_fails 0 [some (.ref 48)] [] (hp I J b) 64 64 (fun r h' => am_R E mX10_isRing 30 [none, none] (r.toList ++ []) h' 64 64 Q)))) ∧ (x0 = 0 → Q (some (.int 0)) (hp I J b)))) : am_R E mX10_isRing 9 [some (.ref 48), some (.int a1)] [.int x0] (hp I J b) 64 64 Q := by
  refine am_if_ne dX10_isRing_9 (tgt := 14) rfl (fun hc1 => ?_) (fun hc1 => ?_)
  · have wp := wp.1 hc1
    refine am_aload_n rfl rfl dX10_isRing_14 ?_
    refine am_getA (r := 54) dX10_isRing_15 flX10_32 (Or.inr ⟨_, rfl⟩) rfl (by decide) rfl ?_
    refine am_iload_n rfl rfl dX10_isRing_18 ?_
    refine am_iconst 1 rfl dX10_isRing_19 ?_
    refine am_iadd dX10_isRing_20 ?_
    obtain ⟨j2, e2, w2, wp⟩ := wp
    refine am_ialdN (j := j2) dX10_isRing_21 rfl (by decide) e2 w2 (by decide) ?_
    refine am_iconst 1 rfl dX10_isRing_22 ?_
    refine am_icmp_ne dX10_isRing_23 (tgt := 33) rfl (fun hc3 => ?_) (fun hc3 => ?_)
    · have wp := wp.1 hc3
      refine am_iconst 1 rfl dX10_isRing_33 ?_
      refine am_goto dX10_isRing_34 (tgt := 38) rfl ?_
      exact am_iret dX10_isRing_38 rfl (by decide) wp
    · have wp := wp.2 hc3
      refine am_aload_n rfl rfl dX10_isRing_26 ?_
      refine am_invV (ci := 8) (As := []) (lsZ := [some (.ref 48)]) (st := []) dX10_isRing_27 hX10_fails lkX10_112 ⟨by decide, by decide⟩ (by decide) rfl (by decide) rfl rfl rfl (Nat.le_of_ble_eq_true rfl) rfl (Nat.le_of_ble_eq_true rfl) ⟨Nat.le_refl _, Nat.le_refl _⟩ (am_R.mono wp (fun r h' q => am_R.forget q trivial))
  · have wp := wp.2 hc1
    refine am_iconst 0 rfl dX10_isRing_12 ?_
    exact am_iret dX10_isRing_13 rfl (by decide) wp
theorem bX10_isRing_30 {E : Nat × (Nat → Int32)} {I : Nat → Nat → Int32} {J : Nat → Nat → Int64} {b : Bool} {x0 : Int32} {Q : Option Value → am_H → Prop}  (wp : ((x0 = 0 → Q (some (.int 0)) (hp I J b)) ∧ (¬ x0 = 0 → Q (some (.int 1)) (hp I J b)))) : am_R E mX10_isRing 30 [none, none] [.int x0] (hp I J b) 64 64 Q := by
  refine am_if_eq dX10_isRing_30 (tgt := 37) rfl (fun hc1 => ?_) (fun hc1 => ?_)
  · have wp := wp.1 hc1
    refine am_iconst 0 rfl dX10_isRing_37 ?_
    exact am_iret dX10_isRing_38 rfl (by decide) wp
  · have wp := wp.2 hc1
    refine am_iconst 1 rfl dX10_isRing_33 ?_
    refine am_goto dX10_isRing_34 (tgt := 38) rfl ?_
    exact am_iret dX10_isRing_38 rfl (by decide) wp
theorem bX10_isLine_0 {E : Nat × (Nat → Int32)} {I : Nat → Nat → Int32} {J : Nat → Nat → Int64} {b : Bool} {a1 : Int32} {Q : Option Value → am_H → Prop}  (wp : am_R E mX10_nextToken 0 [some (.ref 48)] [] (hp I J b) 64 64 (fun r h' => am_R E mX10_isLine 4 [some (.ref 48), some (.int a1), none, none] (r.toList ++ []) h' 64 64 Q)) : am_R E mX10_isLine 0 [some (.ref 48), some (.int a1), none, none] [] (hp I J b) 64 64 Q := by
  refine am_aload_n rfl rfl dX10_isLine_0 ?_
  refine am_invV (ci := 8) (As := []) (lsZ := [some (.ref 48)]) (st := []) dX10_isLine_1 hX10_nextToken lkX10_109 ⟨by decide, by decide⟩ (by decide) rfl (by decide) rfl rfl rfl (Nat.le_of_ble_eq_true rfl) rfl (Nat.le_of_ble_eq_true rfl) ⟨Nat.le_refl _, Nat.le_refl _⟩ (am_R.mono wp (fun r h' q => am_R.forget q ⟨rfl, ⟨rfl, trivial⟩⟩))
theorem bX10_isLine_4 {E : Nat × (Nat → Int32)} {I : Nat → Nat → Int32} {J : Nat → Nat → Int64} {b : Bool} {a1 : Int32} {Q : Option Value → am_H → Prop}  (wp : ((¬ (lg_cmp (J 48 10) 158529) = 0 → ((¬ (lg_cmp (J 48 10) 10320789) = 0 → ((¬ (lg_cmp (J 48 10) 243059) = 0 → ((¬ (lg_cmp (J 48 10) 3163) = 0 → ((¬ (lg_cmp (J 48 10) 361240) = 0 → am_R E mX10_isLine 81 [some (.ref 48), some (.int a1), some (.int (-1)), none] [] (hp I J b) 64 64 Q) ∧ ((lg_cmp (J 48 10) 361240) = 0 → am_R E mX10_isLine 81 [some (.ref 48), some (.int a1), some (.int 4), none] [] (hp I J b) 64 64 Q))) ∧ ((lg_cmp (J 48 10) 3163) = 0 → am_R E mX10_isLine 81 [some (.ref 48), some (.int a1), some (.int 3), none] [] (hp I J b) 64 64 Q))) ∧ ((lg_cmp (J 48 10) 243059) = 0 → am_R E mX10_isLine 81 [some (.ref 48), some (.int a1), some (.int 2), none] [] (hp I J b) 64 64 Q))) ∧ ((lg_cmp (J 48 10) 10320789) = 0 → am_R E mX10_isLine 81 [some (.ref 48), some (.int a1), some (.int 1), none] [] (hp I J b) 64 64 Q))) ∧ ((lg_cmp (J 48 10) 158529) = 0 → am_R E mX10_isLine 81 [some (.ref 48), some (.int a1), some (.int 0), none] [] (hp I J b) 64 64 Q))) : am_R E mX10_isLine 4 [some (.ref 48), some (.int a1), none, none] [] (hp I J b) 64 64 Q := by
  refine am_aload_n rfl rfl dX10_isLine_4 ?_
  refine am_getJ dX10_isLine_5 flX10_92 rfl rfl (by decide) ?_
  refine am_ldc2 158529 kcX10_122 dX10_isLine_8 ?_
  refine am_lcmp dX10_isLine_11 ?_
  refine am_if_ne dX10_isLine_12 (tgt := 19) rfl (fun hc1 => ?_) (fun hc1 => ?_)
  · have wp := wp.1 hc1
    refine am_aload_n rfl rfl dX10_isLine_19 ?_
    refine am_getJ dX10_isLine_20 flX10_92 rfl rfl (by decide) ?_
    refine am_ldc2 10320789 kcX10_124 dX10_isLine_23 ?_
    refine am_lcmp dX10_isLine_26 ?_
    refine am_if_ne dX10_isLine_27 (tgt := 34) rfl (fun hc2 => ?_) (fun hc2 => ?_)
    · have wp := wp.1 hc2
      refine am_aload_n rfl rfl dX10_isLine_34 ?_
      refine am_getJ dX10_isLine_35 flX10_92 rfl rfl (by decide) ?_
      refine am_ldc2 243059 kcX10_126 dX10_isLine_38 ?_
      refine am_lcmp dX10_isLine_41 ?_
      refine am_if_ne dX10_isLine_42 (tgt := 49) rfl (fun hc3 => ?_) (fun hc3 => ?_)
      · have wp := wp.1 hc3
        refine am_aload_n rfl rfl dX10_isLine_49 ?_
        refine am_getJ dX10_isLine_50 flX10_92 rfl rfl (by decide) ?_
        refine am_ldc2 3163 kcX10_128 dX10_isLine_53 ?_
        refine am_lcmp dX10_isLine_56 ?_
        refine am_if_ne dX10_isLine_57 (tgt := 64) rfl (fun hc4 => ?_) (fun hc4 => ?_)
        · have wp := wp.1 hc4
          refine am_aload_n rfl rfl dX10_isLine_64 ?_
          refine am_getJ dX10_isLine_65 flX10_92 rfl rfl (by decide) ?_
          refine am_ldc2 361240 kcX10_130 dX10_isLine_68 ?_
          refine am_lcmp dX10_isLine_71 ?_
          refine am_if_ne dX10_isLine_72 (tgt := 79) rfl (fun hc5 => ?_) (fun hc5 => ?_)
          · have wp := wp.1 hc5
            refine am_iconst (-1) rfl dX10_isLine_79 ?_
            refine am_istore_n (ls' := [some (.ref 48), some (.int a1), some (.int (-1)), none]) rfl (by decide) rfl rfl dX10_isLine_80 ?_
            exact am_R.forget wp ⟨rfl, ⟨rfl, ⟨rfl, trivial⟩⟩⟩
          · have wp := wp.2 hc5
            refine am_iconst 4 rfl dX10_isLine_75 ?_
            refine am_goto dX10_isLine_76 (tgt := 80) rfl ?_
            refine am_istore_n (ls' := [some (.ref 48), some (.int a1), some (.int 4), none]) rfl (by decide) rfl rfl dX10_isLine_80 ?_
            exact am_R.forget wp ⟨rfl, ⟨rfl, ⟨rfl, trivial⟩⟩⟩
        · have wp := wp.2 hc4
          refine am_iconst 3 rfl dX10_isLine_60 ?_
          refine am_goto dX10_isLine_61 (tgt := 80) rfl ?_
          refine am_istore_n (ls' := [some (.ref 48), some (.int a1), some (.int 3), none]) rfl (by decide) rfl rfl dX10_isLine_80 ?_
          exact am_R.forget wp ⟨rfl, ⟨rfl, ⟨rfl, trivial⟩⟩⟩
      · have wp := wp.2 hc3
        refine am_iconst 2 rfl dX10_isLine_45 ?_
        refine am_goto dX10_isLine_46 (tgt := 80) rfl ?_
        refine am_istore_n (ls' := [some (.ref 48), some (.int a1), some (.int 2), none]) rfl (by decide) rfl rfl dX10_isLine_80 ?_
        exact am_R.forget wp ⟨rfl, ⟨rfl, ⟨rfl, trivial⟩⟩⟩
    · have wp := wp.2 hc2
      refine am_iconst 1 rfl dX10_isLine_30 ?_
      refine am_goto dX10_isLine_31 (tgt := 80) rfl ?_
      refine am_istore_n (ls' := [some (.ref 48), some (.int a1), some (.int 1), none]) rfl (by decide) rfl rfl dX10_isLine_80 ?_
      exact am_R.forget wp ⟨rfl, ⟨rfl, ⟨rfl, trivial⟩⟩⟩
  · have wp := wp.2 hc1
    refine am_iconst 0 rfl dX10_isLine_15 ?_
    refine am_goto dX10_isLine_16 (tgt := 80) rfl ?_
    refine am_istore_n (ls' := [some (.ref 48), some (.int a1), some (.int 0), none]) rfl (by decide) rfl rfl dX10_isLine_80 ?_
    exact am_R.forget wp ⟨rfl, ⟨rfl, ⟨rfl, trivial⟩⟩⟩
theorem bX10_isLine_81 {E : Nat × (Nat → Int32)} {I : Nat → Nat → Int32} {J : Nat → Nat → Int64} {b : Bool} {a1 : Int32} {a2 : Int32} {Q : Option Value → am_H → Prop}  (wp : ((¬ (lg_cmp (J 48 10) 8740238) = 0 → ((¬ (lg_cmp (J 48 10) 292122349) = 0 → ((¬ (lg_cmp (J 48 10) 168748) = 0 → ((¬ (lg_cmp (J 48 10) 10553888) = 0 → am_R E mX10_isLine 146 [some (.ref 48), some (.int a1), some (.int a2), some (.int (-1))] [] (hp I J b) 64 64 Q) ∧ ((lg_cmp (J 48 10) 10553888) = 0 → am_R E mX10_isLine 146 [some (.ref 48), some (.int a1), some (.int a2), some (.int 8)] [] (hp I J b) 64 64 Q))) ∧ ((lg_cmp (J 48 10) 168748) = 0 → am_R E mX10_isLine 146 [some (.ref 48), some (.int a1), some (.int a2), some (.int 7)] [] (hp I J b) 64 64 Q))) ∧ ((lg_cmp (J 48 10) 292122349) = 0 → am_R E mX10_isLine 146 [some (.ref 48), some (.int a1), some (.int a2), some (.int 6)] [] (hp I J b) 64 64 Q))) ∧ ((lg_cmp (J 48 10) 8740238) = 0 → am_R E mX10_isLine 146 [some (.ref 48), some (.int a1), some (.int a2), some (.int 5)] [] (hp I J b) 64 64 Q))) : am_R E mX10_isLine 81 [some (.ref 48), some (.int a1), some (.int a2), none] [] (hp I J b) 64 64 Q := by
  refine am_aload_n rfl rfl dX10_isLine_81 ?_
  refine am_getJ dX10_isLine_82 flX10_92 rfl rfl (by decide) ?_
  refine am_ldc2 8740238 kcX10_132 dX10_isLine_85 ?_
  refine am_lcmp dX10_isLine_88 ?_
  refine am_if_ne dX10_isLine_89 (tgt := 96) rfl (fun hc1 => ?_) (fun hc1 => ?_)
  · have wp := wp.1 hc1
    refine am_aload_n rfl rfl dX10_isLine_96 ?_
    refine am_getJ dX10_isLine_97 flX10_92 rfl rfl (by decide) ?_
    refine am_ldc2 292122349 kcX10_134 dX10_isLine_100 ?_
    refine am_lcmp dX10_isLine_103 ?_
    refine am_if_ne dX10_isLine_104 (tgt := 112) rfl (fun hc2 => ?_) (fun hc2 => ?_)
    · have wp := wp.1 hc2
      refine am_aload_n rfl rfl dX10_isLine_112 ?_
      refine am_getJ dX10_isLine_113 flX10_92 rfl rfl (by decide) ?_
      refine am_ldc2 168748 kcX10_136 dX10_isLine_116 ?_
      refine am_lcmp dX10_isLine_119 ?_
      refine am_if_ne dX10_isLine_120 (tgt := 128) rfl (fun hc3 => ?_) (fun hc3 => ?_)
      · have wp := wp.1 hc3
        refine am_aload_n rfl rfl dX10_isLine_128 ?_
        refine am_getJ dX10_isLine_129 flX10_92 rfl rfl (by decide) ?_
        refine am_ldc2 10553888 kcX10_138 dX10_isLine_132 ?_
        refine am_lcmp dX10_isLine_135 ?_
        refine am_if_ne dX10_isLine_136 (tgt := 144) rfl (fun hc4 => ?_) (fun hc4 => ?_)
        · have wp := wp.1 hc4
          refine am_iconst (-1) rfl dX10_isLine_144 ?_
          refine am_istore_n (ls' := [some (.ref 48), some (.int a1), some (.int a2), some (.int (-1))]) rfl (by decide) rfl rfl dX10_isLine_145 ?_
          exact am_R.forget wp ⟨rfl, ⟨rfl, ⟨rfl, ⟨rfl, trivial⟩⟩⟩⟩
        · have wp := wp.2 hc4
          refine am_bipush 8 rfl dX10_isLine_139 ?_
          refine am_goto dX10_isLine_141 (tgt := 145) rfl ?_
          refine am_istore_n (ls' := [some (.ref 48), some (.int a1), some (.int a2), some (.int 8)]) rfl (by decide) rfl rfl dX10_isLine_145 ?_
          exact am_R.forget wp ⟨rfl, ⟨rfl, ⟨rfl, ⟨rfl, trivial⟩⟩⟩⟩
      · have wp := wp.2 hc3
        refine am_bipush 7 rfl dX10_isLine_123 ?_
        refine am_goto dX10_isLine_125 (tgt := 145) rfl ?_
        refine am_istore_n (ls' := [some (.ref 48), some (.int a1), some (.int a2), some (.int 7)]) rfl (by decide) rfl rfl dX10_isLine_145 ?_
        exact am_R.forget wp ⟨rfl, ⟨rfl, ⟨rfl, ⟨rfl, trivial⟩⟩⟩⟩
    · have wp := wp.2 hc2
      refine am_bipush 6 rfl dX10_isLine_107 ?_
      refine am_goto dX10_isLine_109 (tgt := 145) rfl ?_
      refine am_istore_n (ls' := [some (.ref 48), some (.int a1), some (.int a2), some (.int 6)]) rfl (by decide) rfl rfl dX10_isLine_145 ?_
      exact am_R.forget wp ⟨rfl, ⟨rfl, ⟨rfl, ⟨rfl, trivial⟩⟩⟩⟩
  · have wp := wp.2 hc1
    refine am_iconst 5 rfl dX10_isLine_92 ?_
    refine am_goto dX10_isLine_93 (tgt := 145) rfl ?_
    refine am_istore_n (ls' := [some (.ref 48), some (.int a1), some (.int a2), some (.int 5)]) rfl (by decide) rfl rfl dX10_isLine_145 ?_
    exact am_R.forget wp ⟨rfl, ⟨rfl, ⟨rfl, ⟨rfl, trivial⟩⟩⟩⟩
theorem bX10_isLine_146 {E : Nat × (Nat → Int32)} {I : Nat → Nat → Int32} {J : Nat → Nat → Int64} {b : Bool} {a1 : Int32} {a2 : Int32} {a3 : Int32} {Q : Option Value → am_H → Prop}  (wp : ((¬ a2 = (-1) → ∃ j2, a1 = nI j2 ∧ j2 < 56 ∧ am_R E mX10_isLine 168 [some (.ref 48), some (.int a1), none, none] [.int ((u2 I 54 j2 a2) 54 j2)] (hp (u2 I 54 j2 a2) J b) 64 64 Q) ∧ (a2 = (-1) → ∃ j3, a1 = nI j3 ∧ j3 < 56 ∧ am_R E mX10_isLine 168 [some (.ref 48), some (.int a1), none, none] [.int ((u2 I 54 j3 a3) 54 j3)] (hp (u2 I 54 j3 a3) J b) 64 64 Q))) : am_R E mX10_isLine 146 [some (.ref 48), some (.int a1), some (.int a2), some (.int a3)] [] (hp I J b) 64 64 Q := by
  refine am_aload_n rfl rfl dX10_isLine_146 ?_
  refine am_getA (r := 54) dX10_isLine_147 flX10_32 (Or.inr ⟨_, rfl⟩) rfl (by decide) rfl ?_
  refine am_iload_n rfl rfl dX10_isLine_150 ?_
  refine am_iload_n rfl rfl dX10_isLine_151 ?_
  refine am_iconst (-1) rfl dX10_isLine_152 ?_
  refine am_icmp_ne dX10_isLine_153 (tgt := 160) rfl (fun hc1 => ?_) (fun hc1 => ?_)
  · have wp := wp.1 hc1
    refine am_iload_n rfl rfl dX10_isLine_160 ?_
    obtain ⟨j2, e2, w2, wp⟩ := wp
    refine am_iastN (j := j2) dX10_isLine_161 rfl (by decide) e2 w2 (by decide) ?_
    refine am_aload_n rfl rfl dX10_isLine_162 ?_
    refine am_getA (r := 54) dX10_isLine_163 flX10_32 (Or.inr ⟨_, rfl⟩) rfl (by decide) rfl ?_
    refine am_iload_n rfl rfl dX10_isLine_166 ?_
    refine am_ialdN (j := j2) dX10_isLine_167 rfl (by decide) e2 w2 (by decide) ?_
    show am_R E mX10_isLine 168 [some (.ref 48), some (.int a1), some (.int a2), some (.int a3)] [.int ((u2 I 54 j2 a2) 54 j2)] (hp (u2 I 54 j2 a2) J b) 64 64 Q
    exact am_R.forget wp ⟨rfl, ⟨rfl, trivial⟩⟩
  · have wp := wp.2 hc1
    refine am_iload_n rfl rfl dX10_isLine_156 ?_
    refine am_goto dX10_isLine_157 (tgt := 161) rfl ?_
    obtain ⟨j3, e3, w3, wp⟩ := wp
    refine am_iastN (j := j3) dX10_isLine_161 rfl (by decide) e3 w3 (by decide) ?_
    refine am_aload_n rfl rfl dX10_isLine_162 ?_
    refine am_getA (r := 54) dX10_isLine_163 flX10_32 (Or.inr ⟨_, rfl⟩) rfl (by decide) rfl ?_
    refine am_iload_n rfl rfl dX10_isLine_166 ?_
    refine am_ialdN (j := j3) dX10_isLine_167 rfl (by decide) e3 w3 (by decide) ?_
    show am_R E mX10_isLine 168 [some (.ref 48), some (.int a1), some (.int a2), some (.int a3)] [.int ((u2 I 54 j3 a3) 54 j3)] (hp (u2 I 54 j3 a3) J b) 64 64 Q
    exact am_R.forget wp ⟨rfl, ⟨rfl, trivial⟩⟩
theorem bX10_isLine_168 {E : Nat × (Nat → Int32)} {I : Nat → Nat → Int32} {J : Nat → Nat → Int64} {b : Bool} {a1 : Int32} {x0 : Int32} {Q : Option Value → am_H → Prop}  (wp : ((x0 = 0 → am_R E mX10_isHall 0 [some (.ref 48), some (.int a1)] [] (hp I J b) 64 64 (fun r h' => am_R E mX10_isLine 225 [none, none, none, none] (r.toList ++ []) h' 64 64 Q)) ∧ (x0 = 1 → am_R E mX10_isThere 0 [some (.ref 48), some (.int (a1 + 1))] [] (hp I J b) 64 64 (fun r h' => am_R E mX10_isLine 233 [some (.ref 48), some (.int a1), none, none] (r.toList ++ []) h' 64 64 Q)) ∧ (x0 = 2 → am_R E mX10_isThere 0 [some (.ref 48), some (.int (a1 + 1))] [] (hp I J b) 64 64 (fun r h' => am_R E mX10_isLine 233 [some (.ref 48), some (.int a1), none, none] (r.toList ++ []) h' 64 64 Q)) ∧ (x0 = 3 → am_R E mX10_isThere 0 [some (.ref 48), some (.int (a1 + 1))] [] (hp I J b) 64 64 (fun r h' => am_R E mX10_isLine 272 [some (.ref 48), some (.int a1), none, none] (r.toList ++ []) h' 64 64 Q)) ∧ (x0 = 4 → am_R E mX10_isRing 0 [some (.ref 48), some (.int a1)] [] (hp I J b) 64 64 (fun r h' => am_R E mX10_isLine 296 [none, none, none, none] (r.toList ++ []) h' 64 64 Q)) ∧ (x0 = 5 → am_R E mX10_isThere 0 [some (.ref 48), some (.int (a1 + 1))] [] (hp I J b) 64 64 (fun r h' => am_R E mX10_isLine 304 [none, none, none, none] (r.toList ++ []) h' 64 64 Q)) ∧ (x0 = 6 → am_R E mX10_isThere 0 [some (.ref 48), some (.int (a1 + 1))] [] (hp I J b) 64 64 (fun r h' => am_R E mX10_isLine 304 [none, none, none, none] (r.toList ++ []) h' 64 64 Q)) ∧ (x0 = 7 → am_R E mX10_isThere 0 [some (.ref 48), some (.int (a1 + 1))] [] (hp I J b) 64 64 (fun r h' => am_R E mX10_isLine 304 [none, none, none, none] (r.toList ++ []) h' 64 64 Q)) ∧ (x0 = 8 → am_R E mX10_isThere 0 [some (.ref 48), some (.int (a1 + 1))] [] (hp I J b) 64 64 (fun r h' => am_R E mX10_isLine 304 [none, none, none, none] (r.toList ++ []) h' 64 64 Q)) ∧ (¬ x0 = 0 → ¬ x0 = 1 → ¬ x0 = 2 → ¬ x0 = 3 → ¬ x0 = 4 → ¬ x0 = 5 → ¬ x0 = 6 → ¬ x0 = 7 → ¬ x0 = 8 → am_R E mX10_fails 0 [some (.ref 48)] [] (hp I J b) 64 64 (fun r h' => am_R E mX10_isLine 309 [none, none, none, none] (r.toList ++ []) h' 64 64 Q)))) : am_R E mX10_isLine 168 [some (.ref 48), some (.int a1), none, none] [.int x0] (hp I J b) 64 64 Q := by
  have wq1 := wp
  by_cases hs1_0 : x0 = 0
  · have wp := wq1.1 hs1_0
    refine am_tabC 0 dX10_isLine_168 hs1_0 (by decide) (by decide) rfl (tgt := 220) rfl ?_
    refine am_aload_n rfl rfl dX10_isLine_220 ?_
    refine am_iload_n rfl rfl dX10_isLine_221 ?_
    refine am_invV (ci := 8) (As := [.int a1]) (lsZ := [some (.ref 48), some (.int a1)]) (st := []) dX10_isLine_222 hX10_isHall lkX10_140 ⟨by decide, by decide⟩ (by decide) rfl (by decide) rfl rfl rfl (Nat.le_of_ble_eq_true rfl) rfl (Nat.le_of_ble_eq_true rfl) ⟨Nat.le_refl _, Nat.le_refl _⟩ (am_R.mono wp (fun r h' q => am_R.forget q trivial))
  by_cases hs1_1 : x0 = 1
  · have wp := wq1.2.1 hs1_1
    refine am_tabC 1 dX10_isLine_168 hs1_1 (by decide) (by decide) rfl (tgt := 226) rfl ?_
    refine am_aload_n rfl rfl dX10_isLine_226 ?_
    refine am_iload_n rfl rfl dX10_isLine_227 ?_
    refine am_iconst 1 rfl dX10_isLine_228 ?_
    refine am_iadd dX10_isLine_229 ?_
    refine am_invV (ci := 8) (As := [.int (a1 + 1)]) (lsZ := [some (.ref 48), some (.int (a1 + 1))]) (st := []) dX10_isLine_230 hX10_isThere lkX10_144 ⟨by decide, by decide⟩ (by decide) rfl (by decide) rfl rfl rfl (Nat.le_of_ble_eq_true rfl) rfl (Nat.le_of_ble_eq_true rfl) ⟨Nat.le_refl _, Nat.le_refl _⟩ (am_R.mono wp (fun r h' q => am_R.forget q ⟨rfl, ⟨rfl, trivial⟩⟩))
  by_cases hs1_2 : x0 = 2
  · have wp := wq1.2.2.1 hs1_2
    refine am_tabC 2 dX10_isLine_168 hs1_2 (by decide) (by decide) rfl (tgt := 226) rfl ?_
    refine am_aload_n rfl rfl dX10_isLine_226 ?_
    refine am_iload_n rfl rfl dX10_isLine_227 ?_
    refine am_iconst 1 rfl dX10_isLine_228 ?_
    refine am_iadd dX10_isLine_229 ?_
    refine am_invV (ci := 8) (As := [.int (a1 + 1)]) (lsZ := [some (.ref 48), some (.int (a1 + 1))]) (st := []) dX10_isLine_230 hX10_isThere lkX10_144 ⟨by decide, by decide⟩ (by decide) rfl (by decide) rfl rfl rfl (Nat.le_of_ble_eq_true rfl) rfl (Nat.le_of_ble_eq_true rfl) ⟨Nat.le_refl _, Nat.le_refl _⟩ (am_R.mono wp (fun r h' q => am_R.forget q ⟨rfl, ⟨rfl, trivial⟩⟩))
  by_cases hs1_3 : x0 = 3
  · have wp := wq1.2.2.2.1 hs1_3
    refine am_tabC 3 dX10_isLine_168 hs1_3 (by decide) (by decide) rfl (tgt := 265) rfl ?_
    refine am_aload_n rfl rfl dX10_isLine_265 ?_
    refine am_iload_n rfl rfl dX10_isLine_266 ?_
    refine am_iconst 1 rfl dX10_isLine_267 ?_
    refine am_iadd dX10_isLine_268 ?_
    refine am_invV (ci := 8) (As := [.int (a1 + 1)]) (lsZ := [some (.ref 48), some (.int (a1 + 1))]) (st := []) dX10_isLine_269 hX10_isThere lkX10_144 ⟨by decide, by decide⟩ (by decide) rfl (by decide) rfl rfl rfl (Nat.le_of_ble_eq_true rfl) rfl (Nat.le_of_ble_eq_true rfl) ⟨Nat.le_refl _, Nat.le_refl _⟩ (am_R.mono wp (fun r h' q => am_R.forget q ⟨rfl, ⟨rfl, trivial⟩⟩))
  by_cases hs1_4 : x0 = 4
  · have wp := wq1.2.2.2.2.1 hs1_4
    refine am_tabC 4 dX10_isLine_168 hs1_4 (by decide) (by decide) rfl (tgt := 291) rfl ?_
    refine am_aload_n rfl rfl dX10_isLine_291 ?_
    refine am_iload_n rfl rfl dX10_isLine_292 ?_
    refine am_invV (ci := 8) (As := [.int a1]) (lsZ := [some (.ref 48), some (.int a1)]) (st := []) dX10_isLine_293 hX10_isRing lkX10_147 ⟨by decide, by decide⟩ (by decide) rfl (by decide) rfl rfl rfl (Nat.le_of_ble_eq_true rfl) rfl (Nat.le_of_ble_eq_true rfl) ⟨Nat.le_refl _, Nat.le_refl _⟩ (am_R.mono wp (fun r h' q => am_R.forget q trivial))
  by_cases hs1_5 : x0 = 5
  · have wp := wq1.2.2.2.2.2.1 hs1_5
    refine am_tabC 5 dX10_isLine_168 hs1_5 (by decide) (by decide) rfl (tgt := 297) rfl ?_
    refine am_aload_n rfl rfl dX10_isLine_297 ?_
    refine am_iload_n rfl rfl dX10_isLine_298 ?_
    refine am_iconst 1 rfl dX10_isLine_299 ?_
    refine am_iadd dX10_isLine_300 ?_
    refine am_invV (ci := 8) (As := [.int (a1 + 1)]) (lsZ := [some (.ref 48), some (.int (a1 + 1))]) (st := []) dX10_isLine_301 hX10_isThere lkX10_144 ⟨by decide, by decide⟩ (by decide) rfl (by decide) rfl rfl rfl (Nat.le_of_ble_eq_true rfl) rfl (Nat.le_of_ble_eq_true rfl) ⟨Nat.le_refl _, Nat.le_refl _⟩ (am_R.mono wp (fun r h' q => am_R.forget q trivial))
  by_cases hs1_6 : x0 = 6
  · have wp := wq1.2.2.2.2.2.2.1 hs1_6
    refine am_tabC 6 dX10_isLine_168 hs1_6 (by decide) (by decide) rfl (tgt := 297) rfl ?_
    refine am_aload_n rfl rfl dX10_isLine_297 ?_
    refine am_iload_n rfl rfl dX10_isLine_298 ?_
    refine am_iconst 1 rfl dX10_isLine_299 ?_
    refine am_iadd dX10_isLine_300 ?_
    refine am_invV (ci := 8) (As := [.int (a1 + 1)]) (lsZ := [some (.ref 48), some (.int (a1 + 1))]) (st := []) dX10_isLine_301 hX10_isThere lkX10_144 ⟨by decide, by decide⟩ (by decide) rfl (by decide) rfl rfl rfl (Nat.le_of_ble_eq_true rfl) rfl (Nat.le_of_ble_eq_true rfl) ⟨Nat.le_refl _, Nat.le_refl _⟩ (am_R.mono wp (fun r h' q => am_R.forget q trivial))
  by_cases hs1_7 : x0 = 7
  · have wp := wq1.2.2.2.2.2.2.2.1 hs1_7
    refine am_tabC 7 dX10_isLine_168 hs1_7 (by decide) (by decide) rfl (tgt := 297) rfl ?_
    refine am_aload_n rfl rfl dX10_isLine_297 ?_
    refine am_iload_n rfl rfl dX10_isLine_298 ?_
    refine am_iconst 1 rfl dX10_isLine_299 ?_
    refine am_iadd dX10_isLine_300 ?_
    refine am_invV (ci := 8) (As := [.int (a1 + 1)]) (lsZ := [some (.ref 48), some (.int (a1 + 1))]) (st := []) dX10_isLine_301 hX10_isThere lkX10_144 ⟨by decide, by decide⟩ (by decide) rfl (by decide) rfl rfl rfl (Nat.le_of_ble_eq_true rfl) rfl (Nat.le_of_ble_eq_true rfl) ⟨Nat.le_refl _, Nat.le_refl _⟩ (am_R.mono wp (fun r h' q => am_R.forget q trivial))
  by_cases hs1_8 : x0 = 8
  · have wp := wq1.2.2.2.2.2.2.2.2.1 hs1_8
    refine am_tabC 8 dX10_isLine_168 hs1_8 (by decide) (by decide) rfl (tgt := 297) rfl ?_
    refine am_aload_n rfl rfl dX10_isLine_297 ?_
    refine am_iload_n rfl rfl dX10_isLine_298 ?_
    refine am_iconst 1 rfl dX10_isLine_299 ?_
    refine am_iadd dX10_isLine_300 ?_
    refine am_invV (ci := 8) (As := [.int (a1 + 1)]) (lsZ := [some (.ref 48), some (.int (a1 + 1))]) (st := []) dX10_isLine_301 hX10_isThere lkX10_144 ⟨by decide, by decide⟩ (by decide) rfl (by decide) rfl rfl rfl (Nat.le_of_ble_eq_true rfl) rfl (Nat.le_of_ble_eq_true rfl) ⟨Nat.le_refl _, Nat.le_refl _⟩ (am_R.mono wp (fun r h' q => am_R.forget q trivial))
  have wp := wq1.2.2.2.2.2.2.2.2.2 hs1_0 hs1_1 hs1_2 hs1_3 hs1_4 hs1_5 hs1_6 hs1_7 hs1_8
  have hz1_0 : x0.toInt ≠ 0 := am_ne hs1_0
  have hz1_1 : x0.toInt ≠ 1 := am_ne hs1_1
  have hz1_2 : x0.toInt ≠ 2 := am_ne hs1_2
  have hz1_3 : x0.toInt ≠ 3 := am_ne hs1_3
  have hz1_4 : x0.toInt ≠ 4 := am_ne hs1_4
  have hz1_5 : x0.toInt ≠ 5 := am_ne hs1_5
  have hz1_6 : x0.toInt ≠ 6 := am_ne hs1_6
  have hz1_7 : x0.toInt ≠ 7 := am_ne hs1_7
  have hz1_8 : x0.toInt ≠ 8 := am_ne hs1_8
  show am_R E mX10_isLine 168 [some (.ref 48), some (.int a1), none, none] [.int x0] (hp I J b) 64 64 Q
  refine am_tabOut dX10_isLine_168 (by omega) (tgt := 305) rfl ?_
  refine am_aload_n rfl rfl dX10_isLine_305 ?_
  refine am_invV (ci := 8) (As := []) (lsZ := [some (.ref 48)]) (st := []) dX10_isLine_306 hX10_fails lkX10_112 ⟨by decide, by decide⟩ (by decide) rfl (by decide) rfl rfl rfl (Nat.le_of_ble_eq_true rfl) rfl (Nat.le_of_ble_eq_true rfl) ⟨Nat.le_refl _, Nat.le_refl _⟩ (am_R.mono wp (fun r h' q => am_R.forget q trivial))
theorem bX10_isLine_225 {E : Nat × (Nat → Int32)} {I : Nat → Nat → Int32} {J : Nat → Nat → Int64} {b : Bool} {x0 : Int32} {Q : Option Value → am_H → Prop}  (wp : (narrow .boolean (.int x0) = .int x0) ∧ Q (some (.int x0)) (hp I J b)) : am_R E mX10_isLine 225 [none, none, none, none] [.int x0] (hp I J b) 64 64 Q := by
  exact am_iret dX10_isLine_225 rfl wp.1 wp.2
theorem bX10_isLine_233 {E : Nat × (Nat → Int32)} {I : Nat → Nat → Int32} {J : Nat → Nat → Int64} {b : Bool} {a1 : Int32} {x0 : Int32} {Q : Option Value → am_H → Prop}  (wp : ((x0 = 0 → Q (some (.int 0)) (hp I J b)) ∧ (¬ x0 = 0 → am_R E mX10_isThere 0 [some (.ref 48), some (.int (a1 + 2))] [] (hp I J b) 64 64 (fun r h' => am_R E mX10_isLine 243 [some (.ref 48), some (.int a1), none, none] (r.toList ++ []) h' 64 64 Q)))) : am_R E mX10_isLine 233 [some (.ref 48), some (.int a1), none, none] [.int x0] (hp I J b) 64 64 Q := by
  refine am_if_eq dX10_isLine_233 (tgt := 263) rfl (fun hc1 => ?_) (fun hc1 => ?_)
  · have wp := wp.1 hc1
    refine am_iconst 0 rfl dX10_isLine_263 ?_
    exact am_iret dX10_isLine_264 rfl (by decide) wp
  · have wp := wp.2 hc1
    refine am_aload_n rfl rfl dX10_isLine_236 ?_
    refine am_iload_n rfl rfl dX10_isLine_237 ?_
    refine am_iconst 2 rfl dX10_isLine_238 ?_
    refine am_iadd dX10_isLine_239 ?_
    refine am_invV (ci := 8) (As := [.int (a1 + 2)]) (lsZ := [some (.ref 48), some (.int (a1 + 2))]) (st := []) dX10_isLine_240 hX10_isThere lkX10_144 ⟨by decide, by decide⟩ (by decide) rfl (by decide) rfl rfl rfl (Nat.le_of_ble_eq_true rfl) rfl (Nat.le_of_ble_eq_true rfl) ⟨Nat.le_refl _, Nat.le_refl _⟩ (am_R.mono wp (fun r h' q => am_R.forget q ⟨rfl, ⟨rfl, trivial⟩⟩))
theorem bX10_isLine_243 {E : Nat × (Nat → Int32)} {I : Nat → Nat → Int32} {J : Nat → Nat → Int64} {b : Bool} {a1 : Int32} {x0 : Int32} {Q : Option Value → am_H → Prop}  (wp : ((x0 = 0 → Q (some (.int 0)) (hp I J b)) ∧ (¬ x0 = 0 → am_R E mX10_isNumber 0 [some (.ref 48), some (.int (a1 + 3)), some (.int 0), some (.int 9)] [] (hp I J b) 64 64 (fun r h' => am_R E mX10_isLine 256 [none, none, none, none] (r.toList ++ []) h' 64 64 Q)))) : am_R E mX10_isLine 243 [some (.ref 48), some (.int a1), none, none] [.int x0] (hp I J b) 64 64 Q := by
  refine am_if_eq dX10_isLine_243 (tgt := 263) rfl (fun hc1 => ?_) (fun hc1 => ?_)
  · have wp := wp.1 hc1
    refine am_iconst 0 rfl dX10_isLine_263 ?_
    exact am_iret dX10_isLine_264 rfl (by decide) wp
  · have wp := wp.2 hc1
    refine am_aload_n rfl rfl dX10_isLine_246 ?_
    refine am_iload_n rfl rfl dX10_isLine_247 ?_
    refine am_iconst 3 rfl dX10_isLine_248 ?_
    refine am_iadd dX10_isLine_249 ?_
    refine am_iconst 0 rfl dX10_isLine_250 ?_
    refine am_bipush 9 rfl dX10_isLine_251 ?_
    refine am_invV (ci := 8) (As := [.int (a1 + 3), .int 0, .int 9]) (lsZ := [some (.ref 48), some (.int (a1 + 3)), some (.int 0), some (.int 9)]) (st := []) dX10_isLine_253 hX10_isNumber lkX10_119 ⟨by decide, by decide⟩ (by decide) rfl (by decide) rfl rfl rfl (Nat.le_of_ble_eq_true rfl) rfl (Nat.le_of_ble_eq_true rfl) ⟨Nat.le_refl _, Nat.le_refl _⟩ (am_R.mono wp (fun r h' q => am_R.forget q trivial))
theorem bX10_isLine_256 {E : Nat × (Nat → Int32)} {I : Nat → Nat → Int32} {J : Nat → Nat → Int64} {b : Bool} {x0 : Int32} {Q : Option Value → am_H → Prop}  (wp : ((x0 = 0 → Q (some (.int 0)) (hp I J b)) ∧ (¬ x0 = 0 → Q (some (.int 1)) (hp I J b)))) : am_R E mX10_isLine 256 [none, none, none, none] [.int x0] (hp I J b) 64 64 Q := by
  refine am_if_eq dX10_isLine_256 (tgt := 263) rfl (fun hc1 => ?_) (fun hc1 => ?_)
  · have wp := wp.1 hc1
    refine am_iconst 0 rfl dX10_isLine_263 ?_
    exact am_iret dX10_isLine_264 rfl (by decide) wp
  · have wp := wp.2 hc1
    refine am_iconst 1 rfl dX10_isLine_259 ?_
    refine am_goto dX10_isLine_260 (tgt := 264) rfl ?_
    exact am_iret dX10_isLine_264 rfl (by decide) wp
theorem bX10_isLine_272 {E : Nat × (Nat → Int32)} {I : Nat → Nat → Int32} {J : Nat → Nat → Int64} {b : Bool} {a1 : Int32} {x0 : Int32} {Q : Option Value → am_H → Prop}  (wp : ((x0 = 0 → Q (some (.int 0)) (hp I J b)) ∧ (¬ x0 = 0 → am_R E mX10_isThere 0 [some (.ref 48), some (.int (a1 + 2))] [] (hp I J b) 64 64 (fun r h' => am_R E mX10_isLine 282 [none, none, none, none] (r.toList ++ []) h' 64 64 Q)))) : am_R E mX10_isLine 272 [some (.ref 48), some (.int a1), none, none] [.int x0] (hp I J b) 64 64 Q := by
  refine am_if_eq dX10_isLine_272 (tgt := 289) rfl (fun hc1 => ?_) (fun hc1 => ?_)
  · have wp := wp.1 hc1
    refine am_iconst 0 rfl dX10_isLine_289 ?_
    exact am_iret dX10_isLine_290 rfl (by decide) wp
  · have wp := wp.2 hc1
    refine am_aload_n rfl rfl dX10_isLine_275 ?_
    refine am_iload_n rfl rfl dX10_isLine_276 ?_
    refine am_iconst 2 rfl dX10_isLine_277 ?_
    refine am_iadd dX10_isLine_278 ?_
    refine am_invV (ci := 8) (As := [.int (a1 + 2)]) (lsZ := [some (.ref 48), some (.int (a1 + 2))]) (st := []) dX10_isLine_279 hX10_isThere lkX10_144 ⟨by decide, by decide⟩ (by decide) rfl (by decide) rfl rfl rfl (Nat.le_of_ble_eq_true rfl) rfl (Nat.le_of_ble_eq_true rfl) ⟨Nat.le_refl _, Nat.le_refl _⟩ (am_R.mono wp (fun r h' q => am_R.forget q trivial))
theorem bX10_isLine_282 {E : Nat × (Nat → Int32)} {I : Nat → Nat → Int32} {J : Nat → Nat → Int64} {b : Bool} {x0 : Int32} {Q : Option Value → am_H → Prop}  (wp : ((x0 = 0 → Q (some (.int 0)) (hp I J b)) ∧ (¬ x0 = 0 → Q (some (.int 1)) (hp I J b)))) : am_R E mX10_isLine 282 [none, none, none, none] [.int x0] (hp I J b) 64 64 Q := by
  refine am_if_eq dX10_isLine_282 (tgt := 289) rfl (fun hc1 => ?_) (fun hc1 => ?_)
  · have wp := wp.1 hc1
    refine am_iconst 0 rfl dX10_isLine_289 ?_
    exact am_iret dX10_isLine_290 rfl (by decide) wp
  · have wp := wp.2 hc1
    refine am_iconst 1 rfl dX10_isLine_285 ?_
    refine am_goto dX10_isLine_286 (tgt := 290) rfl ?_
    exact am_iret dX10_isLine_290 rfl (by decide) wp
theorem bX10_isLine_296 {E : Nat × (Nat → Int32)} {I : Nat → Nat → Int32} {J : Nat → Nat → Int64} {b : Bool} {x0 : Int32} {Q : Option Value → am_H → Prop}  (wp : (narrow .boolean (.int x0) = .int x0) ∧ Q (some (.int x0)) (hp I J b)) : am_R E mX10_isLine 296 [none, none, none, none] [.int x0] (hp I J b) 64 64 Q := by
  exact am_iret dX10_isLine_296 rfl wp.1 wp.2
theorem bX10_isLine_304 {E : Nat × (Nat → Int32)} {I : Nat → Nat → Int32} {J : Nat → Nat → Int64} {b : Bool} {x0 : Int32} {Q : Option Value → am_H → Prop}  (wp : (narrow .boolean (.int x0) = .int x0) ∧ Q (some (.int x0)) (hp I J b)) : am_R E mX10_isLine 304 [none, none, none, none] [.int x0] (hp I J b) 64 64 Q := by
  exact am_iret dX10_isLine_304 rfl wp.1 wp.2
theorem bX10_isLine_309 {E : Nat × (Nat → Int32)} {I : Nat → Nat → Int32} {J : Nat → Nat → Int64} {b : Bool} {x0 : Int32} {Q : Option Value → am_H → Prop}  (wp : (narrow .boolean (.int x0) = .int x0) ∧ Q (some (.int x0)) (hp I J b)) : am_R E mX10_isLine 309 [none, none, none, none] [.int x0] (hp I J b) 64 64 Q := by
  exact am_iret dX10_isLine_309 rfl wp.1 wp.2
theorem tX10_isLine4 {c : Nat} (hp' : p ≤ L) (hc : c < 14) (hJ : J 48 10 = tkv T L p) (k : am_R E mX10_isLine 168 [some (.ref 48), some (.int (nI (4 * c))), none, none] [.int (mvI (vi (lsT T L p)))] (hp (u2 I 54 (4 * c) (mvI (vi (lsT T L p)))) J b) 64 64 Q) : am_R E mX10_isLine 4 [some (.ref 48), some (.int (nI (4 * c))), none, none] [] (hp I J b) 64 64 Q := by
  have hw : ∀ w, w < 9 → (lg_cmp (J 48 10) (lN (w27 (wd w))) = 0 ↔ lsT T L p = wd w) := fun w hw => by rw [lg_cmp_eq, hJ, tkv_word hp' hw]
  obtain ⟨v0, v1, v2, v3, v4, v5, v6, v7, v8⟩ := wv_ok
  have h0 := hw 0 (by decide); have h1 := hw 1 (by decide); have h2 := hw 2 (by decide); have h3 := hw 3 (by decide); have h4 := hw 4 (by decide); have h5 := hw 5 (by decide); have h6 := hw 6 (by decide); have h7 := hw 7 (by decide); have h8 := hw 8 (by decide)
  rw [v0] at h0; rw [v1] at h1; rw [v2] at h2; rw [v3] at h3; rw [v4] at h4; rw [v5] at h5; rw [v6] at h6; rw [v7] at h7; rw [v8] at h8
  have k1 : ∀ i, i < 9 → lsT T L p = wd i → am_R E mX10_isLine 168 [some (.ref 48), some (.int (nI (4 * c))), none, none] [.int (nI (mvc i))] (hp (u2 I 54 (4 * c) (nI (mvc i))) J b) 64 64 Q := fun i hi e => by rw [vi_some hi e] at k; exact k
  have far : ∀ i, i < 9 → lsT T L p = wd i → ¬ nI (mvc i) = -1 → am_R E mX10_isLine 81 [some (.ref 48), some (.int (nI (4 * c))), some (.int (nI (mvc i))), none] [] (hp I J b) 64 64 Q := by
    intro i hi e hne
    have g : ∀ a3 : Int32, am_R E mX10_isLine 146 [some (.ref 48), some (.int (nI (4 * c))), some (.int (nI (mvc i))), some (.int a3)] [] (hp I J b) 64 64 Q := fun a3 => bX10_isLine_146 ⟨fun _ => ⟨4 * c, rfl, by omega, by rw [u2_at, if_pos rfl]; exact k1 i hi e⟩, fun q => absurd q hne⟩
    exact bX10_isLine_81 ⟨fun _ => ⟨fun _ => ⟨fun _ => ⟨fun _ => g _, fun _ => g _⟩, fun _ => g _⟩, fun _ => g _⟩, fun _ => g _⟩
  have near : ∀ i, i < 9 → lsT T L p = wd i → am_R E mX10_isLine 146 [some (.ref 48), some (.int (nI (4 * c))), some (.int (-1)), some (.int (nI (mvc i)))] [] (hp I J b) 64 64 Q := fun i hi e => bX10_isLine_146 ⟨fun q => absurd rfl q, fun _ => ⟨4 * c, rfl, by omega, by rw [u2_at, if_pos rfl]; exact k1 i hi e⟩⟩
  refine bX10_isLine_4 ⟨fun q0 => ⟨fun q1 => ⟨fun q2 => ⟨fun q8 => ⟨fun q7 => ?_, fun q => far 7 (by decide) (h7.mp q) (by decide)⟩, fun q => far 8 (by decide) (h8.mp q) (by decide)⟩, fun q => far 2 (by decide) (h2.mp q) (by decide)⟩, fun q => far 1 (by decide) (h1.mp q) (by decide)⟩, fun q => far 0 (by decide) (h0.mp q) (by decide)⟩
  refine bX10_isLine_81 ⟨fun q3 => ⟨fun q4 => ⟨fun q5 => ⟨fun q6 => ?_, fun q => near 6 (by decide) (h6.mp q)⟩, fun q => near 5 (by decide) (h5.mp q)⟩, fun q => near 4 (by decide) (h4.mp q)⟩, fun q => near 3 (by decide) (h3.mp q)⟩
  have e : vi (lsT T L p) = none := vi_none (fun i hi z => by
    rcases (show i = 0 ∨ i = 1 ∨ i = 2 ∨ i = 3 ∨ i = 4 ∨ i = 5 ∨ i = 6 ∨ i = 7 ∨ i = 8 by omega) with rfl | rfl | rfl | rfl | rfl | rfl | rfl | rfl | rfl
    · exact q0 (h0.mpr z)
    · exact q1 (h1.mpr z)
    · exact q2 (h2.mpr z)
    · exact q3 (h3.mpr z)
    · exact q4 (h4.mpr z)
    · exact q5 (h5.mpr z)
    · exact q6 (h6.mpr z)
    · exact q7 (h7.mpr z)
    · exact q8 (h8.mpr z))
  rw [e] at k
  exact bX10_isLine_146 ⟨fun q => absurd rfl q, fun _ => ⟨4 * c, rfl, by omega, by rw [u2_at, if_pos rfl]; exact k⟩⟩
theorem tX10_isLine {a1 : Int32} {c mo : Nat} (eL : I 48 6 = nI L) (hL : L ≤ 200) (e8 : I 48 8 = nI p) (hp' : p ≤ L) (hT : ∀ j, j < L → I 53 j = T j) (ea : a1 = nI (4 * c)) (hc : c < 14) (em : I 48 15 = nI mo) (hm : 1 ≤ mo) (hm7 : mo ≤ 7) (k0 : ∀ I1 J1 x, pL T L p mo = .inl x → Rs I I1 → I1 48 13 = nI x → Q (some (.int 0)) (hp I1 J1 b)) (k1 : ∀ I1 J1 i q xs, pL T L p mo = .inr (i, q, xs) → Rs I I1 → I1 48 8 = nI q → I1 48 14 = I 48 14 → I1 48 15 = nI (if i = 0 then xs 1 else mo) → (∀ j, j < 4 * c → I1 54 j = I 54 j) → I1 54 (4 * c) = nI (mvc i) → (∀ t, 1 ≤ t → t < 1 + cntN i → I1 54 (4 * c + t) = nI (xs t)) → Q (some (.int 1)) (hp I1 J1 b)) : am_R E mX10_isLine 0 [some (.ref 48), some (.int a1), none, none] [] (hp I J b) 64 64 Q := by
  subst ea
  obtain ⟨t1, t2, t3⟩ := te_ok (T := T) hp'
  refine bX10_isLine_0 (tX10_nextToken eL hL e8 hp' hT (fun I1 J1 hM h8 h9 hJ hx => tX10_isLine4 (T := T) (L := L) (p := p) hp' hc hJ ?_))
  unfold pL at k0 k1
  cases hv : vi (lsT T L p) with
  | none =>
    rw [hv] at k0
    refine bX10_isLine_168 ⟨fun q => absurd q (by decide), fun q => absurd q (by decide), fun q => absurd q (by decide), fun q => absurd q (by decide), fun q => absurd q (by decide), fun q => absurd q (by decide), fun q => absurd q (by decide), fun q => absurd q (by decide), fun q => absurd q (by decide), fun _ _ _ _ _ _ _ _ _ => ?_⟩
    refine bX10_fails_0 (bX10_isLine_309 ⟨rfl, k0 _ _ _ rfl (hM.rs.u54.u48 (by decide)) ?_⟩)
    rw [u2_at, if_pos rfl, u2_n _ _ _ (by decide)]; exact h9
  | some i =>
    have hi := (vi_of hv).1
    rw [hv] at k0 k1
    simp only at k0 k1
    have S0 : Ms I (u2 I1 54 (4 * c) (nI (mvc i))) L c i mo 1 (te T L p) (fun _ => 0) := by
      refine ⟨hM.rs.u54, ?_, t2, ?_, ?_, fun j hj => ?_, ?_, fun u h1 h2 => by omega⟩
      · rw [u2_n _ _ _ (by decide)]; exact h8
      · rw [u2_n _ _ _ (by decide)]; exact hM.2 14 (by decide) (by decide) (by decide) (by decide)
      · rw [u2_n _ _ _ (by decide), hM.2 15 (by decide) (by decide) (by decide) (by decide)]; exact em
      · rw [u2_at, if_neg (by omega), hM.1 54 (by decide)]
      · rw [u2_at, if_pos rfl]
    show am_R E mX10_isLine 168 [some (.ref 48), some (.int (nI (4 * c))), none, none] [.int (nI (mvc i))] (hp (u2 I1 54 (4 * c) (nI (mvc i))) J1 b) 64 64 Q
    generalize u2 I1 54 (4 * c) (nI (mvc i)) = H at S0 ⊢
    have a1' : nI (4 * c) + 1 = nI (4 * c + 1) := n1 _
    have a2' : nI (4 * c) + 2 = nI (4 * c + 2) := by rw [show (2 : Int32) = nI 2 from rfl, nI_add]
    have a3' : nI (4 * c) + 3 = nI (4 * c + 3) := by rw [show (3 : Int32) = nI 3 from rfl, nI_add]
    -- the ends
    have no : ∀ I2 J2 x, pN T L i mo (cntN i) 1 (te T L p) (fun _ => 0) = .inl x → Rs I I2 → I2 48 13 = nI x → Q (some (.int 0)) (hp I2 J2 b) := fun I2 J2 x e hR h13 => by
      rw [e] at k0; exact k0 I2 J2 x rfl hR h13
    have yes : ∀ I2 J2 t q xs, ¬ i = 0 → t = 1 + cntN i → pN T L i mo (cntN i) 1 (te T L p) (fun _ => 0) = .inr (q, xs) → Ms I I2 L c i mo t q xs → Q (some (.int 1)) (hp I2 J2 b) := fun I2 J2 t q xs hi0 ht e hS => by
      subst ht
      rw [e] at k1
      obtain ⟨s1, s2, s3, s4, s5, s6, s7, s8⟩ := hS
      exact k1 I2 J2 i q xs rfl s1 s2 s4 (by rw [if_neg hi0]; exact s5) s6 s7 s8
    -- one number: a duty
    have one : i = 3 ∨ i = 4 ∨ i = 5 ∨ i = 6 → am_R E mX10_isThere 0 [some (.ref 48), some (.int (nI (4 * c) + 1))] [] (hp H J1 b) 64 64 (fun r h' => am_R E mX10_isLine 304 [none, none, none, none] (r.toList ++ []) h' 64 64 Q) := fun hh => by
      have hcn : cntN i = 1 := by rcases hh with rfl | rfl | rfl | rfl <;> rfl
      rw [hcn] at no
      refine nThere (r := 0) eL hL hT S0 hc (Nat.le_refl _) (by decide) hm hm7 (by omega) (by omega) a1' (fun I2 J2 e hR h13 => bX10_isLine_304 ⟨rfl, no I2 J2 _ e hR h13⟩) (fun I2 J2 x e hS => bX10_isLine_304 ⟨rfl, yes I2 J2 2 _ _ (by omega) (by omega) (by rw [hcn, e, pN]) hS⟩)
    -- three numbers
    have three : i = 1 ∨ i = 2 → am_R E mX10_isThere 0 [some (.ref 48), some (.int (nI (4 * c) + 1))] [] (hp H J1 b) 64 64 (fun r h' => am_R E mX10_isLine 233 [some (.ref 48), some (.int (nI (4 * c))), none, none] (r.toList ++ []) h' 64 64 Q) := fun hh => by
      have hcn : cntN i = 3 := by rcases hh with rfl | rfl <;> rfl
      rw [hcn] at no
      refine nThere (r := 2) eL hL hT S0 hc (Nat.le_refl _) (by decide) hm hm7 (by omega) (by omega) a1' (fun I2 J2 e hR h13 => bX10_isLine_233 (z00 rfl (no I2 J2 _ e hR h13))) (fun I2 J2 x e hS => bX10_isLine_233 (z01 rfl ?_))
      refine nThere (r := 1) eL hL hT hS hc (by decide) (by decide) hm hm7 (by omega) (by omega) a2' (fun I3 J3 e2 hR h13 => bX10_isLine_243 (z00 rfl (no I3 J3 _ (e.trans e2) hR h13))) (fun I3 J3 x2 e2 hS2 => bX10_isLine_243 (z01 rfl ?_))
      refine nStep (r := 0) (lo := 0) (hi := 9) eL hL hT hS2 hc (by decide) (by decide) a3' rfl (by decide) rfl (by decide) (fun x hx => ?_) (fun I4 J4 e3 hR h13 => bX10_isLine_256 (z00 rfl (no I4 J4 _ (e.trans (e2.trans e3)) hR h13))) (fun I4 J4 x3 e3 hS3 => bX10_isLine_256 (z01 rfl (yes I4 J4 4 _ _ (by omega) (by omega) (by rw [hcn, e, e2, e3, pN]) hS3)))
      unfold fitN
      rw [if_neg (by omega), if_neg (by omega), if_pos rfl, decide_eq_true_eq]
      omega
    -- two numbers
    have two : i = 8 → am_R E mX10_isThere 0 [some (.ref 48), some (.int (nI (4 * c) + 1))] [] (hp H J1 b) 64 64 (fun r h' => am_R E mX10_isLine 272 [some (.ref 48), some (.int (nI (4 * c))), none, none] (r.toList ++ []) h' 64 64 Q) := fun hh => by
      have hcn : cntN i = 2 := by rw [hh]; rfl
      rw [hcn] at no
      refine nThere (r := 1) eL hL hT S0 hc (Nat.le_refl _) (by decide) hm hm7 (by omega) (by omega) a1' (fun I2 J2 e hR h13 => bX10_isLine_272 (z00 rfl (no I2 J2 _ e hR h13))) (fun I2 J2 x e hS => bX10_isLine_272 (z01 rfl ?_))
      exact nThere (r := 0) eL hL hT hS hc (by decide) (by decide) hm hm7 (by omega) (by omega) a2' (fun I3 J3 e2 hR h13 => bX10_isLine_282 (z00 rfl (no I3 J3 _ (e.trans e2) hR h13))) (fun I3 J3 x2 e2 hS2 => bX10_isLine_282 (z01 rfl (yes I3 J3 3 _ _ (by omega) (by omega) (by rw [hcn, e, e2, pN]) hS2)))
    -- hall
    have hall : i = 0 → am_R E mX10_isHall 0 [some (.ref 48), some (.int (nI (4 * c)))] [] (hp H J1 b) 64 64 (fun r h' => am_R E mX10_isLine 225 [none, none, none, none] (r.toList ++ []) h' 64 64 Q) := fun hh => by
      have hcn : cntN i = 1 := by rw [hh]; rfl
      rw [hcn] at no
      refine bX10_isHall_0 (nStep (r := 0) (lo := 2) (hi := 7) eL hL hT S0 hc (by decide) (by decide) a1' rfl (by decide) rfl (by decide) (fun x hx => ?_) (fun I2 J2 e hR h13 => bX10_isHall_10 (z00 rfl (bX10_isLine_225 ⟨rfl, no I2 J2 _ e hR h13⟩)).symm) (fun I2 J2 x e hS => bX10_isHall_10 ⟨fun _ => ⟨4 * c + 1, a1', by omega, bX10_isLine_225 ⟨rfl, ?_⟩⟩, fun q => absurd q (by decide)⟩))
      · unfold fitN
        rw [if_pos hh, decide_eq_true_eq]
      · rw [hcn, e, pN] at k1
        obtain ⟨s1, s2, s3, s4, s5, s6, s7, s8⟩ := hS
        refine k1 _ J2 i _ _ rfl (s1.u48 (by decide)) ?_ ?_ ?_ (fun j hj => ?_) ?_ (fun u h1 h2 => ?_)
        · rw [u2_at, if_neg (by decide)]; exact s2
        · rw [u2_at, if_neg (by decide)]; exact s4
        · rw [u2_at, if_pos rfl, if_pos hh]; exact s8 1 (by decide) (by decide)
        · rw [u2_n _ _ _ (by decide)]; exact s6 j hj
        · rw [u2_n _ _ _ (by decide)]; exact s7
        · rw [u2_n _ _ _ (by decide)]; exact s8 u h1 (by omega)
    -- ring
    have ring : i = 7 → am_R E mX10_isRing 0 [some (.ref 48), some (.int (nI (4 * c)))] [] (hp H J1 b) 64 64 (fun r h' => am_R E mX10_isLine 296 [none, none, none, none] (r.toList ++ []) h' 64 64 Q) := fun hh => by
      have hcn : cntN i = 1 := by rw [hh]; rfl
      have s1 := S0.1
      have fit : ∀ x, fitN i 1 x mo = decide (x = 0 ∨ x = 2 ∨ x = 3) := fun x => by unfold fitN; rw [if_neg (by omega), if_pos hh]
      refine bX10_isRing_0 (tX10_isNumber (w := 4 * c + 1) (lo := 0) (hi := 3) (L := L) (p := te T L p) (T := T) (by rw [s1.2.2.2]; exact eL) hL S0.2.1 t2 (fun j hj => by rw [s1.1 53 (by decide) (by decide)]; exact hT j hj) a1' (by omega) rfl (by decide) rfl (by decide) (fun I2 J2 hno hR h13 => bX10_isRing_9 (z00 rfl (bX10_isLine_296 ⟨rfl, no I2 J2 (ts T L (te T L p)) ?_ (s1.tr hR) h13⟩)).symm) (fun I2 J2 x hx hin hM2 h82 h92 => bX10_isRing_9 ⟨fun _ => ⟨4 * c + 1, a1', by omega, ?_⟩, fun q => absurd q (by decide)⟩))
      · rw [hcn]
        cases hn : nv T L (te T L p) with
        | none => rw [pN, hn]
        | some x =>
          have hf : ¬ fitN i 1 x mo = true := fun z => by
            rw [fit x, decide_eq_true_eq] at z
            exact hno x hn (by omega)
          rw [pN, hn]; exact if_neg hf
      · have hS2 : Ms I (u2 I2 54 (4 * c + 1) (nI x)) L c i mo (1 + 1) (te T L (te T L p)) (va_up (fun _ => 0) 1 x) := S0.step (by decide) (te_ok t2).2.1 hM2 h82
        rw [u2_at, if_pos rfl]
        refine ne_br (n := x) (m := 1) rfl rfl (by omega) (by omega) (fun z => ?_) (fun z => bX10_isLine_296 ⟨rfl, yes _ J2 2 _ _ (by omega) (by omega) ?_ hS2⟩)
        · refine bX10_fails_0 (bX10_isRing_30 (z00 rfl (bX10_isLine_296 ⟨rfl, no _ J2 (ts T L (te T L p)) ?_ ((s1.tr hM2.rs).u54.u48 (by decide)) ?_⟩)))
          · have hf : ¬ fitN i 1 x mo = true := fun y => by
              rw [fit x, decide_eq_true_eq] at y
              omega
            rw [hcn, pN, hx]; exact if_neg hf
          · rw [u2_at, if_pos rfl, u2_n _ _ _ (by decide)]; exact h92
        · have hf : fitN i 1 x mo = true := by rw [fit x, decide_eq_true_eq]; omega
          rw [hcn, pN, hx]
          simp only [if_pos hf, pN]
    have hx0 : ∀ a, a < 9 → nI (mvc i) = nI a → mvc i = a := fun a ha h => by
      have : mvc i < 9 := by
        rcases (show i = 0 ∨ i = 1 ∨ i = 2 ∨ i = 3 ∨ i = 4 ∨ i = 5 ∨ i = 6 ∨ i = 7 ∨ i = 8 by omega) with rfl | rfl | rfl | rfl | rfl | rfl | rfl | rfl | rfl <;> decide
      exact (nI_eq (by omega) (by omega)).mp h
    have hmv : ∀ i, i < 9 → (mvc i = 0 → i = 0) ∧ (mvc i = 1 → i = 1) ∧ (mvc i = 2 → i = 2) ∧ (mvc i = 3 → i = 8) ∧ (mvc i = 4 → i = 7) ∧ (mvc i = 5 → i = 3) ∧ (mvc i = 6 → i = 4) ∧ (mvc i = 7 → i = 5) ∧ (mvc i = 8 → i = 6) ∧ mvc i < 9 := by decide
    obtain ⟨m0, m1, m2, m3, m4, m5, m6, m7, m8, m9⟩ := hmv i hi
    refine bX10_isLine_168 ⟨fun q => hall (m0 (hx0 0 (by decide) q)), fun q => three (Or.inl (m1 (hx0 1 (by decide) q))), fun q => three (Or.inr (m2 (hx0 2 (by decide) q))), fun q => two (m3 (hx0 3 (by decide) q)), fun q => ring (m4 (hx0 4 (by decide) q)), fun q => one (Or.inl (m5 (hx0 5 (by decide) q))), fun q => one (Or.inr (Or.inl (m6 (hx0 6 (by decide) q)))), fun q => one (Or.inr (Or.inr (Or.inl (m7 (hx0 7 (by decide) q))))), fun q => one (Or.inr (Or.inr (Or.inr (m8 (hx0 8 (by decide) q))))), fun q0 q1 q2 q3 q4 q5 q6 q7 q8 => ?_⟩
    exfalso
    rcases (show mvc i = 0 ∨ mvc i = 1 ∨ mvc i = 2 ∨ mvc i = 3 ∨ mvc i = 4 ∨ mvc i = 5 ∨ mvc i = 6 ∨ mvc i = 7 ∨ mvc i = 8 by omega) with e | e | e | e | e | e | e | e | e
    · exact q0 (by rw [e]; rfl)
    · exact q1 (by rw [e]; rfl)
    · exact q2 (by rw [e]; rfl)
    · exact q3 (by rw [e]; rfl)
    · exact q4 (by rw [e]; rfl)
    · exact q5 (by rw [e]; rfl)
    · exact q6 (by rw [e]; rfl)
    · exact q7 (by rw [e]; rfl)
    · exact q8 (by rw [e]; rfl)
theorem bX10_isRead_0 {E : Nat × (Nat → Int32)} {I : Nat → Nat → Int32} {J : Nat → Nat → Int64} {b : Bool}  {Q : Option Value → am_H → Prop}  (wp : am_R E mX10_isRead 20 [some (.ref 48), some (.int 1)] [] (hp (u2 (u2 (u2 I 48 8 0) 48 14 0) 48 15 (I 48 0)) J b) 64 64 Q) : am_R E mX10_isRead 0 [some (.ref 48), none] [] (hp I J b) 64 64 Q := by
  refine am_aload_n rfl rfl dX10_isRead_0 ?_
  refine am_iconst 0 rfl dX10_isRead_1 ?_
  refine am_putI dX10_isRead_2 flX10_78 (Or.inl rfl) rfl rfl (by decide) ?_
  refine am_aload_n rfl rfl dX10_isRead_5 ?_
  refine am_iconst 0 rfl dX10_isRead_6 ?_
  refine am_putI dX10_isRead_7 flX10_150 (Or.inl rfl) rfl rfl (by decide) ?_
  refine am_aload_n rfl rfl dX10_isRead_10 ?_
  refine am_aload_n rfl rfl dX10_isRead_11 ?_
  refine am_getI dX10_isRead_12 flX10_7 (Or.inl rfl) rfl (by decide) ?_
  show am_R E mX10_isRead 15 [some (.ref 48), none] [.int (I 48 0), .ref 48] (hp (u2 (u2 I 48 8 0) 48 14 0) J b) 64 64 Q
  refine am_putI dX10_isRead_15 flX10_116 (Or.inl rfl) rfl rfl (by decide) ?_
  refine am_iconst 1 rfl dX10_isRead_18 ?_
  refine am_istore_n (ls' := [some (.ref 48), some (.int 1)]) rfl (by decide) rfl rfl dX10_isRead_19 ?_
  exact am_R.forget wp ⟨rfl, ⟨rfl, trivial⟩⟩
theorem bX10_isRead_20 {E : Nat × (Nat → Int32)} {I : Nat → Nat → Int32} {J : Nat → Nat → Int64} {b : Bool} {a1 : Int32} {Q : Option Value → am_H → Prop}  (wp : ((a1 = 0 → (((lg_cmp (J 48 10) (-2)) = 0 → Q (some (.int 1)) (hp I J b)) ∧ (¬ (lg_cmp (J 48 10) (-2)) = 0 → am_R E mX10_fails 0 [some (.ref 48)] [] (hp I J b) 64 64 (fun r h' => am_R E mX10_isRead 97 [none, none] (r.toList ++ []) h' 64 64 Q)))) ∧ (¬ a1 = 0 → am_R E mX10_isLine 0 [some (.ref 48), some (.int (4 * (I 48 14))), none, none] [] (hp I J b) 64 64 (fun r h' => am_R E mX10_isRead 34 [some (.ref 48), none] (r.toList ++ []) h' 64 64 Q)))) : am_R E mX10_isRead 20 [some (.ref 48), some (.int a1)] [] (hp I J b) 64 64 Q := by
  refine am_iload_n rfl rfl dX10_isRead_20 ?_
  refine am_if_eq dX10_isRead_21 (tgt := 82) rfl (fun hc1 => ?_) (fun hc1 => ?_)
  · have wp := wp.1 hc1
    refine am_aload_n rfl rfl dX10_isRead_82 ?_
    refine am_getJ dX10_isRead_83 flX10_92 rfl rfl (by decide) ?_
    refine am_ldc2 (-2) kcX10_90 dX10_isRead_86 ?_
    refine am_lcmp dX10_isRead_89 ?_
    refine am_if_eq dX10_isRead_90 (tgt := 100) rfl (fun hc2 => ?_) (fun hc2 => ?_)
    · have wp := wp.1 hc2
      refine am_iconst 1 rfl dX10_isRead_100 ?_
      refine am_goto dX10_isRead_101 (tgt := 105) rfl ?_
      exact am_iret dX10_isRead_105 rfl (by decide) wp
    · have wp := wp.2 hc2
      refine am_aload_n rfl rfl dX10_isRead_93 ?_
      refine am_invV (ci := 8) (As := []) (lsZ := [some (.ref 48)]) (st := []) dX10_isRead_94 hX10_fails lkX10_112 ⟨by decide, by decide⟩ (by decide) rfl (by decide) rfl rfl rfl (Nat.le_of_ble_eq_true rfl) rfl (Nat.le_of_ble_eq_true rfl) ⟨Nat.le_refl _, Nat.le_refl _⟩ (am_R.mono wp (fun r h' q => am_R.forget q trivial))
  · have wp := wp.2 hc1
    refine am_aload_n rfl rfl dX10_isRead_24 ?_
    refine am_iconst 4 rfl dX10_isRead_25 ?_
    refine am_aload_n rfl rfl dX10_isRead_26 ?_
    refine am_getI dX10_isRead_27 flX10_150 (Or.inl rfl) rfl (by decide) ?_
    refine am_imul dX10_isRead_30 ?_
    refine am_invV (ci := 8) (As := [.int (4 * (I 48 14))]) (lsZ := [some (.ref 48), some (.int (4 * (I 48 14))), none, none]) (st := []) dX10_isRead_31 hX10_isLine lkX10_153 ⟨by decide, by decide⟩ (by decide) rfl (by decide) rfl rfl rfl (Nat.le_of_ble_eq_true rfl) rfl (Nat.le_of_ble_eq_true rfl) ⟨Nat.le_refl _, Nat.le_refl _⟩ (am_R.mono wp (fun r h' q => am_R.forget q ⟨rfl, trivial⟩))
theorem bX10_isRead_34 {E : Nat × (Nat → Int32)} {I : Nat → Nat → Int32} {J : Nat → Nat → Int64} {b : Bool} {x0 : Int32} {Q : Option Value → am_H → Prop}  (wp : ((¬ x0 = 0 → am_R E mX10_nextToken 0 [some (.ref 48)] [] (hp (u2 I 48 14 ((I 48 14) + 1)) J b) 64 64 (fun r h' => am_R E mX10_isRead 53 [some (.ref 48), none] (r.toList ++ []) h' 64 64 Q)) ∧ (x0 = 0 → Q (some (.int 0)) (hp I J b)))) : am_R E mX10_isRead 34 [some (.ref 48), none] [.int x0] (hp I J b) 64 64 Q := by
  refine am_if_ne dX10_isRead_34 (tgt := 39) rfl (fun hc1 => ?_) (fun hc1 => ?_)
  · have wp := wp.1 hc1
    refine am_aload_n rfl rfl dX10_isRead_39 ?_
    refine am_dup rfl dX10_isRead_40 ?_
    refine am_getI dX10_isRead_41 flX10_150 (Or.inl rfl) rfl (by decide) ?_
    refine am_iconst 1 rfl dX10_isRead_44 ?_
    refine am_iadd dX10_isRead_45 ?_
    refine am_putI dX10_isRead_46 flX10_150 (Or.inl rfl) rfl rfl (by decide) ?_
    refine am_aload_n rfl rfl dX10_isRead_49 ?_
    refine am_invV (ci := 8) (As := []) (lsZ := [some (.ref 48)]) (st := []) dX10_isRead_50 hX10_nextToken lkX10_109 ⟨by decide, by decide⟩ (by decide) rfl (by decide) rfl rfl rfl (Nat.le_of_ble_eq_true rfl) rfl (Nat.le_of_ble_eq_true rfl) ⟨Nat.le_refl _, Nat.le_refl _⟩ (am_R.mono wp (fun r h' q => am_R.forget q ⟨rfl, trivial⟩))
  · have wp := wp.2 hc1
    refine am_iconst 0 rfl dX10_isRead_37 ?_
    exact am_iret dX10_isRead_38 rfl (by decide) wp
theorem bX10_isRead_53 {E : Nat × (Nat → Int32)} {I : Nat → Nat → Int32} {J : Nat → Nat → Int64} {b : Bool}  {Q : Option Value → am_H → Prop}  (wp : ((¬ (lg_cmp (J 48 10) (-3)) = 0 → am_R E mX10_isRead 20 [some (.ref 48), some (.int 0)] [] (hp I J b) 64 64 Q) ∧ ((lg_cmp (J 48 10) (-3)) = 0 → ((14 ≤ (I 48 14) → am_R E mX10_isRead 20 [some (.ref 48), some (.int 0)] [] (hp I J b) 64 64 Q) ∧ (¬ 14 ≤ (I 48 14) → am_R E mX10_isRead 20 [some (.ref 48), some (.int 1)] [] (hp I J b) 64 64 Q))))) : am_R E mX10_isRead 53 [some (.ref 48), none] [] (hp I J b) 64 64 Q := by
  refine am_aload_n rfl rfl dX10_isRead_53 ?_
  refine am_getJ dX10_isRead_54 flX10_92 rfl rfl (by decide) ?_
  refine am_ldc2 (-3) kcX10_104 dX10_isRead_57 ?_
  refine am_lcmp dX10_isRead_60 ?_
  refine am_if_ne dX10_isRead_61 (tgt := 77) rfl (fun hc1 => ?_) (fun hc1 => ?_)
  · have wp := wp.1 hc1
    refine am_iconst 0 rfl dX10_isRead_77 ?_
    refine am_istore_n (ls' := [some (.ref 48), some (.int 0)]) rfl (by decide) rfl rfl dX10_isRead_78 ?_
    refine am_goto dX10_isRead_79 (tgt := 20) rfl ?_
    exact am_R.forget wp ⟨rfl, ⟨rfl, trivial⟩⟩
  · have wp := wp.2 hc1
    refine am_aload_n rfl rfl dX10_isRead_64 ?_
    refine am_getI dX10_isRead_65 flX10_150 (Or.inl rfl) rfl (by decide) ?_
    refine am_bipush 14 rfl dX10_isRead_68 ?_
    refine am_icmp_ge dX10_isRead_70 (tgt := 77) rfl (fun hc2 => ?_) (fun hc2 => ?_)
    · have wp := wp.1 hc2
      refine am_iconst 0 rfl dX10_isRead_77 ?_
      refine am_istore_n (ls' := [some (.ref 48), some (.int 0)]) rfl (by decide) rfl rfl dX10_isRead_78 ?_
      refine am_goto dX10_isRead_79 (tgt := 20) rfl ?_
      exact am_R.forget wp ⟨rfl, ⟨rfl, trivial⟩⟩
    · have wp := wp.2 hc2
      refine am_iconst 1 rfl dX10_isRead_73 ?_
      refine am_goto dX10_isRead_74 (tgt := 78) rfl ?_
      refine am_istore_n (ls' := [some (.ref 48), some (.int 1)]) rfl (by decide) rfl rfl dX10_isRead_78 ?_
      refine am_goto dX10_isRead_79 (tgt := 20) rfl ?_
      exact am_R.forget wp ⟨rfl, ⟨rfl, trivial⟩⟩
theorem bX10_isRead_97 {E : Nat × (Nat → Int32)} {I : Nat → Nat → Int32} {J : Nat → Nat → Int64} {b : Bool} {x0 : Int32} {Q : Option Value → am_H → Prop}  (wp : ((x0 = 0 → Q (some (.int 0)) (hp I J b)) ∧ (¬ x0 = 0 → Q (some (.int 1)) (hp I J b)))) : am_R E mX10_isRead 97 [none, none] [.int x0] (hp I J b) 64 64 Q := by
  refine am_if_eq dX10_isRead_97 (tgt := 104) rfl (fun hc1 => ?_) (fun hc1 => ?_)
  · have wp := wp.1 hc1
    refine am_iconst 0 rfl dX10_isRead_104 ?_
    exact am_iret dX10_isRead_105 rfl (by decide) wp
  · have wp := wp.2 hc1
    refine am_iconst 1 rfl dX10_isRead_100 ?_
    refine am_goto dX10_isRead_101 (tgt := 105) rfl ?_
    exact am_iret dX10_isRead_105 rfl (by decide) wp
/-- what the reference's lines hold -/
def LnM (I : Nat → Nat → Int32) (c : Nat) (D : Nat → Nat × (Nat → Nat)) : Prop := ∀ k, k < c → I 54 (4 * k) = nI (mvc (D k).1) ∧ ∀ t, 1 ≤ t → t < 1 + cntN (D k).1 → I 54 (4 * k + t) = nI ((D k).2 t)
theorem tX10_isRead {mo : Nat} (eL : I 48 6 = nI L) (hL : L ≤ 200) (hT : ∀ j, j < L → I 53 j = T j) (em : I 48 0 = nI mo) (hm : 1 ≤ mo) (hm7 : mo ≤ 7) (k0 : ∀ I1 J1 x, pR T L 14 0 mo 0 (fun _ => (0, fun _ => 0)) = .inl x → Rs I I1 → I1 48 13 = nI x → Q (some (.int 0)) (hp I1 J1 b)) (k1 : ∀ I1 J1 c D, pR T L 14 0 mo 0 (fun _ => (0, fun _ => 0)) = .inr (c, D) → Rs I I1 → I1 48 14 = nI c → LnM I1 c D → Q (some (.int 1)) (hp I1 J1 b)) : am_R E mX10_isRead 0 [some (.ref 48), none] [] (hp I J b) 64 64 Q := by
  generalize hres : pR T L 14 0 mo 0 (fun _ => (0, fun _ => 0)) = res at k0 k1
  have loop : ∀ (f p m c : Nat) (D : Nat → Nat × (Nat → Nat)) (I1 : Nat → Nat → Int32) (J1 : Nat → Nat → Int64), f + c = 14 → 1 ≤ f → p ≤ L → 1 ≤ m → m ≤ 7 → pR T L f p m c D = res → Rs I I1 → I1 48 8 = nI p → I1 48 14 = nI c → I1 48 15 = nI m → LnM I1 c D → am_R E mX10_isRead 20 [some (.ref 48), some (.int 1)] [] (hp I1 J1 b) 64 64 Q := by
    intro f
    induction f with
    | zero => intro p m c D I1 J1 hf h1 hpL hm hm7 he hR h8 h14 h15 hD; omega
    | succ f ih =>
      intro p m c D I1 J1 hf h1 hpL hm hm7 he hR h8 h14 h15 hD
      refine bX10_isRead_20 (z01 rfl ?_)
      rw [pR] at he
      refine tX10_isLine (c := c) (mo := m) (T := T) (L := L) (p := p) (by rw [hR.2.2.2]; exact eL) hL h8 hpL (fun j hj => by rw [hR.1 53 (by decide) (by decide)]; exact hT j hj) (by rw [h14, show (4 : Int32) = nI 4 from rfl, pk_mul]) (by omega) h15 hm hm7 (fun I2 J2 x hx hR2 h13 => ?_) (fun I2 J2 i q xs hx hR2 h82 h142 h152 h3 h30 h3t => ?_)
      · rw [hx] at he
        exact bX10_isRead_34 (z00 rfl (k0 I2 J2 x he.symm (hR.tr hR2) h13)).symm
      · rw [hx] at he
        simp only at he
        have hR3 : Rs I I2 := hR.tr hR2
        obtain ⟨hi, hq, hfit⟩ := (pL_ok (T := T) hpL).1 i q xs hx
        obtain ⟨w1, w2⟩ := ts_ok (T := T) hq
        obtain ⟨v1, v2, v4⟩ := te_ok (T := T) hq
        have hD2 : ∀ I3 : Nat → Nat → Int32, I3 54 = I2 54 → LnM I3 (c + 1) (va_up D c (i, xs)) := by
          intro I3 e3 k hk
          by_cases z : k = c
          · subst z
            rw [up_s, e3]
            exact ⟨h30, h3t⟩
          · rw [up_n z, e3]
            obtain ⟨y1, y2⟩ := hD k (by omega)
            refine ⟨by rw [h3 _ (by omega)]; exact y1, fun t t1 t2 => ?_⟩
            have hc3 : cntN (D k).1 ≤ 3 := by unfold cntN; split <;> (try split) <;> omega
            rw [h3 _ (by omega)]; exact y2 t t1 t2
        have hm2 : 1 ≤ (if i = 0 then xs 1 else m) ∧ (if i = 0 then xs 1 else m) ≤ 7 := by
          by_cases z : i = 0
          · rw [if_pos z]
            have hcn : 1 ≤ cntN i := by unfold cntN; split <;> (try split) <;> omega
            have := (hfit 1 (by omega) (by omega)).1
            unfold fitN at this
            rw [if_pos z, decide_eq_true_eq] at this
            omega
          · rw [if_neg z]; exact ⟨hm, hm7⟩
        have hR4 : Rs I (u2 I2 48 14 (I2 48 14 + 1)) := hR3.u48 (by decide)
        refine bX10_isRead_34 ⟨fun _ => ?_, fun q => absurd q (by decide)⟩
        refine tX10_nextToken (T := T) (L := L) (p := q) (by rw [hR4.2.2.2]; exact eL) hL (by rw [u2_at, if_neg (by decide)]; exact h82) hq (fun j hj => by rw [hR4.1 53 (by decide) (by decide)]; exact hT j hj) (fun I3 J3 hM3 h83 h93 hJ3 _ => ?_)
        have hR5 : Rs I I3 := hR4.tr hM3.rs
        have g14 : I3 48 14 = nI (c + 1) := by rw [hM3.2 14 (by decide) (by decide) (by decide) (by decide), u2_at, if_pos rfl, h142, h14, n1]
        have g15 : I3 48 15 = nI (if i = 0 then xs 1 else m) := by rw [hM3.2 15 (by decide) (by decide) (by decide) (by decide), u2_at, if_neg (by decide)]; exact h152
        have g54 : I3 54 = I2 54 := by rw [hM3.1 54 (by decide), u2_n _ _ _ (by decide)]
        obtain ⟨e2, e3⟩ := tkv_end (T := T) hq
        have bad : res = .inl (ts T L q) → ¬ J3 48 10 = -2 → am_R E mX10_isRead 20 [some (.ref 48), some (.int 0)] [] (hp I3 J3 b) 64 64 Q := fun er h2 => by
          refine bX10_isRead_20 (z00 rfl ⟨fun z => absurd ((lg_cmp_eq _ _).mp z) h2, fun _ => bX10_fails_0 (bX10_isRead_97 (z00 rfl (k0 _ J3 (ts T L q) er (hR5.u48 (by decide)) ?_)))⟩)
          rw [u2_at, if_pos rfl]; exact h93
        refine bX10_isRead_53 ⟨fun z => ?_, fun z => ?_⟩
        · have z3 : ¬ J3 48 10 = -3 := fun y => z ((lg_cmp_eq _ _).mpr y)
          by_cases y : ts T L q < L
          · rw [if_pos y] at he
            have y59 : ¬ T (ts T L q) = 59 := fun w => z3 (hJ3.trans (e3.mpr ⟨y, w⟩))
            rw [if_neg y59] at he
            exact bad he.symm (fun w => (e2.mp (hJ3.symm.trans w)) y)
          · rw [if_neg y] at he
            refine bX10_isRead_20 (z00 rfl ⟨fun _ => k1 I3 J3 (c + 1) _ he.symm hR5 g14 (hD2 I3 g54), fun w => absurd ((lg_cmp_eq _ _).mpr (hJ3.trans (e2.mpr y))) w⟩)
        · have z3 : J3 48 10 = -3 := (lg_cmp_eq _ _).mp z
          obtain ⟨y, y59⟩ := e3.mp (hJ3.symm.trans z3)
          rw [if_pos y, if_pos y59] at he
          refine le_br (n := 14) (m := c + 1) rfl g14 (by omega) (by omega) (fun w => ?_) (fun w => ?_)
          · rw [if_pos (by omega)] at he
            exact bad he.symm (fun w => by rw [z3] at w; exact absurd w (by decide))
          · rw [if_neg (by omega)] at he
            exact ih (te T L q) _ (c + 1) _ I3 J3 (by omega) (by omega) v2 hm2.1 hm2.2 he hR5 h83 g14 g15 (hD2 I3 g54)
  refine bX10_isRead_0 (loop 14 0 mo 0 (fun _ => (0, fun _ => 0)) _ J (by omega) (by omega) (by omega) hm hm7 hres ((((Rs.rf I).u48 (by decide)).u48 (by decide)).u48 (by decide)) ?_ ?_ ?_ (fun k hk => by omega))
  · rw [u2_at, if_neg (by decide), u2_at, if_neg (by decide), u2_at, if_pos rfl]; rfl
  · rw [u2_at, if_neg (by decide), u2_at, if_pos rfl]; rfl
  · rw [u2_at, if_pos rfl]; exact em
/-! the pair -/
theorem bX9_fault_0 {E : Nat × (Nat → Int32)} {I : Nat → Nat → Int32} {J : Nat → Nat → Int64} {b : Bool}  {Q : Option Value → am_H → Prop}  (wp : am_R E mX6_read 0 [some (.ref 1), some (.int (I 4 0)), none, none] [] (hp I J b) 64 64 (fun r h' => am_R E mX9_fault 14 [none] (r.toList ++ []) h' 64 64 Q)) : am_R E mX9_fault 0 [some (.ref 0)] [] (hp I J b) 64 64 Q := by
  refine am_aload_n rfl rfl dX9_fault_0 ?_
  refine am_getA (r := 1) dX9_fault_1 flX9_10 (Or.inl ⟨_, rfl⟩) rfl (by decide) rfl ?_
  refine am_aload_n rfl rfl dX9_fault_4 ?_
  refine am_getA (r := 4) dX9_fault_5 flX9_19 (Or.inl ⟨_, rfl⟩) rfl (by decide) rfl ?_
  refine am_getI dX9_fault_8 flX9_102 (Or.inl rfl) rfl (by decide) ?_
  refine am_invV (ci := 4) (As := [.int (I 4 0)]) (lsZ := [some (.ref 1), some (.int (I 4 0)), none, none]) (st := []) dX9_fault_11 hX6_read lkX9_105 ⟨by decide, by decide⟩ (by decide) rfl (by decide) rfl rfl rfl (Nat.le_of_ble_eq_true rfl) rfl (Nat.le_of_ble_eq_true rfl) ⟨Nat.le_refl _, Nat.le_refl _⟩ (am_R.mono wp (fun r h' q => am_R.forget q trivial))
theorem bX9_fault_14 {E : Nat × (Nat → Int32)} {I : Nat → Nat → Int32} {J : Nat → Nat → Int64} {b : Bool} {x0 : Int32} {Q : Option Value → am_H → Prop}  (wp : Q (some (.int x0)) (hp I J b)) : am_R E mX9_fault 14 [none] [.int x0] (hp I J b) 64 64 Q := by
  exact am_iret dX9_fault_14 rfl rfl wp
theorem bX10_fault_0 {E : Nat × (Nat → Int32)} {I : Nat → Nat → Int32} {J : Nat → Nat → Int64} {b : Bool}  {Q : Option Value → am_H → Prop}  (wp : am_R E mX10_isRead 0 [some (.ref 48), none] [] (hp I J b) 64 64 (fun r h' => am_R E mX10_fault 4 [some (.ref 48)] (r.toList ++ []) h' 64 64 Q)) : am_R E mX10_fault 0 [some (.ref 48)] [] (hp I J b) 64 64 Q := by
  refine am_aload_n rfl rfl dX10_fault_0 ?_
  refine am_invV (ci := 8) (As := []) (lsZ := [some (.ref 48), none]) (st := []) dX10_fault_1 hX10_isRead lkX10_156 ⟨by decide, by decide⟩ (by decide) rfl (by decide) rfl rfl rfl (Nat.le_of_ble_eq_true rfl) rfl (Nat.le_of_ble_eq_true rfl) ⟨Nat.le_refl _, Nat.le_refl _⟩ (am_R.mono wp (fun r h' q => am_R.forget q ⟨rfl, trivial⟩))
theorem bX10_fault_4 {E : Nat × (Nat → Int32)} {I : Nat → Nat → Int32} {J : Nat → Nat → Int64} {b : Bool} {x0 : Int32} {Q : Option Value → am_H → Prop}  (wp : ((x0 = 0 → Q (some (.int (I 48 13))) (hp I J b)) ∧ (¬ x0 = 0 → Q (some (.int (-1))) (hp I J b)))) : am_R E mX10_fault 4 [some (.ref 48)] [.int x0] (hp I J b) 64 64 Q := by
  refine am_if_eq dX10_fault_4 (tgt := 11) rfl (fun hc1 => ?_) (fun hc1 => ?_)
  · have wp := wp.1 hc1
    refine am_aload_n rfl rfl dX10_fault_11 ?_
    refine am_getI dX10_fault_12 flX10_106 (Or.inl rfl) rfl (by decide) ?_
    exact am_iret dX10_fault_15 rfl rfl wp
  · have wp := wp.2 hc1
    refine am_iconst (-1) rfl dX10_fault_7 ?_
    refine am_goto dX10_fault_8 (tgt := 15) rfl ?_
    exact am_iret dX10_fault_15 rfl rfl wp
theorem rd_sa (h1 : Cs I I') (h2 : Rs I' I2) : Sa I I2 := by
  have g : ∀ a, a ≠ 1 → a ≠ 3 → a ≠ 48 → a ≠ 54 → I2 a = I a := fun a q1 q3 q48 q54 => (h2.1 a q48 q54).trans (h1.1 a q1 q3)
  have g48 : I' 48 = I 48 := h1.1 48 (by decide) (by decide)
  refine ⟨⟨⟨?_, ?_, ?_, ?_, ?_, ?_, ?_, ?_, ?_⟩, ⟨?_, ?_, ?_, ?_, ?_, ?_, ?_, ?_, ?_, ?_, ?_, ?_, ?_, ?_, ?_, ?_⟩, ⟨?_, ?_, ?_, ?_, ?_, ?_, ?_, ?_, ?_⟩⟩, ⟨?_, ?_, ?_, ?_⟩⟩
  all_goals first | exact g _ (by decide) (by decide) (by decide) (by decide) | exact (h2.2.1.trans (by rw [g48])) | exact (h2.2.2.1.trans (by rw [g48])) | exact (h2.2.2.2.trans (by rw [g48])) | exact ((congrFun (h2.1 1 (by decide) (by decide)) 1).trans h1.2)
theorem p_fault (hI : Inv I n) : Pair E mX9_fault mX10_fault [some (.ref 0)] [some (.ref 48)] I J b := by
  have hI0 := hI
  obtain ⟨hM, hC⟩ := hI
  obtain ⟨c1, c2, c3, c4, ⟨L, l1, l2, l3, l4⟩, c5⟩ := hC
  have hN := hM.1
  have h7 : n ≤ 7 := hN.2.2
  have h1 : 1 ≤ n := by have := hN.2.1; omega
  have hT2 : ∀ j, j < L → I 2 j = I 53 j := l4
  refine ⟨.int (match pR (I 53) L 14 0 n 0 (fun _ => (0, fun _ => 0)) with | .inl x => nI x | .inr _ => -1), fun I1 => Cs I I1, fun Q h => bX9_fault_0 (tX6_read (T := I 53) (L := L) (mo := n) l3 l1 hT2 c1.1 h7 (fun I1 x hx hCs => bX9_fault_14 ?_) (fun I1 c D hx hCs h13 hD => bX9_fault_14 ?_)), fun I1 J1 b1 hCs Q h => bX10_fault_0 (tX10_isRead (T := I 53) (L := L) (mo := n) ?_ l1 (fun j hj => by rw [hCs.1 53 (by decide) (by decide)]) ?_ h1 h7 (fun I2 J2 x hx hRs h13 => bX10_fault_4 (z00 rfl ?_)) (fun I2 J2 c D hx hRs h14 hD => bX10_fault_4 (z01 rfl ?_)))⟩
  · have := h I1 J b hCs
    rw [hx] at this; exact this
  · have := h I1 J b hCs
    rw [hx] at this; exact this
  · rw [hCs.1 48 (by decide) (by decide)]; exact l2
  · rw [hCs.1 48 (by decide) (by decide)]; exact hN.1
  · have := h I2 J2 b1 n (hI0.sa (rd_sa hCs hRs))
    rw [hx] at this; rw [h13]; exact this
  · have := h I2 J2 b1 n (hI0.sa (rd_sa hCs hRs))
    rw [hx] at this; exact this
end P22
