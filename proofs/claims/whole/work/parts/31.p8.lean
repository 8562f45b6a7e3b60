/-! ===== pair: hint ===== -/
section P8
variable {E : Nat × (Nat → Int32)} {I I' : Nat → Nat → Int32} {J : Nat → Nat → Int64} {b : Bool} {n : Nat} {Q : Option Value → am_H → Prop}
/-- a number, or NONE -/
def oI : Option Nat → Int32
  | none => -1
  | some e => nI e
/-- of whom a monk has its duty by the ring of a code -/
def gv (by' c m : Nat) : Option Nat := if m = c / 64 then some (c / 8 % 8) else if m = c / 8 % 8 then some (if by' = 2 then c / 64 else c % 8) else if by' ≠ 2 ∧ m = c % 8 then some (c / 64) else none
/-- the better of two duties -/
def bt (I : Nat → Nat → Int32) (m : Nat) (best : Option Nat) (d : Nat) : Option Nat := match best with
  | none => some d
  | some e => if 0 < I 50 (7 * m + d) - I 50 (7 * m + e) ∨ (I 50 (7 * m + d) - I 50 (7 * m + e) = 0 ∧ d < e) then some d else some e
def bst (I : Nat → Nat → Int32) (p : Nat → Nat) (by' m : Nat) (best : Option Nat) (c : Nat) : Option Nat := match gv by' c m with
  | none => best
  | some g => bt I m best (p g)
theorem gv_lt {by' c m g : Nat} {p : Nat → Nat} (hw : wc I n by' p c) (h : gv by' c m = some g) : g < n := by
  obtain ⟨h1, ⟨h2, h3, h4⟩, h5⟩ := hw
  unfold gv at h
  split at h
  · cases h; exact h4
  · split at h
    · rcases h5 with ⟨e, -, -⟩ | ⟨e, ⟨e1, e2, e3⟩, -⟩
      · rw [if_pos e] at h; cases h; exact h3
      · rw [if_neg e] at h; cases h; exact e3
    · split at h
      · cases h; exact h3
      · cases h
theorem bt_lt {m d : Nat} {best : Option Nat} (hd : d < n) (hb : ∀ e, best = some e → e < n) : ∀ e, bt I m best d = some e → e < n := by
  intro e he
  unfold bt at he
  cases best with
  | none => cases he; exact hd
  | some x =>
    simp only at he
    split at he
    · cases he; exact hd
    · cases he; exact hb _ rfl
theorem bst_lt {by' c m : Nat} {p : Nat → Nat} {best : Option Nat} (hp' : ∀ i, i < n → p i < n) (hw : wc I n by' p c) (hb : ∀ e, best = some e → e < n) : ∀ e, bst I p by' m best c = some e → e < n := by
  unfold bst
  cases hg : gv by' c m with
  | none => exact hb
  | some g => exact bt_lt (hp' g (gv_lt hw hg)) hb
/-- the wanted codes from f on -/
def wr (I : Nat → Nat → Int32) (n by' : Nat) (p : Nat → Nat) (f : Nat) : List Nat := (List.range' f (448 - f)).filter (fun c => decide (wc I n by' p c))
theorem wr_0 {by' : Nat} {p : Nat → Nat} : wr I n by' p 0 = wl I n by' p 448 := by
  unfold wr wl; rw [List.range_eq_range']
theorem wr_none {by' f : Nat} {p : Nat → Nat} (h : ∀ c, f ≤ c → c < 448 → ¬ wc I n by' p c) : wr I n by' p f = [] := by
  unfold wr
  rw [List.filter_eq_nil_iff]
  intro c hc
  obtain ⟨h1, h2⟩ := List.mem_range'_1.mp hc
  simp only [decide_eq_true_eq]
  exact h c h1 (by omega)
theorem wr_some {by' f c : Nat} {p : Nat → Nat} (hf : f ≤ c) (hc : c < 448) (hw : wc I n by' p c) (h : ∀ c', f ≤ c' → c' < c → ¬ wc I n by' p c') : wr I n by' p f = c :: wr I n by' p (c + 1) := by
  unfold wr
  have e : List.range' f (448 - f) = List.range' f (c - f) ++ List.range' c (448 - c) := by
    have := List.range'_append (s := f) (m := c - f) (n := 448 - c) (step := 1)
    rw [Nat.one_mul, show f + (c - f) = c by omega, show c - f + (448 - c) = 448 - f by omega] at this
    exact this.symm
  have e2 : List.range' c (448 - c) = c :: List.range' (c + 1) (448 - (c + 1)) := by
    rw [show 448 - c = (448 - (c + 1)) + 1 by omega, List.range'_succ]
  rw [e, List.filter_append, e2, List.filter_cons, if_pos (decide_eq_true hw)]
  have e3 : (List.range' f (c - f)).filter (fun c => decide (wc I n by' p c)) = [] := by
    rw [List.filter_eq_nil_iff]
    intro x hx
    obtain ⟨h1, h2⟩ := List.mem_range'_1.mp hx
    simp only [decide_eq_true_eq]
    exact h x h1 (by omega)
  rw [e3, List.nil_append]
theorem wl_wc {by' c T : Nat} {p : Nat → Nat} (h : c ∈ wl I n by' p T) : wc I n by' p c := by
  unfold wl at h
  exact of_decide_eq_true (List.mem_filter.mp h).2
theorem cnt_q2 : (List.range 448).countP (fun c => decide (c / 64 < c / 8 % 8 ∧ c / 8 % 8 < 7 ∧ c % 8 = 0)) = 21 := by decide +kernel
theorem cnt_q3 : (List.range 448).countP (fun c => decide (c / 64 < c / 8 % 8 ∧ c / 8 % 8 < 7 ∧ c / 64 < c % 8 ∧ c % 8 ≠ c / 8 % 8 ∧ c % 8 < 7)) = 70 := by decide +kernel
theorem wl_70 {by' : Nat} {p : Nat → Nat} (h7 : n ≤ 7) : (wl I n by' p 448).length ≤ 70 := by
  unfold wl
  rw [← List.countP_eq_length_filter]
  by_cases e : by' = 2
  · refine Nat.le_trans (List.countP_mono_left (q := fun c => decide (c / 64 < c / 8 % 8 ∧ c / 8 % 8 < 7 ∧ c % 8 = 0)) (fun c _ h => ?_)) (by rw [cnt_q2]; decide)
    obtain ⟨h1, ⟨h2, h3, h4⟩, h5⟩ := of_decide_eq_true h
    rcases h5 with ⟨-, z, -⟩ | ⟨z, -⟩
    · exact decide_eq_true ⟨h2, by omega, z⟩
    · exact absurd e z
  · refine Nat.le_trans (List.countP_mono_left (q := fun c => decide (c / 64 < c / 8 % 8 ∧ c / 8 % 8 < 7 ∧ c / 64 < c % 8 ∧ c % 8 ≠ c / 8 % 8 ∧ c % 8 < 7)) (fun c _ h => ?_)) (by rw [cnt_q3]; decide)
    obtain ⟨h1, ⟨h2, h3, h4⟩, h5⟩ := of_decide_eq_true h
    rcases h5 with ⟨z, -⟩ | ⟨-, ⟨z1, z2, z3⟩, -⟩
    · exact absurd z e
    · exact decide_eq_true ⟨h2, by omega, z1, z2, by omega⟩
theorem tk_70 {by' : Nat} {p : Nat → Nat} (h7 : n ≤ 7) : tk I n by' p 70 448 = wl I n by' p 448 := by
  unfold tk; exact List.take_of_length_le (wl_70 h7)
theorem oI_m1 {n : Nat} {o : Option Nat} (h7 : n ≤ 7) (h : ∀ e, o = some e → e < n) : oI o = -1 ↔ o = none := by
  have hm1 : ∀ e : Nat, e < 7 → ¬ nI e = (-1 : Int32) := by decide
  cases o with
  | none => exact ⟨fun _ => rfl, fun _ => rfl⟩
  | some e => exact ⟨fun q => absurd q (hm1 e (by have := h e rfl; omega)), fun q => by cases q⟩
theorem bX5_giverTo_0 {E : Nat × (Nat → Int32)} {I : Nat → Nat → Int32} {J : Nat → Nat → Int64} {b : Bool} {a1 : Int32} {a2 : Int32} {Q : Option Value → am_H → Prop}  (wp : ∃ j1, (a2 * 3) = nI j1 ∧ j1 < 210 ∧ ∃ j2, ((a2 * 3) + 1) = nI j2 ∧ j2 < 210 ∧ ∃ j3, ((a2 * 3) + 2) = nI j3 ∧ j3 < 210 ∧ ((¬ a1 = (I 25 j1) → ((¬ a1 = (I 25 j2) → ((¬ a1 = (I 25 j3) → Q (some (.int (-1))) (hp I J b)) ∧ (a1 = (I 25 j3) → Q (some (.int (I 25 j1))) (hp I J b)))) ∧ (a1 = (I 25 j2) → ((¬ (I 25 j3) = (-1) → Q (some (.int (I 25 j3))) (hp I J b)) ∧ ((I 25 j3) = (-1) → Q (some (.int (I 25 j1))) (hp I J b)))))) ∧ (a1 = (I 25 j1) → Q (some (.int (I 25 j2))) (hp I J b)))) : am_R E mX5_giverTo 0 [some (.ref 23), some (.int a1), some (.int a2), none, none, none] [] (hp I J b) 64 64 Q := by
  refine am_aload_n rfl rfl dX5_giverTo_0 ?_
  refine am_getA (r := 25) dX5_giverTo_1 flX5_15 (Or.inr ⟨_, rfl⟩) rfl (by decide) rfl ?_
  refine am_iload_n rfl rfl dX5_giverTo_4 ?_
  refine am_iconst 3 rfl dX5_giverTo_5 ?_
  refine am_imul dX5_giverTo_6 ?_
  obtain ⟨j1, e1, w1, wp⟩ := wp
  refine am_ialdN (j := j1) dX5_giverTo_7 rfl (by decide) e1 w1 (by decide) ?_
  refine am_istore_n (ls' := [some (.ref 23), some (.int a1), some (.int a2), some (.int (I 25 j1)), none, none]) rfl (by decide) rfl rfl dX5_giverTo_8 ?_
  refine am_aload_n rfl rfl dX5_giverTo_9 ?_
  refine am_getA (r := 25) dX5_giverTo_10 flX5_15 (Or.inr ⟨_, rfl⟩) rfl (by decide) rfl ?_
  refine am_iload_n rfl rfl dX5_giverTo_13 ?_
  refine am_iconst 3 rfl dX5_giverTo_14 ?_
  refine am_imul dX5_giverTo_15 ?_
  refine am_iconst 1 rfl dX5_giverTo_16 ?_
  refine am_iadd dX5_giverTo_17 ?_
  obtain ⟨j2, e2, w2, wp⟩ := wp
  refine am_ialdN (j := j2) dX5_giverTo_18 rfl (by decide) e2 w2 (by decide) ?_
  refine am_istore (ls' := [some (.ref 23), some (.int a1), some (.int a2), some (.int (I 25 j1)), some (.int (I 25 j2)), none]) (by decide) rfl rfl dX5_giverTo_19 ?_
  refine am_aload_n rfl rfl dX5_giverTo_21 ?_
  refine am_getA (r := 25) dX5_giverTo_22 flX5_15 (Or.inr ⟨_, rfl⟩) rfl (by decide) rfl ?_
  refine am_iload_n rfl rfl dX5_giverTo_25 ?_
  refine am_iconst 3 rfl dX5_giverTo_26 ?_
  refine am_imul dX5_giverTo_27 ?_
  refine am_iconst 2 rfl dX5_giverTo_28 ?_
  refine am_iadd dX5_giverTo_29 ?_
  obtain ⟨j3, e3, w3, wp⟩ := wp
  refine am_ialdN (j := j3) dX5_giverTo_30 rfl (by decide) e3 w3 (by decide) ?_
  refine am_istore (ls' := [some (.ref 23), some (.int a1), some (.int a2), some (.int (I 25 j1)), some (.int (I 25 j2)), some (.int (I 25 j3))]) (by decide) rfl rfl dX5_giverTo_31 ?_
  refine am_iload_n rfl rfl dX5_giverTo_33 ?_
  refine am_iload_n rfl rfl dX5_giverTo_34 ?_
  refine am_icmp_ne dX5_giverTo_35 (tgt := 41) rfl (fun hc4 => ?_) (fun hc4 => ?_)
  · have wp := wp.1 hc4
    refine am_iload_n rfl rfl dX5_giverTo_41 ?_
    refine am_iload rfl dX5_giverTo_42 ?_
    refine am_icmp_ne dX5_giverTo_44 (tgt := 60) rfl (fun hc5 => ?_) (fun hc5 => ?_)
    · have wp := wp.1 hc5
      refine am_iload_n rfl rfl dX5_giverTo_60 ?_
      refine am_iload rfl dX5_giverTo_61 ?_
      refine am_icmp_ne dX5_giverTo_63 (tgt := 70) rfl (fun hc6 => ?_) (fun hc6 => ?_)
      · have wp := wp.1 hc6
        refine am_iconst (-1) rfl dX5_giverTo_70 ?_
        exact am_iret dX5_giverTo_71 rfl rfl wp
      · have wp := wp.2 hc6
        refine am_iload_n rfl rfl dX5_giverTo_66 ?_
        refine am_goto dX5_giverTo_67 (tgt := 71) rfl ?_
        exact am_iret dX5_giverTo_71 rfl rfl wp
    · have wp := wp.2 hc5
      refine am_iload rfl dX5_giverTo_47 ?_
      refine am_iconst (-1) rfl dX5_giverTo_49 ?_
      refine am_icmp_ne dX5_giverTo_50 (tgt := 57) rfl (fun hc7 => ?_) (fun hc7 => ?_)
      · have wp := wp.1 hc7
        refine am_iload rfl dX5_giverTo_57 ?_
        exact am_iret dX5_giverTo_59 rfl rfl wp
      · have wp := wp.2 hc7
        refine am_iload_n rfl rfl dX5_giverTo_53 ?_
        refine am_goto dX5_giverTo_54 (tgt := 59) rfl ?_
        exact am_iret dX5_giverTo_59 rfl rfl wp
  · have wp := wp.2 hc4
    refine am_iload rfl dX5_giverTo_38 ?_
    exact am_iret dX5_giverTo_40 rfl rfl wp
theorem tX5_giverTo {by' c m i : Nat} {a1 a2 : Int32} {p : Nat → Nat} {F : Nat → Int32} {cc : Int32} (h7 : n ≤ 7) (em : a1 = nI m) (hm : m < n) (ei : a2 = nI i) (hi : i < 70) (hF : F (3 * i) = nI (c / 64) ∧ F (3 * i + 1) = nI (c / 8 % 8) ∧ F (3 * i + 2) = (if by' = 2 then -1 else nI (c % 8))) (hw : wc I n by' p c) (k : Q (some (.int (oI (gv by' c m)))) (hp (fh I F cc) J b)) : am_R E mX5_giverTo 0 [some (.ref 23), some (.int a1), some (.int a2), none, none, none] [] (hp (fh I F cc) J b) 64 64 Q := by
  subst em; subst ei
  have hm1 : ∀ e : Nat, e < 8 → ¬ nI e = (-1 : Int32) := by decide
  have e1 : nI i * 3 = nI (3 * i) := by rw [show (3 : Int32) = nI 3 from rfl, pk_mul, Nat.mul_comm]
  have g : ∀ j, fh I F cc 25 j = F j := fun j => rfl
  obtain ⟨q1, ⟨q2, q3, q4⟩, q5⟩ := hw
  refine bX5_giverTo_0 ⟨3 * i, e1, by omega, 3 * i + 1, by rw [e1, n1], by omega, 3 * i + 2, by rw [e1, show (2 : Int32) = nI 2 from rfl, nI_add], by omega, ?_⟩
  rw [g, g, g, hF.1, hF.2.1, hF.2.2]
  unfold gv at k
  refine ne_br (n := m) (m := c / 64) rfl rfl (by omega) (by omega) (fun z => by rw [if_pos z] at k; exact k) (fun z1 => ?_)
  rw [if_neg z1] at k
  refine ne_br (n := m) (m := c / 8 % 8) rfl rfl (by omega) (by omega) (fun z => ?_) (fun z2 => ?_)
  · rw [if_pos z] at k
    by_cases b2 : by' = 2
    · rw [if_pos b2] at k ⊢
      exact ⟨fun w => absurd rfl w, fun _ => k⟩
    · rw [if_neg b2] at k ⊢
      exact ⟨fun _ => k, fun w => absurd w (hm1 _ (by omega))⟩
  · rw [if_neg z2] at k
    by_cases b2 : by' = 2
    · rw [if_neg (fun w => w.1 b2)] at k
      rw [if_pos b2]
      exact ⟨fun _ => k, fun w => absurd w (hm1 _ (by omega))⟩
    · rw [if_neg b2]
      refine ne_br (n := m) (m := c % 8) rfl rfl (by omega) (by omega) (fun z => by rw [if_pos ⟨b2, z⟩] at k; exact k) (fun z => by rw [if_neg (fun w => z w.2)] at k; exact k)
theorem bX5_isBetter_0 {E : Nat × (Nat → Int32)} {I : Nat → Nat → Int32} {J : Nat → Nat → Int64} {b : Bool} {a1 : Int32} {a2 : Int32} {a3 : Int32} {Q : Option Value → am_H → Prop}  (wp : ((¬ a3 = (-1) → ∃ j2, ((a1 * 7) + a2) = nI j2 ∧ j2 < 49 ∧ ∃ j3, ((a1 * 7) + a3) = nI j3 ∧ j3 < 49 ∧ ((0 < ((I 6 j2) - (I 6 j3)) → Q (some (.int 1)) (hp I J b)) ∧ (¬ 0 < ((I 6 j2) - (I 6 j3)) → ((¬ ((I 6 j2) - (I 6 j3)) = 0 → Q (some (.int 0)) (hp I J b)) ∧ (((I 6 j2) - (I 6 j3)) = 0 → ((a3 ≤ a2 → Q (some (.int 0)) (hp I J b)) ∧ (¬ a3 ≤ a2 → Q (some (.int 1)) (hp I J b)))))))) ∧ (a3 = (-1) → Q (some (.int 1)) (hp I J b)))) : am_R E mX5_isBetter 0 [some (.ref 23), some (.int a1), some (.int a2), some (.int a3), none] [] (hp I J b) 64 64 Q := by
  refine am_iload_n rfl rfl dX5_isBetter_0 ?_
  refine am_iconst (-1) rfl dX5_isBetter_1 ?_
  refine am_icmp_ne dX5_isBetter_2 (tgt := 7) rfl (fun hc1 => ?_) (fun hc1 => ?_)
  · have wp := wp.1 hc1
    refine am_aload_n rfl rfl dX5_isBetter_7 ?_
    refine am_getA (r := 4) dX5_isBetter_8 flX5_18 (Or.inl ⟨_, rfl⟩) rfl (by decide) rfl ?_
    refine am_iload_n rfl rfl dX5_isBetter_11 ?_
    refine am_iload_n rfl rfl dX5_isBetter_12 ?_
    obtain ⟨j2, e2, w2, wp⟩ := wp
    refine am_invV (ci := 1) (As := [.int a1, .int a2]) (lsZ := [some (.ref 4), some (.int a1), some (.int a2)]) (st := []) dX5_isBetter_13 hX2_likingOf lkX5_39 ⟨by decide, by decide⟩ (by decide) rfl (by decide) rfl rfl rfl (Nat.le_of_ble_eq_true rfl) rfl (Nat.le_of_ble_eq_true rfl) ⟨Nat.le_refl _, Nat.le_refl _⟩ (tX2_likingOf (by decide) (j := j2) e2 w2 ?_)
    show am_R E mX5_isBetter 16 [some (.ref 23), some (.int a1), some (.int a2), some (.int a3), none] [.int (I 6 j2)] (hp I J b) 64 64 Q
    refine am_aload_n rfl rfl dX5_isBetter_16 ?_
    refine am_getA (r := 4) dX5_isBetter_17 flX5_18 (Or.inl ⟨_, rfl⟩) rfl (by decide) rfl ?_
    refine am_iload_n rfl rfl dX5_isBetter_20 ?_
    refine am_iload_n rfl rfl dX5_isBetter_21 ?_
    obtain ⟨j3, e3, w3, wp⟩ := wp
    refine am_invV (ci := 1) (As := [.int a1, .int a3]) (lsZ := [some (.ref 4), some (.int a1), some (.int a3)]) (st := [.int (I 6 j2)]) dX5_isBetter_22 hX2_likingOf lkX5_39 ⟨by decide, by decide⟩ (by decide) rfl (by decide) rfl rfl rfl (Nat.le_of_ble_eq_true rfl) rfl (Nat.le_of_ble_eq_true rfl) ⟨Nat.le_refl _, Nat.le_refl _⟩ (tX2_likingOf (by decide) (j := j3) e3 w3 ?_)
    show am_R E mX5_isBetter 25 [some (.ref 23), some (.int a1), some (.int a2), some (.int a3), none] [.int (I 6 j3), .int (I 6 j2)] (hp I J b) 64 64 Q
    refine am_isub dX5_isBetter_25 ?_
    refine am_istore (ls' := [some (.ref 23), some (.int a1), some (.int a2), some (.int a3), some (.int ((I 6 j2) - (I 6 j3)))]) (by decide) rfl rfl dX5_isBetter_26 ?_
    refine am_iload rfl dX5_isBetter_28 ?_
    refine am_if_gt dX5_isBetter_30 (tgt := 43) rfl (fun hc4 => ?_) (fun hc4 => ?_)
    · have wp := wp.1 hc4
      refine am_iconst 1 rfl dX5_isBetter_43 ?_
      refine am_goto dX5_isBetter_44 (tgt := 48) rfl ?_
      exact am_iret dX5_isBetter_48 rfl (by decide) wp
    · have wp := wp.2 hc4
      refine am_iload rfl dX5_isBetter_33 ?_
      refine am_if_ne dX5_isBetter_35 (tgt := 47) rfl (fun hc5 => ?_) (fun hc5 => ?_)
      · have wp := wp.1 hc5
        refine am_iconst 0 rfl dX5_isBetter_47 ?_
        exact am_iret dX5_isBetter_48 rfl (by decide) wp
      · have wp := wp.2 hc5
        refine am_iload_n rfl rfl dX5_isBetter_38 ?_
        refine am_iload_n rfl rfl dX5_isBetter_39 ?_
        refine am_icmp_ge dX5_isBetter_40 (tgt := 47) rfl (fun hc6 => ?_) (fun hc6 => ?_)
        · have wp := wp.1 hc6
          refine am_iconst 0 rfl dX5_isBetter_47 ?_
          exact am_iret dX5_isBetter_48 rfl (by decide) wp
        · have wp := wp.2 hc6
          refine am_iconst 1 rfl dX5_isBetter_43 ?_
          refine am_goto dX5_isBetter_44 (tgt := 48) rfl ?_
          exact am_iret dX5_isBetter_48 rfl (by decide) wp
  · have wp := wp.2 hc1
    refine am_iconst 1 rfl dX5_isBetter_5 ?_
    exact am_iret dX5_isBetter_6 rfl (by decide) wp
theorem tX5_isBetter {m d : Nat} {a1 a2 a3 : Int32} {best : Option Nat} (hC : CH I n) (em : a1 = nI m) (hm : m < n) (ed : a2 = nI d) (hd : d < n) (eb : a3 = oI best) (hb : ∀ e, best = some e → e < n) (k1 : bt I m best d = some d → Q (some (.int 1)) (hp I J b)) (k0 : bt I m best d = best → Q (some (.int 0)) (hp I J b)) : am_R E mX5_isBetter 0 [some (.ref 23), some (.int a1), some (.int a2), some (.int a3), none] [] (hp I J b) 64 64 Q := by
  subst em; subst ed; subst eb
  have h7 := hC.2.1.2
  have hl := hC.2.2.2.1
  refine bX5_isBetter_0 ⟨fun q => ?_, fun q => ?_⟩
  · cases best with
    | none => exact absurd rfl q
    | some e =>
      have he := hb e rfl
      refine ⟨7 * m + d, k7' m d, by omega, 7 * m + e, k7' m e, by omega, ?_⟩
      rw [hl _ (by omega), hl _ (by omega)]
      unfold bt at k1 k0
      simp only at k1 k0
      refine ⟨fun w => k1 (if_pos (Or.inl w)), fun w => ⟨fun w2 => k0 (if_neg (fun z => z.elim w (fun z => w2 z.1))), fun w2 => ?_⟩⟩
      exact le_br (n := e) (m := d) rfl rfl (by omega) (by omega) (fun w3 => k0 (if_neg (fun z => z.elim w (fun z => by omega)))) (fun w3 => k1 (if_pos (Or.inr ⟨w2, w3⟩)))
  · have := (oI_m1 h7 hb).mp q
    subst this
    exact k1 rfl
theorem bX5_bestFor_0 {E : Nat × (Nat → Int32)} {I : Nat → Nat → Int32} {J : Nat → Nat → Int64} {b : Bool} {a1 : Int32} {a3 : Int32} {Q : Option Value → am_H → Prop}  (wp : am_R E mX5_find 0 [some (.ref 23), some (.ref 10), some (.int a3), some (.int 70), none, none] [] (hp I J b) 64 64 (fun r h' => am_R E mX5_bestFor 11 [some (.ref 23), some (.int a1), some (.ref 10), none, some (.int (-1)), none, none] (r.toList ++ []) h' 64 64 Q)) : am_R E mX5_bestFor 0 [some (.ref 23), some (.int a1), some (.ref 10), some (.int a3), none, none, none] [] (hp I J b) 64 64 Q := by
  refine am_iconst (-1) rfl dX5_bestFor_0 ?_
  refine am_istore (ls' := [some (.ref 23), some (.int a1), some (.ref 10), some (.int a3), some (.int (-1)), none, none]) (by decide) rfl rfl dX5_bestFor_1 ?_
  refine am_aload_n rfl rfl dX5_bestFor_3 ?_
  refine am_aload_n rfl rfl dX5_bestFor_4 ?_
  refine am_iload_n rfl rfl dX5_bestFor_5 ?_
  refine am_bipush 70 rfl dX5_bestFor_6 ?_
  refine am_invV (ci := 3) (As := [.ref 10, .int a3, .int 70]) (lsZ := [some (.ref 23), some (.ref 10), some (.int a3), some (.int 70), none, none]) (st := []) dX5_bestFor_8 hX5_find lkX5_61 ⟨by decide, by decide⟩ (by decide) rfl (by decide) rfl rfl rfl (Nat.le_of_ble_eq_true rfl) rfl (Nat.le_of_ble_eq_true rfl) ⟨Nat.le_refl _, Nat.le_refl _⟩ (am_R.mono wp (fun r h' q => am_R.forget q ⟨rfl, ⟨rfl, ⟨rfl, ⟨rfl, trivial⟩⟩⟩⟩))
theorem bX5_bestFor_11 {E : Nat × (Nat → Int32)} {I : Nat → Nat → Int32} {J : Nat → Nat → Int64} {b : Bool} {a1 : Int32} {a4 : Int32} {Q : Option Value → am_H → Prop}  (wp : am_R E mX5_bestFor 14 [some (.ref 23), some (.int a1), some (.ref 10), none, some (.int a4), some (.int 0), none] [] (hp I J b) 64 64 Q) : am_R E mX5_bestFor 11 [some (.ref 23), some (.int a1), some (.ref 10), none, some (.int a4), none, none] [] (hp I J b) 64 64 Q := by
  refine am_iconst 0 rfl dX5_bestFor_11 ?_
  refine am_istore (ls' := [some (.ref 23), some (.int a1), some (.ref 10), none, some (.int a4), some (.int 0), none]) (by decide) rfl rfl dX5_bestFor_12 ?_
  exact am_R.forget wp ⟨rfl, ⟨rfl, ⟨rfl, ⟨rfl, ⟨rfl, trivial⟩⟩⟩⟩⟩
theorem bX5_bestFor_14 {E : Nat × (Nat → Int32)} {I : Nat → Nat → Int32} {J : Nat → Nat → Int64} {b : Bool} {a1 : Int32} {a4 : Int32} {a5 : Int32} {Q : Option Value → am_H → Prop}  (wp : (((I 23 3) ≤ a5 → Q (some (.int a4)) (hp I J b)) ∧ (¬ (I 23 3) ≤ a5 → am_R E mX5_giverTo 0 [some (.ref 23), some (.int a1), some (.int a5), none, none, none] [] (hp I J b) 64 64 (fun r h' => am_R E mX5_bestFor 30 [some (.ref 23), some (.int a1), some (.ref 10), none, some (.int a4), some (.int a5), none] (r.toList ++ []) h' 64 64 Q)))) : am_R E mX5_bestFor 14 [some (.ref 23), some (.int a1), some (.ref 10), none, some (.int a4), some (.int a5), none] [] (hp I J b) 64 64 Q := by
  refine am_iload rfl dX5_bestFor_14 ?_
  refine am_aload_n rfl rfl dX5_bestFor_16 ?_
  refine am_getI dX5_bestFor_17 flX5_46 (Or.inl rfl) rfl (by decide) ?_
  refine am_icmp_ge dX5_bestFor_20 (tgt := 64) rfl (fun hc1 => ?_) (fun hc1 => ?_)
  · have wp := wp.1 hc1
    refine am_iload rfl dX5_bestFor_64 ?_
    exact am_iret dX5_bestFor_66 rfl rfl wp
  · have wp := wp.2 hc1
    refine am_aload_n rfl rfl dX5_bestFor_23 ?_
    refine am_iload_n rfl rfl dX5_bestFor_24 ?_
    refine am_iload rfl dX5_bestFor_25 ?_
    refine am_invV (ci := 3) (As := [.int a1, .int a5]) (lsZ := [some (.ref 23), some (.int a1), some (.int a5), none, none, none]) (st := []) dX5_bestFor_27 hX5_giverTo lkX5_69 ⟨by decide, by decide⟩ (by decide) rfl (by decide) rfl rfl rfl (Nat.le_of_ble_eq_true rfl) rfl (Nat.le_of_ble_eq_true rfl) ⟨Nat.le_refl _, Nat.le_refl _⟩ (am_R.mono wp (fun r h' q => am_R.forget q ⟨rfl, ⟨rfl, ⟨rfl, ⟨rfl, ⟨rfl, trivial⟩⟩⟩⟩⟩))
theorem bX5_bestFor_30 {E : Nat × (Nat → Int32)} {I : Nat → Nat → Int32} {J : Nat → Nat → Int64} {b : Bool} {a1 : Int32} {a4 : Int32} {a5 : Int32} {x0 : Int32} {Q : Option Value → am_H → Prop}  (wp : ((x0 = (-1) → am_R E mX5_bestFor 14 [some (.ref 23), some (.int a1), some (.ref 10), none, some (.int a4), some (.int (a5 + 1)), none] [] (hp I J b) 64 64 Q) ∧ (¬ x0 = (-1) → ∃ j2, x0 = nI j2 ∧ j2 < 7 ∧ am_R E mX5_isBetter 0 [some (.ref 23), some (.int a1), some (.int (I 10 j2)), some (.int a4), none] [] (hp I J b) 64 64 (fun r h' => am_R E mX5_bestFor 49 [some (.ref 23), some (.int a1), some (.ref 10), none, some (.int a4), some (.int a5), some (.int x0)] (r.toList ++ []) h' 64 64 Q)))) : am_R E mX5_bestFor 30 [some (.ref 23), some (.int a1), some (.ref 10), none, some (.int a4), some (.int a5), none] [.int x0] (hp I J b) 64 64 Q := by
  refine am_istore (ls' := [some (.ref 23), some (.int a1), some (.ref 10), none, some (.int a4), some (.int a5), some (.int x0)]) (by decide) rfl rfl dX5_bestFor_30 ?_
  refine am_iload rfl dX5_bestFor_32 ?_
  refine am_iconst (-1) rfl dX5_bestFor_34 ?_
  refine am_icmp_eq dX5_bestFor_35 (tgt := 58) rfl (fun hc1 => ?_) (fun hc1 => ?_)
  · have wp := wp.1 hc1
    refine am_iinc (ls' := [some (.ref 23), some (.int a1), some (.ref 10), none, some (.int a4), some (.int (a5 + 1)), some (.int x0)]) (by decide) rfl rfl rfl dX5_bestFor_58 ?_
    refine am_goto dX5_bestFor_61 (tgt := 14) rfl ?_
    exact am_R.forget wp ⟨rfl, ⟨rfl, ⟨rfl, ⟨rfl, ⟨rfl, trivial⟩⟩⟩⟩⟩
  · have wp := wp.2 hc1
    refine am_aload_n rfl rfl dX5_bestFor_38 ?_
    refine am_iload_n rfl rfl dX5_bestFor_39 ?_
    refine am_aload_n rfl rfl dX5_bestFor_40 ?_
    refine am_iload rfl dX5_bestFor_41 ?_
    obtain ⟨j2, e2, w2, wp⟩ := wp
    refine am_ialdN (j := j2) dX5_bestFor_43 rfl (by decide) e2 w2 (by decide) ?_
    refine am_iload rfl dX5_bestFor_44 ?_
    refine am_invV (ci := 3) (As := [.int a1, .int (I 10 j2), .int a4]) (lsZ := [some (.ref 23), some (.int a1), some (.int (I 10 j2)), some (.int a4), none]) (st := []) dX5_bestFor_46 hX5_isBetter lkX5_72 ⟨by decide, by decide⟩ (by decide) rfl (by decide) rfl rfl rfl (Nat.le_of_ble_eq_true rfl) rfl (Nat.le_of_ble_eq_true rfl) ⟨Nat.le_refl _, Nat.le_refl _⟩ (am_R.mono wp (fun r h' q => am_R.forget q ⟨rfl, ⟨rfl, ⟨rfl, ⟨rfl, ⟨rfl, ⟨rfl, trivial⟩⟩⟩⟩⟩⟩))
theorem bX5_bestFor_49 {E : Nat × (Nat → Int32)} {I : Nat → Nat → Int32} {J : Nat → Nat → Int64} {b : Bool} {a1 : Int32} {a4 : Int32} {a5 : Int32} {a6 : Int32} {x0 : Int32} {Q : Option Value → am_H → Prop}  (wp : ((x0 = 0 → am_R E mX5_bestFor 14 [some (.ref 23), some (.int a1), some (.ref 10), none, some (.int a4), some (.int (a5 + 1)), none] [] (hp I J b) 64 64 Q) ∧ (¬ x0 = 0 → ∃ j2, a6 = nI j2 ∧ j2 < 7 ∧ am_R E mX5_bestFor 14 [some (.ref 23), some (.int a1), some (.ref 10), none, some (.int (I 10 j2)), some (.int (a5 + 1)), none] [] (hp I J b) 64 64 Q))) : am_R E mX5_bestFor 49 [some (.ref 23), some (.int a1), some (.ref 10), none, some (.int a4), some (.int a5), some (.int a6)] [.int x0] (hp I J b) 64 64 Q := by
  refine am_if_eq dX5_bestFor_49 (tgt := 58) rfl (fun hc1 => ?_) (fun hc1 => ?_)
  · have wp := wp.1 hc1
    refine am_iinc (ls' := [some (.ref 23), some (.int a1), some (.ref 10), none, some (.int a4), some (.int (a5 + 1)), some (.int a6)]) (by decide) rfl rfl rfl dX5_bestFor_58 ?_
    refine am_goto dX5_bestFor_61 (tgt := 14) rfl ?_
    exact am_R.forget wp ⟨rfl, ⟨rfl, ⟨rfl, ⟨rfl, ⟨rfl, trivial⟩⟩⟩⟩⟩
  · have wp := wp.2 hc1
    refine am_aload_n rfl rfl dX5_bestFor_52 ?_
    refine am_iload rfl dX5_bestFor_53 ?_
    obtain ⟨j2, e2, w2, wp⟩ := wp
    refine am_ialdN (j := j2) dX5_bestFor_55 rfl (by decide) e2 w2 (by decide) ?_
    refine am_istore (ls' := [some (.ref 23), some (.int a1), some (.ref 10), none, some (.int (I 10 j2)), some (.int a5), some (.int a6)]) (by decide) rfl rfl dX5_bestFor_56 ?_
    refine am_iinc (ls' := [some (.ref 23), some (.int a1), some (.ref 10), none, some (.int (I 10 j2)), some (.int (a5 + 1)), some (.int a6)]) (by decide) rfl rfl rfl dX5_bestFor_58 ?_
    refine am_goto dX5_bestFor_61 (tgt := 14) rfl ?_
    exact am_R.forget wp ⟨rfl, ⟨rfl, ⟨rfl, ⟨rfl, ⟨rfl, trivial⟩⟩⟩⟩⟩
theorem tX5_bestFor {by' m : Nat} {a1 a3 : Int32} {p : Nat → Nat} (hC : CH I n) (hR : Rw (I 10) p n) (hb : by' = 0 ∨ by' = 2 ∨ by' = 3) (em : a1 = nI m) (hm : m < n) (eb : a3 = nI by') (k : ∀ F c, Q (some (.int (oI ((wl I n by' p 448).foldl (bst I p by' m) none)))) (hp (fh I F c) J b)) : am_R E mX5_bestFor 0 [some (.ref 23), some (.int a1), some (.ref 10), some (.int a3), none, none, none] [] (hp I J b) 64 64 Q := by
  subst em; subst eb
  have r10 : rowc 10 := Or.inl rfl
  have h7 := hC.2.1.2
  refine bX5_bestFor_0 (tX5_find (M := 70) (p := p) r10 hC hR hb rfl rfl (by omega) (fun F hF => bX5_bestFor_11 ?_))
  rw [tk_70 h7] at hF ⊢
  have h70 := wl_70 (I := I) (by' := by') (p := p) h7
  have hwc : ∀ c, c ∈ wl I n by' p 448 → wc I n by' p c := fun c h => wl_wc h
  replace k := k F (nI (wl I n by' p 448).length)
  generalize wl I n by' p 448 = L at hF h70 hwc k
  have key : ∀ (R pre : List Nat) (best : Option Nat), pre ++ R = L → (∀ e, best = some e → e < n) → Q (some (.int (oI (R.foldl (bst I p by' m) best)))) (hp (fh I F (nI L.length)) J b) → am_R E mX5_bestFor 14 [some (.ref 23), some (.int (nI m)), some (.ref 10), none, some (.int (oI best)), some (.int (nI pre.length)), none] [] (hp (fh I F (nI L.length)) J b) 64 64 Q := by
    intro R
    induction R with
    | nil =>
      intro pre best e hb hQ
      rw [List.append_nil] at e
      subst e
      exact bX5_bestFor_14 (le_br (n := pre.length) rfl rfl (by omega) (by omega) (fun _ => hQ) (fun h => by omega))
    | cons c R ih =>
      intro pre best e hb hQ
      have hlen : L.length = pre.length + (R.length + 1) := by rw [← e, List.length_append, List.length_cons]
      have hat : L[pre.length]? = some c := by rw [← e, List.getElem?_append_right (Nat.le_refl _), Nat.sub_self]; rfl
      have hw := hwc c (by rw [← e]; simp)
      rw [List.foldl_cons] at hQ
      have hb2 := bst_lt (m := m) (fun i hi => (hR i hi).2) hw hb
      have nxt := ih (pre ++ [c]) (bst I p by' m best c) (by rw [← e]; simp) hb2 hQ
      rw [List.length_append, List.length_singleton, ← n1] at nxt
      refine bX5_bestFor_14 (le_br (n := L.length) rfl rfl (by omega) (by omega) (fun h => by omega) (fun _ => ?_))
      refine tX5_giverTo (i := pre.length) h7 rfl hm rfl (by omega) (hF _ c hat) hw ?_
      unfold bst at nxt
      cases hg : gv by' c m with
      | none =>
        rw [hg] at nxt
        exact bX5_bestFor_30 ⟨fun _ => nxt, fun q => absurd rfl q⟩
      | some g =>
        rw [hg] at nxt
        have hgn := gv_lt hw hg
        have hm1 : ∀ e : Nat, e < 7 → ¬ nI e = (-1 : Int32) := by decide
        refine bX5_bestFor_30 ⟨fun q => absurd q (hm1 g (by omega)), fun _ => ⟨g, rfl, by omega, ?_⟩⟩
        refine tX5_isBetter (I := fh I F (nI L.length)) (m := m) (d := p g) (hC.fh _ _) rfl hm (hR g hgn).1 (hR g hgn).2 rfl hb (fun z => ?_) (fun z => ?_)
        · refine bX5_bestFor_49 (z01 rfl ⟨g, rfl, by omega, ?_⟩)
          have z : bt I m best (p g) = some (p g) := z
          simp only [z] at nxt
          rw [show fh I F (nI L.length) 10 g = nI (p g) from (hR g hgn).1]
          exact nxt
        · have z : bt I m best (p g) = best := z
          simp only [z] at nxt
          exact bX5_bestFor_49 (z00 rfl nxt)
  exact key L [] none rfl (fun e q => by cases q) k
theorem bX9_hint_0 {E : Nat × (Nat → Int32)} {I : Nat → Nat → Int32} {J : Nat → Nat → Int64} {b : Bool} {a1 : Int32} {Q : Option Value → am_H → Prop}  (wp : (((0 ≤ a1 ∧ a1 < (I 4 0)) → ((¬ (I 9 0) = 0 → am_R E mX5_bestFor 0 [some (.ref 23), some (.int a1), some (.ref 10), some (.int (I 4 1)), none, none, none] [] (hp I J b) 64 64 (fun r h' => am_R E mX9_hint 46 [none, none] (r.toList ++ []) h' 64 64 Q)) ∧ ((I 9 0) = 0 → Q (some (.int (-4))) (hp I J b)))) ∧ (¬ (0 ≤ a1 ∧ a1 < (I 4 0)) → Q (some (.int (-2))) (hp I J b)))) : am_R E mX9_hint 0 [some (.ref 0), some (.int a1)] [] (hp I J b) 64 64 Q := by
  refine am_aload_n rfl rfl dX9_hint_0 ?_
  refine am_iload_n rfl rfl dX9_hint_1 ?_
  refine am_invV (ci := 7) (As := [.int a1]) (lsZ := [some (.ref 0), some (.int a1)]) (st := []) dX9_hint_2 hX9_isThere lkX9_122 ⟨by decide, by decide⟩ (by decide) rfl (by decide) rfl rfl rfl (Nat.le_of_ble_eq_true rfl) rfl (Nat.le_of_ble_eq_true rfl) ⟨Nat.le_refl _, Nat.le_refl _⟩ (tX9_isThere  (fun hc1 => ?_) (fun hc1 => ?_))
  · have wp := wp.1 hc1
    show am_R E mX9_hint 5 [some (.ref 0), some (.int a1)] [.int 1] (hp I J b) 64 64 Q
    refine am_if_ne dX9_hint_5 (tgt := 11) rfl (fun _ => ?_) (fun hc => absurd hc (by decide))
    refine am_aload_n rfl rfl dX9_hint_11 ?_
    refine am_getA (r := 9) dX9_hint_12 flX9_26 (Or.inl ⟨_, rfl⟩) rfl (by decide) rfl ?_
    refine am_getI dX9_hint_15 flX9_160 (Or.inr rfl) rfl (by decide) ?_
    refine am_if_ne dX9_hint_18 (tgt := 24) rfl (fun hc2 => ?_) (fun hc2 => ?_)
    · have wp := wp.1 hc2
      refine am_aload_n rfl rfl dX9_hint_24 ?_
      refine am_getA (r := 23) dX9_hint_25 flX9_43 (Or.inl ⟨_, rfl⟩) rfl (by decide) rfl ?_
      refine am_iload_n rfl rfl dX9_hint_28 ?_
      refine am_aload_n rfl rfl dX9_hint_29 ?_
      refine am_getA (r := 9) dX9_hint_30 flX9_26 (Or.inl ⟨_, rfl⟩) rfl (by decide) rfl ?_
      refine am_getA (r := 10) dX9_hint_33 flX9_164 (Or.inr ⟨_, rfl⟩) rfl (by decide) rfl ?_
      refine am_aload_n rfl rfl dX9_hint_36 ?_
      refine am_getA (r := 4) dX9_hint_37 flX9_19 (Or.inl ⟨_, rfl⟩) rfl (by decide) rfl ?_
      refine am_getI dX9_hint_40 flX9_167 (Or.inl rfl) rfl (by decide) ?_
      refine am_invV (ci := 3) (As := [.int a1, .ref 10, .int (I 4 1)]) (lsZ := [some (.ref 23), some (.int a1), some (.ref 10), some (.int (I 4 1)), none, none, none]) (st := []) dX9_hint_43 hX5_bestFor lkX9_210 ⟨by decide, by decide⟩ (by decide) rfl (by decide) rfl rfl rfl (Nat.le_of_ble_eq_true rfl) rfl (Nat.le_of_ble_eq_true rfl) ⟨Nat.le_refl _, Nat.le_refl _⟩ (am_R.mono wp (fun r h' q => am_R.forget q trivial))
    · have wp := wp.2 hc2
      refine am_bipush (-4) rfl dX9_hint_21 ?_
      exact am_iret dX9_hint_23 rfl rfl wp
  · have wp := wp.2 hc1
    show am_R E mX9_hint 5 [some (.ref 0), some (.int a1)] [.int 0] (hp I J b) 64 64 Q
    refine am_if_ne dX9_hint_5 (tgt := 11) rfl (fun hc => absurd hc (by decide)) (fun _ => ?_)
    refine am_bipush (-2) rfl dX9_hint_8 ?_
    exact am_iret dX9_hint_10 rfl rfl wp
theorem bX9_hint_46 {E : Nat × (Nat → Int32)} {I : Nat → Nat → Int32} {J : Nat → Nat → Int64} {b : Bool} {x0 : Int32} {Q : Option Value → am_H → Prop}  (wp : Q (some (.int x0)) (hp I J b)) : am_R E mX9_hint 46 [none, none] [.int x0] (hp I J b) 64 64 Q := by
  exact am_iret dX9_hint_46 rfl rfl wp
theorem bX10_hint_0 {E : Nat × (Nat → Int32)} {I : Nat → Nat → Int32} {J : Nat → Nat → Int64} {b : Bool} {a1 : Int32} {Q : Option Value → am_H → Prop}  (wp : (((0 ≤ a1 ∧ a1 ≤ (I 48 0) - 1) → ((¬ (I 55 0) = 0 → am_R E mX10_takeToday 0 [some (.ref 48), none] [] (hp I J b) 64 64 (fun r h' => am_R E mX10_hint 27 [some (.ref 48), some (.int a1), none, none, none, none, none] (r.toList ++ []) h' 64 64 Q)) ∧ ((I 55 0) = 0 → Q (some (.int (-4))) (hp I J b)))) ∧ (¬ (0 ≤ a1 ∧ a1 ≤ (I 48 0) - 1) → Q (some (.int (-2))) (hp I J b)))) : am_R E mX10_hint 0 [some (.ref 48), some (.int a1), none, none, none, none, none] [] (hp I J b) 64 64 Q := by
  refine am_aload_n rfl rfl dX10_hint_0 ?_
  refine am_iload_n rfl rfl dX10_hint_1 ?_
  refine am_invV (ci := 8) (As := [.int a1]) (lsZ := [some (.ref 48), some (.int a1)]) (st := []) dX10_hint_2 hX10_isMonk lkX10_166 ⟨by decide, by decide⟩ (by decide) rfl (by decide) rfl rfl rfl (Nat.le_of_ble_eq_true rfl) rfl (Nat.le_of_ble_eq_true rfl) ⟨Nat.le_refl _, Nat.le_refl _⟩ (tX10_isMonk  (fun hc1 => ?_) (fun hc1 => ?_))
  · have wp := wp.1 hc1
    show am_R E mX10_hint 5 [some (.ref 48), some (.int a1), none, none, none, none, none] [.int 1] (hp I J b) 64 64 Q
    refine am_if_ne dX10_hint_5 (tgt := 11) rfl (fun _ => ?_) (fun hc => absurd hc (by decide))
    refine am_aload_n rfl rfl dX10_hint_11 ?_
    refine am_getA (r := 55) dX10_hint_12 flX10_35 (Or.inr ⟨_, rfl⟩) rfl (by decide) rfl ?_
    refine am_iconst 0 rfl dX10_hint_15 ?_
    refine am_ialdN (j := 0) dX10_hint_16 rfl (by decide) rfl (by decide) (by decide) ?_
    refine am_if_ne dX10_hint_17 (tgt := 23) rfl (fun hc2 => ?_) (fun hc2 => ?_)
    · have wp := wp.1 hc2
      refine am_aload_n rfl rfl dX10_hint_23 ?_
      refine am_invV (ci := 8) (As := []) (lsZ := [some (.ref 48), none]) (st := []) dX10_hint_24 hX10_takeToday lkX10_190 ⟨by decide, by decide⟩ (by decide) rfl (by decide) rfl rfl rfl (Nat.le_of_ble_eq_true rfl) rfl (Nat.le_of_ble_eq_true rfl) ⟨Nat.le_refl _, Nat.le_refl _⟩ (am_R.mono wp (fun r h' q => am_R.forget q ⟨rfl, ⟨rfl, trivial⟩⟩))
    · have wp := wp.2 hc2
      refine am_bipush (-4) rfl dX10_hint_20 ?_
      exact am_iret dX10_hint_22 rfl rfl wp
  · have wp := wp.2 hc1
    show am_R E mX10_hint 5 [some (.ref 48), some (.int a1), none, none, none, none, none] [.int 0] (hp I J b) 64 64 Q
    refine am_if_ne dX10_hint_5 (tgt := 11) rfl (fun hc => absurd hc (by decide)) (fun _ => ?_)
    refine am_bipush (-2) rfl dX10_hint_8 ?_
    exact am_iret dX10_hint_10 rfl rfl wp
theorem bX10_hint_27 {E : Nat × (Nat → Int32)} {I : Nat → Nat → Int32} {J : Nat → Nat → Int64} {b : Bool} {a1 : Int32} {Q : Option Value → am_H → Prop}  (wp : am_R E mX10_nextWanted 0 [some (.ref 48), some (.int 0), some (.int (I 48 1)), none, none] [] (hp I J b) 64 64 (fun r h' => am_R E mX10_hint 38 [some (.ref 48), some (.int a1), some (.int (-1)), none, none, none, none] (r.toList ++ []) h' 64 64 Q)) : am_R E mX10_hint 27 [some (.ref 48), some (.int a1), none, none, none, none, none] [] (hp I J b) 64 64 Q := by
  refine am_iconst (-1) rfl dX10_hint_27 ?_
  refine am_istore_n (ls' := [some (.ref 48), some (.int a1), some (.int (-1)), none, none, none, none]) rfl (by decide) rfl rfl dX10_hint_28 ?_
  refine am_aload_n rfl rfl dX10_hint_29 ?_
  refine am_iconst 0 rfl dX10_hint_30 ?_
  refine am_aload_n rfl rfl dX10_hint_31 ?_
  refine am_getI dX10_hint_32 flX10_13 (Or.inl rfl) rfl (by decide) ?_
  refine am_invV (ci := 8) (As := [.int 0, .int (I 48 1)]) (lsZ := [some (.ref 48), some (.int 0), some (.int (I 48 1)), none, none]) (st := []) dX10_hint_35 hX10_nextWanted lkX10_217 ⟨by decide, by decide⟩ (by decide) rfl (by decide) rfl rfl rfl (Nat.le_of_ble_eq_true rfl) rfl (Nat.le_of_ble_eq_true rfl) ⟨Nat.le_refl _, Nat.le_refl _⟩ (am_R.mono wp (fun r h' q => am_R.forget q ⟨rfl, ⟨rfl, ⟨rfl, trivial⟩⟩⟩))
theorem bX10_hint_38 {E : Nat × (Nat → Int32)} {I : Nat → Nat → Int32} {J : Nat → Nat → Int64} {b : Bool} {a1 : Int32} {a2 : Int32} {x0 : Int32} {Q : Option Value → am_H → Prop}  (wp : am_R E mX10_hint 39 [some (.ref 48), some (.int a1), some (.int a2), some (.int x0), none, none, none] [] (hp I J b) 64 64 Q) : am_R E mX10_hint 38 [some (.ref 48), some (.int a1), some (.int a2), none, none, none, none] [.int x0] (hp I J b) 64 64 Q := by
  refine am_istore_n (ls' := [some (.ref 48), some (.int a1), some (.int a2), some (.int x0), none, none, none]) rfl (by decide) rfl rfl dX10_hint_38 ?_
  exact am_R.forget wp ⟨rfl, ⟨rfl, ⟨rfl, ⟨rfl, trivial⟩⟩⟩⟩
theorem bX10_hint_39 {E : Nat × (Nat → Int32)} {I : Nat → Nat → Int32} {J : Nat → Nat → Int64} {b : Bool} {a1 : Int32} {a2 : Int32} {a3 : Int32} {Q : Option Value → am_H → Prop}  (wp : ((a3 = (-1) → Q (some (.int a2)) (hp I J b)) ∧ (¬ a3 = (-1) → (((I 48 26) = a1 → ∃ j3, (I 48 27) = nI j3 ∧ j3 < 7 ∧ am_R E mX10_hint 139 [some (.ref 48), some (.int a1), some (.int a2), some (.int a3), none, some (.int (I 58 j3)), none] [] (hp I J b) 64 64 Q) ∧ (¬ (I 48 26) = a1 → (((I 48 27) = a1 → (((I 48 28) = a1 → ∃ j6, (I 48 26) = nI j6 ∧ j6 < 7 ∧ am_R E mX10_hint 139 [some (.ref 48), some (.int a1), some (.int a2), some (.int a3), none, some (.int (I 58 j6)), none] [] (hp I J b) 64 64 Q) ∧ (¬ (I 48 28) = a1 → ((¬ (I 48 28) = (-1) → ∃ j8, (I 48 28) = nI j8 ∧ j8 < 7 ∧ am_R E mX10_hint 139 [some (.ref 48), some (.int a1), some (.int a2), some (.int a3), none, some (.int (I 58 j8)), none] [] (hp I J b) 64 64 Q) ∧ ((I 48 28) = (-1) → ∃ j9, (I 48 26) = nI j9 ∧ j9 < 7 ∧ am_R E mX10_hint 139 [some (.ref 48), some (.int a1), some (.int a2), some (.int a3), none, some (.int (I 58 j9)), none] [] (hp I J b) 64 64 Q))))) ∧ (¬ (I 48 27) = a1 → ((¬ (I 48 28) = a1 → am_R E mX10_hint 197 [some (.ref 48), some (.int a1), some (.int a2), some (.int a3), none, none, none] [] (hp I J b) 64 64 Q) ∧ ((I 48 28) = a1 → ∃ j11, (I 48 26) = nI j11 ∧ j11 < 7 ∧ am_R E mX10_hint 139 [some (.ref 48), some (.int a1), some (.int a2), some (.int a3), none, some (.int (I 58 j11)), none] [] (hp I J b) 64 64 Q))))))))) : am_R E mX10_hint 39 [some (.ref 48), some (.int a1), some (.int a2), some (.int a3), none, none, none] [] (hp I J b) 64 64 Q := by
  refine am_iload_n rfl rfl dX10_hint_39 ?_
  refine am_iconst (-1) rfl dX10_hint_40 ?_
  refine am_icmp_eq dX10_hint_41 (tgt := 212) rfl (fun hc1 => ?_) (fun hc1 => ?_)
  · have wp := wp.1 hc1
    refine am_iload_n rfl rfl dX10_hint_212 ?_
    exact am_iret dX10_hint_213 rfl rfl wp
  · have wp := wp.2 hc1
    refine am_aload_n rfl rfl dX10_hint_44 ?_
    refine am_getI dX10_hint_45 flX10_204 (Or.inl rfl) rfl (by decide) ?_
    refine am_iload_n rfl rfl dX10_hint_48 ?_
    refine am_icmp_eq dX10_hint_49 (tgt := 68) rfl (fun hc2 => ?_) (fun hc2 => ?_)
    · have wp := wp.1 hc2
      refine am_iconst 1 rfl dX10_hint_68 ?_
      refine am_goto dX10_hint_69 (tgt := 73) rfl ?_
      refine am_istore (ls' := [some (.ref 48), some (.int a1), some (.int a2), some (.int a3), some (.int 1), none, none]) (by decide) rfl rfl dX10_hint_73 ?_
      refine am_iload rfl dX10_hint_75 ?_
      refine am_if_eq dX10_hint_77 (tgt := 197) rfl (fun hc => absurd hc (by decide)) (fun _ => ?_)
      refine am_aload_n rfl rfl dX10_hint_80 ?_
      refine am_getI dX10_hint_81 flX10_204 (Or.inl rfl) rfl (by decide) ?_
      refine am_iload_n rfl rfl dX10_hint_84 ?_
      refine am_icmp_ne dX10_hint_85 (tgt := 100) rfl (fun hc => absurd hc2 hc) (fun _ => ?_)
      refine am_aload_n rfl rfl dX10_hint_88 ?_
      refine am_getA (r := 58) dX10_hint_89 flX10_45 (Or.inr ⟨_, rfl⟩) rfl (by decide) rfl ?_
      refine am_aload_n rfl rfl dX10_hint_92 ?_
      refine am_getI dX10_hint_93 flX10_207 (Or.inl rfl) rfl (by decide) ?_
      obtain ⟨j3, e3, w3, wp⟩ := wp
      refine am_ialdN (j := j3) dX10_hint_96 rfl (by decide) e3 w3 (by decide) ?_
      refine am_goto dX10_hint_97 (tgt := 137) rfl ?_
      refine am_istore (ls' := [some (.ref 48), some (.int a1), some (.int a2), some (.int a3), some (.int 1), some (.int (I 58 j3)), none]) (by decide) rfl rfl dX10_hint_137 ?_
      exact am_R.forget wp ⟨rfl, ⟨rfl, ⟨rfl, ⟨rfl, ⟨rfl, trivial⟩⟩⟩⟩⟩
    · have wp := wp.2 hc2
      refine am_aload_n rfl rfl dX10_hint_52 ?_
      refine am_getI dX10_hint_53 flX10_207 (Or.inl rfl) rfl (by decide) ?_
      refine am_iload_n rfl rfl dX10_hint_56 ?_
      refine am_icmp_eq dX10_hint_57 (tgt := 68) rfl (fun hc4 => ?_) (fun hc4 => ?_)
      · have wp := wp.1 hc4
        refine am_iconst 1 rfl dX10_hint_68 ?_
        refine am_goto dX10_hint_69 (tgt := 73) rfl ?_
        refine am_istore (ls' := [some (.ref 48), some (.int a1), some (.int a2), some (.int a3), some (.int 1), none, none]) (by decide) rfl rfl dX10_hint_73 ?_
        refine am_iload rfl dX10_hint_75 ?_
        refine am_if_eq dX10_hint_77 (tgt := 197) rfl (fun hc => absurd hc (by decide)) (fun _ => ?_)
        refine am_aload_n rfl rfl dX10_hint_80 ?_
        refine am_getI dX10_hint_81 flX10_204 (Or.inl rfl) rfl (by decide) ?_
        refine am_iload_n rfl rfl dX10_hint_84 ?_
        refine am_icmp_ne dX10_hint_85 (tgt := 100) rfl (fun _ => ?_) (fun hc => absurd hc hc2)
        refine am_aload_n rfl rfl dX10_hint_100 ?_
        refine am_getI dX10_hint_101 flX10_210 (Or.inl rfl) rfl (by decide) ?_
        refine am_iload_n rfl rfl dX10_hint_104 ?_
        refine am_icmp_eq dX10_hint_105 (tgt := 116) rfl (fun hc5 => ?_) (fun hc5 => ?_)
        · have wp := wp.1 hc5
          refine am_aload_n rfl rfl dX10_hint_116 ?_
          refine am_getA (r := 58) dX10_hint_117 flX10_45 (Or.inr ⟨_, rfl⟩) rfl (by decide) rfl ?_
          refine am_aload_n rfl rfl dX10_hint_120 ?_
          refine am_getI dX10_hint_121 flX10_204 (Or.inl rfl) rfl (by decide) ?_
          obtain ⟨j6, e6, w6, wp⟩ := wp
          refine am_ialdN (j := j6) dX10_hint_124 rfl (by decide) e6 w6 (by decide) ?_
          refine am_goto dX10_hint_125 (tgt := 137) rfl ?_
          refine am_istore (ls' := [some (.ref 48), some (.int a1), some (.int a2), some (.int a3), some (.int 1), some (.int (I 58 j6)), none]) (by decide) rfl rfl dX10_hint_137 ?_
          exact am_R.forget wp ⟨rfl, ⟨rfl, ⟨rfl, ⟨rfl, ⟨rfl, trivial⟩⟩⟩⟩⟩
        · have wp := wp.2 hc5
          refine am_aload_n rfl rfl dX10_hint_108 ?_
          refine am_getI dX10_hint_109 flX10_210 (Or.inl rfl) rfl (by decide) ?_
          refine am_iconst (-1) rfl dX10_hint_112 ?_
          refine am_icmp_ne dX10_hint_113 (tgt := 128) rfl (fun hc7 => ?_) (fun hc7 => ?_)
          · have wp := wp.1 hc7
            refine am_aload_n rfl rfl dX10_hint_128 ?_
            refine am_getA (r := 58) dX10_hint_129 flX10_45 (Or.inr ⟨_, rfl⟩) rfl (by decide) rfl ?_
            refine am_aload_n rfl rfl dX10_hint_132 ?_
            refine am_getI dX10_hint_133 flX10_210 (Or.inl rfl) rfl (by decide) ?_
            obtain ⟨j8, e8, w8, wp⟩ := wp
            refine am_ialdN (j := j8) dX10_hint_136 rfl (by decide) e8 w8 (by decide) ?_
            refine am_istore (ls' := [some (.ref 48), some (.int a1), some (.int a2), some (.int a3), some (.int 1), some (.int (I 58 j8)), none]) (by decide) rfl rfl dX10_hint_137 ?_
            exact am_R.forget wp ⟨rfl, ⟨rfl, ⟨rfl, ⟨rfl, ⟨rfl, trivial⟩⟩⟩⟩⟩
          · have wp := wp.2 hc7
            refine am_aload_n rfl rfl dX10_hint_116 ?_
            refine am_getA (r := 58) dX10_hint_117 flX10_45 (Or.inr ⟨_, rfl⟩) rfl (by decide) rfl ?_
            refine am_aload_n rfl rfl dX10_hint_120 ?_
            refine am_getI dX10_hint_121 flX10_204 (Or.inl rfl) rfl (by decide) ?_
            obtain ⟨j9, e9, w9, wp⟩ := wp
            refine am_ialdN (j := j9) dX10_hint_124 rfl (by decide) e9 w9 (by decide) ?_
            refine am_goto dX10_hint_125 (tgt := 137) rfl ?_
            refine am_istore (ls' := [some (.ref 48), some (.int a1), some (.int a2), some (.int a3), some (.int 1), some (.int (I 58 j9)), none]) (by decide) rfl rfl dX10_hint_137 ?_
            exact am_R.forget wp ⟨rfl, ⟨rfl, ⟨rfl, ⟨rfl, ⟨rfl, trivial⟩⟩⟩⟩⟩
      · have wp := wp.2 hc4
        refine am_aload_n rfl rfl dX10_hint_60 ?_
        refine am_getI dX10_hint_61 flX10_210 (Or.inl rfl) rfl (by decide) ?_
        refine am_iload_n rfl rfl dX10_hint_64 ?_
        refine am_icmp_ne dX10_hint_65 (tgt := 72) rfl (fun hc10 => ?_) (fun hc10 => ?_)
        · have wp := wp.1 hc10
          refine am_iconst 0 rfl dX10_hint_72 ?_
          refine am_istore (ls' := [some (.ref 48), some (.int a1), some (.int a2), some (.int a3), some (.int 0), none, none]) (by decide) rfl rfl dX10_hint_73 ?_
          refine am_iload rfl dX10_hint_75 ?_
          refine am_if_eq dX10_hint_77 (tgt := 197) rfl (fun _ => ?_) (fun hc => absurd hc (by decide))
          exact am_R.forget wp ⟨rfl, ⟨rfl, ⟨rfl, ⟨rfl, trivial⟩⟩⟩⟩
        · have wp := wp.2 hc10
          refine am_iconst 1 rfl dX10_hint_68 ?_
          refine am_goto dX10_hint_69 (tgt := 73) rfl ?_
          refine am_istore (ls' := [some (.ref 48), some (.int a1), some (.int a2), some (.int a3), some (.int 1), none, none]) (by decide) rfl rfl dX10_hint_73 ?_
          refine am_iload rfl dX10_hint_75 ?_
          refine am_if_eq dX10_hint_77 (tgt := 197) rfl (fun hc => absurd hc (by decide)) (fun _ => ?_)
          refine am_aload_n rfl rfl dX10_hint_80 ?_
          refine am_getI dX10_hint_81 flX10_204 (Or.inl rfl) rfl (by decide) ?_
          refine am_iload_n rfl rfl dX10_hint_84 ?_
          refine am_icmp_ne dX10_hint_85 (tgt := 100) rfl (fun _ => ?_) (fun hc => absurd hc hc2)
          refine am_aload_n rfl rfl dX10_hint_100 ?_
          refine am_getI dX10_hint_101 flX10_210 (Or.inl rfl) rfl (by decide) ?_
          refine am_iload_n rfl rfl dX10_hint_104 ?_
          refine am_icmp_eq dX10_hint_105 (tgt := 116) rfl (fun _ => ?_) (fun hc => absurd hc10 hc)
          refine am_aload_n rfl rfl dX10_hint_116 ?_
          refine am_getA (r := 58) dX10_hint_117 flX10_45 (Or.inr ⟨_, rfl⟩) rfl (by decide) rfl ?_
          refine am_aload_n rfl rfl dX10_hint_120 ?_
          refine am_getI dX10_hint_121 flX10_204 (Or.inl rfl) rfl (by decide) ?_
          obtain ⟨j11, e11, w11, wp⟩ := wp
          refine am_ialdN (j := j11) dX10_hint_124 rfl (by decide) e11 w11 (by decide) ?_
          refine am_goto dX10_hint_125 (tgt := 137) rfl ?_
          refine am_istore (ls' := [some (.ref 48), some (.int a1), some (.int a2), some (.int a3), some (.int 1), some (.int (I 58 j11)), none]) (by decide) rfl rfl dX10_hint_137 ?_
          exact am_R.forget wp ⟨rfl, ⟨rfl, ⟨rfl, ⟨rfl, ⟨rfl, trivial⟩⟩⟩⟩⟩
theorem bX10_hint_139 {E : Nat × (Nat → Int32)} {I : Nat → Nat → Int32} {J : Nat → Nat → Int64} {b : Bool} {a1 : Int32} {a2 : Int32} {a3 : Int32} {a5 : Int32} {Q : Option Value → am_H → Prop}  (wp : ((¬ a2 = (-1) → ∃ j2, ((7 * a1) + a5) = nI j2 ∧ j2 < 49 ∧ ∃ j3, ((7 * a1) + a2) = nI j3 ∧ j3 < 49 ∧ ((0 < ((I 50 j2) - (I 50 j3)) → am_R E mX10_hint 197 [some (.ref 48), some (.int a1), some (.int a5), some (.int a3), none, none, none] [] (hp I J b) 64 64 Q) ∧ (¬ 0 < ((I 50 j2) - (I 50 j3)) → ((¬ ((I 50 j2) - (I 50 j3)) = 0 → am_R E mX10_hint 197 [some (.ref 48), some (.int a1), some (.int a2), some (.int a3), none, none, none] [] (hp I J b) 64 64 Q) ∧ (((I 50 j2) - (I 50 j3)) = 0 → ((a2 ≤ a5 → am_R E mX10_hint 197 [some (.ref 48), some (.int a1), some (.int a2), some (.int a3), none, none, none] [] (hp I J b) 64 64 Q) ∧ (¬ a2 ≤ a5 → am_R E mX10_hint 197 [some (.ref 48), some (.int a1), some (.int a5), some (.int a3), none, none, none] [] (hp I J b) 64 64 Q))))))) ∧ (a2 = (-1) → am_R E mX10_hint 197 [some (.ref 48), some (.int a1), some (.int a5), some (.int a3), none, none, none] [] (hp I J b) 64 64 Q))) : am_R E mX10_hint 139 [some (.ref 48), some (.int a1), some (.int a2), some (.int a3), none, some (.int a5), none] [] (hp I J b) 64 64 Q := by
  refine am_iload_n rfl rfl dX10_hint_139 ?_
  refine am_iconst (-1) rfl dX10_hint_140 ?_
  refine am_icmp_ne dX10_hint_141 (tgt := 148) rfl (fun hc1 => ?_) (fun hc1 => ?_)
  · have wp := wp.1 hc1
    refine am_aload_n rfl rfl dX10_hint_148 ?_
    refine am_getA (r := 50) dX10_hint_149 flX10_20 (Or.inr ⟨_, rfl⟩) rfl (by decide) rfl ?_
    refine am_bipush 7 rfl dX10_hint_152 ?_
    refine am_iload_n rfl rfl dX10_hint_154 ?_
    refine am_imul dX10_hint_155 ?_
    refine am_iload rfl dX10_hint_156 ?_
    refine am_iadd dX10_hint_158 ?_
    obtain ⟨j2, e2, w2, wp⟩ := wp
    refine am_ialdN (j := j2) dX10_hint_159 rfl (by decide) e2 w2 (by decide) ?_
    refine am_aload_n rfl rfl dX10_hint_160 ?_
    refine am_getA (r := 50) dX10_hint_161 flX10_20 (Or.inr ⟨_, rfl⟩) rfl (by decide) rfl ?_
    refine am_bipush 7 rfl dX10_hint_164 ?_
    refine am_iload_n rfl rfl dX10_hint_166 ?_
    refine am_imul dX10_hint_167 ?_
    refine am_iload_n rfl rfl dX10_hint_168 ?_
    refine am_iadd dX10_hint_169 ?_
    obtain ⟨j3, e3, w3, wp⟩ := wp
    refine am_ialdN (j := j3) dX10_hint_170 rfl (by decide) e3 w3 (by decide) ?_
    refine am_isub dX10_hint_171 ?_
    refine am_istore (ls' := [some (.ref 48), some (.int a1), some (.int a2), some (.int a3), none, some (.int a5), some (.int ((I 50 j2) - (I 50 j3)))]) (by decide) rfl rfl dX10_hint_172 ?_
    refine am_iload rfl dX10_hint_174 ?_
    refine am_if_gt dX10_hint_176 (tgt := 190) rfl (fun hc4 => ?_) (fun hc4 => ?_)
    · have wp := wp.1 hc4
      refine am_iload rfl dX10_hint_190 ?_
      refine am_goto dX10_hint_192 (tgt := 196) rfl ?_
      refine am_istore_n (ls' := [some (.ref 48), some (.int a1), some (.int a5), some (.int a3), none, some (.int a5), some (.int ((I 50 j2) - (I 50 j3)))]) rfl (by decide) rfl rfl dX10_hint_196 ?_
      exact am_R.forget wp ⟨rfl, ⟨rfl, ⟨rfl, ⟨rfl, trivial⟩⟩⟩⟩
    · have wp := wp.2 hc4
      refine am_iload rfl dX10_hint_179 ?_
      refine am_if_ne dX10_hint_181 (tgt := 195) rfl (fun hc5 => ?_) (fun hc5 => ?_)
      · have wp := wp.1 hc5
        refine am_iload_n rfl rfl dX10_hint_195 ?_
        refine am_istore_n (ls' := [some (.ref 48), some (.int a1), some (.int a2), some (.int a3), none, some (.int a5), some (.int ((I 50 j2) - (I 50 j3)))]) rfl (by decide) rfl rfl dX10_hint_196 ?_
        exact am_R.forget wp ⟨rfl, ⟨rfl, ⟨rfl, ⟨rfl, trivial⟩⟩⟩⟩
      · have wp := wp.2 hc5
        refine am_iload rfl dX10_hint_184 ?_
        refine am_iload_n rfl rfl dX10_hint_186 ?_
        refine am_icmp_ge dX10_hint_187 (tgt := 195) rfl (fun hc6 => ?_) (fun hc6 => ?_)
        · have wp := wp.1 hc6
          refine am_iload_n rfl rfl dX10_hint_195 ?_
          refine am_istore_n (ls' := [some (.ref 48), some (.int a1), some (.int a2), some (.int a3), none, some (.int a5), some (.int ((I 50 j2) - (I 50 j3)))]) rfl (by decide) rfl rfl dX10_hint_196 ?_
          exact am_R.forget wp ⟨rfl, ⟨rfl, ⟨rfl, ⟨rfl, trivial⟩⟩⟩⟩
        · have wp := wp.2 hc6
          refine am_iload rfl dX10_hint_190 ?_
          refine am_goto dX10_hint_192 (tgt := 196) rfl ?_
          refine am_istore_n (ls' := [some (.ref 48), some (.int a1), some (.int a5), some (.int a3), none, some (.int a5), some (.int ((I 50 j2) - (I 50 j3)))]) rfl (by decide) rfl rfl dX10_hint_196 ?_
          exact am_R.forget wp ⟨rfl, ⟨rfl, ⟨rfl, ⟨rfl, trivial⟩⟩⟩⟩
  · have wp := wp.2 hc1
    refine am_iconst 1 rfl dX10_hint_144 ?_
    refine am_goto dX10_hint_145 (tgt := 172) rfl ?_
    refine am_istore (ls' := [some (.ref 48), some (.int a1), some (.int a2), some (.int a3), none, some (.int a5), some (.int 1)]) (by decide) rfl rfl dX10_hint_172 ?_
    refine am_iload rfl dX10_hint_174 ?_
    refine am_if_gt dX10_hint_176 (tgt := 190) rfl (fun _ => ?_) (fun hc => absurd hc (by decide))
    refine am_iload rfl dX10_hint_190 ?_
    refine am_goto dX10_hint_192 (tgt := 196) rfl ?_
    refine am_istore_n (ls' := [some (.ref 48), some (.int a1), some (.int a5), some (.int a3), none, some (.int a5), some (.int 1)]) rfl (by decide) rfl rfl dX10_hint_196 ?_
    exact am_R.forget wp ⟨rfl, ⟨rfl, ⟨rfl, ⟨rfl, trivial⟩⟩⟩⟩
theorem bX10_hint_197 {E : Nat × (Nat → Int32)} {I : Nat → Nat → Int32} {J : Nat → Nat → Int64} {b : Bool} {a1 : Int32} {a2 : Int32} {a3 : Int32} {Q : Option Value → am_H → Prop}  (wp : am_R E mX10_nextWanted 0 [some (.ref 48), some (.int (a3 + 1)), some (.int (I 48 1)), none, none] [] (hp I J b) 64 64 (fun r h' => am_R E mX10_hint 208 [some (.ref 48), some (.int a1), some (.int a2), none, none, none, none] (r.toList ++ []) h' 64 64 Q)) : am_R E mX10_hint 197 [some (.ref 48), some (.int a1), some (.int a2), some (.int a3), none, none, none] [] (hp I J b) 64 64 Q := by
  refine am_aload_n rfl rfl dX10_hint_197 ?_
  refine am_iload_n rfl rfl dX10_hint_198 ?_
  refine am_iconst 1 rfl dX10_hint_199 ?_
  refine am_iadd dX10_hint_200 ?_
  refine am_aload_n rfl rfl dX10_hint_201 ?_
  refine am_getI dX10_hint_202 flX10_13 (Or.inl rfl) rfl (by decide) ?_
  refine am_invV (ci := 8) (As := [.int (a3 + 1), .int (I 48 1)]) (lsZ := [some (.ref 48), some (.int (a3 + 1)), some (.int (I 48 1)), none, none]) (st := []) dX10_hint_205 hX10_nextWanted lkX10_217 ⟨by decide, by decide⟩ (by decide) rfl (by decide) rfl rfl rfl (Nat.le_of_ble_eq_true rfl) rfl (Nat.le_of_ble_eq_true rfl) ⟨Nat.le_refl _, Nat.le_refl _⟩ (am_R.mono wp (fun r h' q => am_R.forget q ⟨rfl, ⟨rfl, ⟨rfl, trivial⟩⟩⟩))
theorem bX10_hint_208 {E : Nat × (Nat → Int32)} {I : Nat → Nat → Int32} {J : Nat → Nat → Int64} {b : Bool} {a1 : Int32} {a2 : Int32} {x0 : Int32} {Q : Option Value → am_H → Prop}  (wp : am_R E mX10_hint 39 [some (.ref 48), some (.int a1), some (.int a2), some (.int x0), none, none, none] [] (hp I J b) 64 64 Q) : am_R E mX10_hint 208 [some (.ref 48), some (.int a1), some (.int a2), none, none, none, none] [.int x0] (hp I J b) 64 64 Q := by
  refine am_istore_n (ls' := [some (.ref 48), some (.int a1), some (.int a2), some (.int x0), none, none, none]) rfl (by decide) rfl rfl dX10_hint_208 ?_
  refine am_goto dX10_hint_209 (tgt := 39) rfl ?_
  exact am_R.forget wp ⟨rfl, ⟨rfl, ⟨rfl, ⟨rfl, trivial⟩⟩⟩⟩
theorem tX10_hint27 {by' m : Nat} {a1 : Int32} {p : Nat → Nat} (hN : Nn I n) (hY : Yw I n) (hR : Rw (I 58) p n) (hb : by' ≤ 3) (em : a1 = nI m) (hm : m < n) (eb : I 48 1 = nI by') (k : ∀ x y z, Q (some (.int (oI ((wl I n by' p 448).foldl (bst I p by' m) none)))) (hp (rg I x y z) J b)) : am_R E mX10_hint 27 [some (.ref 48), some (.int a1), none, none, none, none, none] [] (hp I J b) 64 64 Q := by
  subst em
  have h7 := hN.2.2
  have hm1 : ∀ e : Nat, e < 448 → ¬ nI e = (-1 : Int32) := by decide +kernel
  have key : ∀ (R : List Nat) (f : Nat) (best : Option Nat) (x y z : Int32), wr I n by' p f = R → f ≤ 448 → (∀ e, best = some e → e < n) → R.foldl (bst I p by' m) best = (wl I n by' p 448).foldl (bst I p by' m) none → ∀ Kc : Option Value → am_H → Prop, (∀ v I', am_R E mX10_hint 39 [some (.ref 48), some (.int (nI m)), some (.int (oI best)), some (.int v), none, none, none] [] (hp I' J b) 64 64 Q → Kc (some (.int v)) (hp I' J b)) → am_R E mX10_nextWanted 0 [some (.ref 48), some (.int (nI f)), some (.int (I 48 1)), none, none] [] (hp (rg I x y z) J b) 64 64 Kc := by
    intro R
    induction R with
    | nil =>
      intro f best x y z hR0 hf hbst hfin Kc hK
      refine tX10_nextWanted (I := rg I x y z) (n := n) (f := f) (p := p) hN hY hR rfl hf eb hb (fun hno x' y' z' => ?_) (fun c h1 h2 hw hno => ?_)
      · rw [rg_rg]
        refine hK _ _ (bX10_hint_39 ⟨fun _ => ?_, fun h => absurd rfl h⟩)
        have := k x' y' z'
        rw [← hfin] at this
        exact this
      · rw [wr_some (I := I) h1 h2 hw hno] at hR0; cases hR0
    | cons c0 R ih =>
      intro f best x y z hR0 hf hbst hfin Kc hK
      refine tX10_nextWanted (I := rg I x y z) (n := n) (f := f) (p := p) hN hY hR rfl hf eb hb (fun hno x' y' z' => ?_) (fun c h1 h2 hw hno => ?_)
      · rw [wr_none (I := I) hno] at hR0; cases hR0
      · rw [wr_some (I := I) h1 h2 hw hno] at hR0
        have hw : wc I n by' p c := hw
        injection hR0 with hc0 hR1
        subst hc0
        rw [rg_rg]
        rw [List.foldl_cons] at hfin
        refine hK _ _ (bX10_hint_39 ⟨fun q => absurd q (hm1 c h2), fun _ => ?_⟩)
        have go : ∀ best2, best2 = bst I p by' m best c → am_R E mX10_hint 197 [some (.ref 48), some (.int (nI m)), some (.int (oI best2)), some (.int (nI c)), none, none, none] [] (hp (rg I (nI (c / 64)) (nI (c / 8 % 8)) (if by' = 2 then -1 else nI (c % 8))) J b) 64 64 Q := by
          intro best2 eb2
          subst eb2
          refine bX10_hint_197 ?_
          rw [n1]
          exact ih (c + 1) _ _ _ _ hR1 (by omega) (bst_lt (fun i hi => (hR i hi).2) hw hbst) hfin _ (fun v I' h => bX10_hint_208 h)
        have gog : ∀ g, gv by' c m = some g → ∀ r : Int32, r = nI (p g) → am_R E mX10_hint 139 [some (.ref 48), some (.int (nI m)), some (.int (oI best)), some (.int (nI c)), none, some (.int r), none] [] (hp (rg I (nI (c / 64)) (nI (c / 8 % 8)) (if by' = 2 then -1 else nI (c % 8))) J b) 64 64 Q := by
          intro g hg r hr
          subst hr
          have hgn := gv_lt hw hg
          have hpg := (hR g hgn).2
          have e2 : bst I p by' m best c = bt I m best (p g) := by unfold bst; rw [hg]
          refine bX10_hint_139 ⟨fun q => ?_, fun q => ?_⟩
          · cases best with
            | none => exact absurd rfl q
            | some e =>
              have he := hbst e rfl
              have e3 : bst I p by' m (some e) c = if 0 < I 50 (7 * m + p g) - I 50 (7 * m + e) ∨ (I 50 (7 * m + p g) - I 50 (7 * m + e) = 0 ∧ p g < e) then some (p g) else some e := e2
              refine ⟨7 * m + p g, k7 _ _, by omega, 7 * m + e, k7 _ _, by omega, fun w => ?_, fun w => ⟨fun w2 => ?_, fun w2 => ?_⟩⟩
              · exact go (some (p g)) (e3.trans (if_pos (Or.inl w))).symm
              · exact go (some e) (e3.trans (if_neg (fun z => z.elim w (fun z => w2 z.1)))).symm
              · exact le_br (n := e) (m := p g) rfl rfl (by omega) (by omega) (fun w3 => go (some e) (e3.trans (if_neg (fun z => z.elim w (fun z => by omega)))).symm) (fun w3 => go (some (p g)) (e3.trans (if_pos (Or.inr ⟨w2, w3⟩))).symm)
          · have := (oI_m1 h7 hbst).mp q
            subst this
            exact go (some (p g)) (by rw [e2]; rfl)
        have goN : gv by' c m = none → am_R E mX10_hint 197 [some (.ref 48), some (.int (nI m)), some (.int (oI best)), some (.int (nI c)), none, none, none] [] (hp (rg I (nI (c / 64)) (nI (c / 8 % 8)) (if by' = 2 then -1 else nI (c % 8))) J b) 64 64 Q := fun hg => go best (by unfold bst; rw [hg])
        have r26 : rg I (nI (c / 64)) (nI (c / 8 % 8)) (if by' = 2 then -1 else nI (c % 8)) 48 26 = nI (c / 64) := rfl
        have r27 : rg I (nI (c / 64)) (nI (c / 8 % 8)) (if by' = 2 then -1 else nI (c % 8)) 48 27 = nI (c / 8 % 8) := rfl
        have r28 : rg I (nI (c / 64)) (nI (c / 8 % 8)) (if by' = 2 then -1 else nI (c % 8)) 48 28 = (if by' = 2 then -1 else nI (c % 8)) := rfl
        have hw0 := hw
        obtain ⟨q1, ⟨q2, q3, q4⟩, q5⟩ := hw
        rw [r26, r27, r28]
        refine eq_br (n := c / 64) (m := m) rfl rfl (by omega) (by omega) (fun z => ⟨c / 8 % 8, rfl, by omega, gog _ (by unfold gv; rw [if_pos z.symm]) _ (hR _ q4).1⟩) (fun z1 => ?_)
        refine eq_br (n := c / 8 % 8) (m := m) rfl rfl (by omega) (by omega) (fun z2 => ?_) (fun z2 => ?_)
        · by_cases b2 : by' = 2
          · rw [if_pos b2]
            refine ⟨fun w => absurd w.symm (hm1 m (by omega)), fun _ => ⟨fun w => absurd rfl w, fun _ => ⟨c / 64, rfl, by omega, ?_⟩⟩⟩
            have := gog (c / 64) (by unfold gv; rw [if_neg (Ne.symm z1), if_pos z2.symm, if_pos b2]) _ (hR _ q3).1
            rw [if_pos b2] at this
            exact this
          · have q6 : c % 8 ≠ c / 8 % 8 ∧ c % 8 < n := by
              rcases q5 with ⟨e, -⟩ | ⟨-, ⟨e1, e2, e3⟩, -⟩
              · exact absurd e b2
              · exact ⟨e2, e3⟩
            have := gog (c % 8) (by unfold gv; rw [if_neg (Ne.symm z1), if_pos z2.symm, if_neg b2]) _ (hR _ q6.2).1
            rw [if_neg b2] at this ⊢
            exact eq_br (n := c % 8) (m := m) rfl rfl (by omega) (by omega) (fun w => by omega) (fun _ => ⟨fun _ => ⟨c % 8, rfl, by omega, this⟩, fun w => absurd w (hm1 _ (by omega))⟩)
        · by_cases b2 : by' = 2
          · have := goN (by unfold gv; rw [if_neg (Ne.symm z1), if_neg (Ne.symm z2), if_neg (fun w => w.1 b2)])
            rw [if_pos b2] at this ⊢
            exact ⟨fun _ => this, fun w => absurd w.symm (hm1 m (by omega))⟩
          · have g1 : m = c % 8 → _ := fun w => gog (c / 64) (by unfold gv; rw [if_neg (Ne.symm z1), if_neg (Ne.symm z2), if_pos ⟨b2, w⟩]) _ (hR _ q3).1
            have g2 : ¬ m = c % 8 → _ := fun w => goN (by unfold gv; rw [if_neg (Ne.symm z1), if_neg (Ne.symm z2), if_neg (fun u => w u.2)])
            rw [if_neg b2] at g1 g2 ⊢
            exact ne_br (n := c % 8) (m := m) rfl rfl (by omega) (by omega) (fun w => ⟨c / 64, rfl, by omega, g1 w.symm⟩) (fun w => g2 (Ne.symm w))
  have h0 := key (wl I n by' p 448) 0 none (I 48 26) (I 48 27) (I 48 28) wr_0 (by omega) (fun e q => by cases q) rfl
  rw [rg_self] at h0
  exact bX10_hint_27 (h0 _ (fun v I' h => bX10_hint_38 h))
theorem wl_eq (h1 : I' 49 = I 49) (h0 : I' 50 = I 50) (h2 : I' 51 = I 51) (h3 : ∀ m, I' 55 (8 + m) = I 55 (8 + m)) : wl I' = wl I := by
  funext n by' p T
  unfold wl
  congr 1
  funext c
  exact decide_eq_decide.mpr (by rw [wc_eq h1 h0 h2 h3])
theorem bst_eq (h0 : I' 50 = I 50) : bst I' = bst I := by
  funext p by' m best c
  unfold bst bt
  rw [h0]
theorem p_hint (hI : Inv I n) (a1 : Int32) : Pair E mX9_hint mX10_hint [some (.ref 0), some (.int a1)] [some (.ref 48), some (.int a1), none, none, none, none, none] I J b := by
  have hI0 := hI
  obtain ⟨hM, hC⟩ := hI
  obtain ⟨hN, hG, -, hL, -, -, hD, -⟩ := hM
  obtain ⟨hCH, c2, -, -, -, c5, -⟩ := hC
  have e0 : I 4 0 = nI n := hCH.1
  have n0 := hN.1
  have n2 := hN.2.1
  have n7 := hN.2.2
  have hY : Yw I n := hD.2.2.1
  by_cases hk : 0 ≤ a1 ∧ a1 < nI n
  · have hk' := (in_mod (by omega) n7).mpr hk
    rcases hD.1 with z | z
    · exact Pair.same hI0 (.int (-4)) (fun Q h => bX9_hint_0 (by rw [e0]; exact ⟨fun _ => ⟨fun q => absurd (c5.1.trans z) q, fun _ => h⟩, fun q => absurd hk q⟩)) (fun J b Q h => bX10_hint_0 (by rw [n0]; exact ⟨fun _ => ⟨fun q => absurd z q, fun _ => h⟩, fun q => absurd hk' q⟩))
    · obtain ⟨m, hm, rfl⟩ := in_cls n7 hk
      obtain ⟨p, hp1, hp2⟩ := hD.2.1 z
      have nz1 : ¬ I 9 0 = 0 := by rw [c5.1, z]; decide
      have nz2 : ¬ I 55 0 = 0 := by rw [z]; decide
      have hR : Rw (I 10) p n := fun m hm => ⟨by rw [c5.2.2.1 z m hm]; exact hp1 m hm, hp2.1 m hm⟩
      obtain ⟨g, hg, eg⟩ : ∃ g : Nat, (g = 0 ∨ g = 2 ∨ g = 3) ∧ I 48 1 = nI g := by
        rcases hG with q | q | q
        · exact ⟨0, Or.inl rfl, q⟩
        · exact ⟨2, Or.inr (Or.inl rfl), q⟩
        · exact ⟨3, Or.inr (Or.inr rfl), q⟩
      refine ⟨.int (oI ((wl I n g p 448).foldl (bst I p g m) none)), fun I1 => ∃ F c, I1 = fh I F c, fun Q h => bX9_hint_0 ?_, fun I1 J1 b1 e Q h => ?_⟩
      · rw [e0]
        exact ⟨fun _ => ⟨fun _ => tX5_bestFor hCH hR hg rfl hm (c2.trans eg) (fun F c => bX9_hint_46 (h _ J b ⟨F, c, rfl⟩)), fun q => absurd q nz1⟩, fun q => absurd hk q⟩
      · obtain ⟨F, c, rfl⟩ := e
        refine bX10_hint_0 ?_
        rw [show fh I F c 48 = I 48 from rfl, n0]
        refine ⟨fun _ => ⟨fun _ => tX10_takeToday (n := n) hN ?_, fun q => absurd q nz2⟩, fun q => absurd hk' q⟩
        refine tX10_hint27 (n := n) (by' := g) (p := p) hN hY (by rw [u1_s]; exact tk_rw (I := fh I F c) n7 hp1 hp2) (by omega) rfl hm eg (fun x y z => ?_)
        rw [wl_eq (I := I) (I' := u1 (fh I F c) 58 (va_cpy (fh I F c 55) (fh I F c 58) 1 0 n)) rfl rfl rfl (fun _ => rfl), bst_eq (I := I) (I' := u1 (fh I F c) 58 (va_cpy (fh I F c 55) (fh I F c 58) 1 0 n)) rfl]
        exact h _ J1 b1 n (hI0.sa ⟨⟨⟨rfl, rfl, rfl, rfl, rfl, rfl, rfl, rfl, rfl⟩, ⟨rfl, rfl, rfl, rfl, rfl, rfl, rfl, rfl, rfl, rfl, rfl, rfl, rfl, rfl, rfl, rfl⟩, ⟨rfl, rfl, rfl, rfl, rfl, rfl, rfl, rfl, rfl⟩⟩, ⟨rfl, rfl, rfl, rfl⟩⟩)
  · have hk' : ¬ (0 ≤ a1 ∧ a1 ≤ nI n - 1) := fun q => hk ((in_mod (by omega) n7).mp q)
    exact Pair.same hI0 (.int (-2)) (fun Q h => bX9_hint_0 (by rw [e0]; exact ⟨fun q => absurd q hk, fun _ => h⟩)) (fun J b Q h => bX10_hint_0 (by rw [n0]; exact ⟨fun q => absurd q hk', fun _ => h⟩))
end P8
