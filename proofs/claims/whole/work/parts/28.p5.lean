/-! ===== pairs: draw, trade ===== -/
section P5
variable {E : Nat × (Nat → Int32)} {I I' : Nat → Nat → Int32} {J : Nat → Nat → Int64} {b : Bool} {n : Nat} {Q : Option Value → am_H → Prop}
/-- a row mixed from the place i down -/
def shf : Nat → Nat → (Nat → Nat) → Nat × (Nat → Nat)
  | 0, x, p => (x, p)
  | i + 1, x, p => shf i (16807 * x % 65521) (sw2 p (i + 1) (16807 * x % 65521 % (i + 2)))
theorem shf_ok : ∀ (i x : Nat) (p : Nat → Nat), i < n → x < 65521 → Pm p n → (shf i x p).1 < 65521 ∧ Pm (shf i x p).2 n
  | 0, x, p, _, hx, h => ⟨hx, h⟩
  | i + 1, x, p, hi, hx, h => by
    have h1 := Nat.mod_lt (16807 * x) (show 0 < 65521 by decide)
    have h2 := Nat.mod_lt (16807 * x % 65521) (show 0 < i + 2 by omega)
    exact shf_ok i _ _ (by omega) h1 (h.s2 (by omega) (by omega))
theorem Rw.s2 {g : Nat → Int32} {p : Nat → Nat} {x y : Nat} (h : Rw g p n) (hx : x < n) (hy : y < n) : Rw (sw2 g x y) (sw2 p x y) n := by
  intro m hm
  unfold sw2 va_up
  split
  · exact h x hx
  · split
    · exact h y hy
    · exact h m hm
theorem Rw.s3 {g : Nat → Int32} {p : Nat → Nat} {x y z : Nat} (h : Rw g p n) (hx : x < n) (hy : y < n) (hz : z < n) : Rw (sw3 g x y z) (sw3 p x y z) n := by
  intro m hm
  unfold sw3 va_up
  split
  · exact h x hx
  · split
    · exact h z hz
    · split
      · exact h y hy
      · exact h m hm
theorem Pm.id : Pm (fun i => i) n := ⟨fun i hi => hi, fun i j h _ e => by have e : i = j := e; omega⟩
theorem mx_num {i x : Nat} (hi : 1 ≤ i) (h7 : i < 7) (hx : x < 65521) : 16807 * nI x - 16807 * nI x / 65521 * 65521 = nI (16807 * x % 65521) ∧ nI (16807 * x % 65521) - nI (16807 * x % 65521) / (nI i + 1) * (nI i + 1) = nI (16807 * x % 65521 % (i + 1)) ∧ ¬ nI i + 1 = 0 ∧ nI i + (-1) = nI (i - 1) := by
  have h1 := Nat.mod_lt (16807 * x) (show 0 < 65521 by decide)
  refine ⟨?_, ?_, ?_, ?_⟩
  · rw [show (16807 : Int32) = nI 16807 from rfl, show (65521 : Int32) = nI 65521 from rfl, pk_mul, pk_rem (by omega) (by omega) (by omega)]
  · rw [n1, pk_rem (by omega) (by omega) (by omega)]
  · rw [n1]; exact nI_ne0 (by omega) (by omega)
  · rw [show nI i + (-1 : Int32) = nI i - nI 1 by rw [Int32.sub_eq_add_neg]; rfl, pk_sub hi]
theorem bX3_mix_0 {E : Nat × (Nat → Int32)} {I : Nat → Nat → Int32} {J : Nat → Nat → Int64} {b : Bool} {a1 : Int32} {a2 : Int32} {Q : Option Value → am_H → Prop}  (wp : am_R E mX3_mix 5 [some (.ref 47), some (.int a1), none, some (.int a2), some (.int 0), none, none] [] (hp I J b) 64 64 Q) : am_R E mX3_mix 0 [some (.ref 47), some (.int a1), some (.int a2), none, none, none, none] [] (hp I J b) 64 64 Q := by
  refine am_iload_n rfl rfl dX3_mix_0 ?_
  refine am_istore_n (ls' := [some (.ref 47), some (.int a1), some (.int a2), some (.int a2), none, none, none]) rfl (by decide) rfl rfl dX3_mix_1 ?_
  refine am_iconst 0 rfl dX3_mix_2 ?_
  refine am_istore (ls' := [some (.ref 47), some (.int a1), some (.int a2), some (.int a2), some (.int 0), none, none]) (by decide) rfl rfl dX3_mix_3 ?_
  exact am_R.forget wp ⟨rfl, ⟨rfl, ⟨rfl, ⟨rfl, trivial⟩⟩⟩⟩
theorem bX3_mix_5 {E : Nat × (Nat → Int32)} {I : Nat → Nat → Int32} {J : Nat → Nat → Int64} {b : Bool} {a1 : Int32} {a3 : Int32} {a4 : Int32} {Q : Option Value → am_H → Prop}  (wp : ((a1 ≤ a4 → am_R E mX3_mix 28 [some (.ref 47), none, none, some (.int a3), some (.int (a1 - 1)), none, none] [] (hp I J b) 64 64 Q) ∧ (¬ a1 ≤ a4 → ∃ j2, a4 = nI j2 ∧ j2 < 7 ∧ am_R E mX3_mix 5 [some (.ref 47), some (.int a1), none, some (.int a3), some (.int (a4 + 1)), none, none] [] (hp (u2 I 47 j2 a4) J b) 64 64 Q))) : am_R E mX3_mix 5 [some (.ref 47), some (.int a1), none, some (.int a3), some (.int a4), none, none] [] (hp I J b) 64 64 Q := by
  refine am_iload rfl dX3_mix_5 ?_
  refine am_iload_n rfl rfl dX3_mix_7 ?_
  refine am_icmp_ge dX3_mix_8 (tgt := 23) rfl (fun hc1 => ?_) (fun hc1 => ?_)
  · have wp := wp.1 hc1
    refine am_iload_n rfl rfl dX3_mix_23 ?_
    refine am_iconst 1 rfl dX3_mix_24 ?_
    refine am_isub dX3_mix_25 ?_
    refine am_istore (ls' := [some (.ref 47), some (.int a1), none, some (.int a3), some (.int (a1 - 1)), none, none]) (by decide) rfl rfl dX3_mix_26 ?_
    exact am_R.forget wp ⟨rfl, ⟨rfl, ⟨rfl, trivial⟩⟩⟩
  · have wp := wp.2 hc1
    refine am_aload_n rfl rfl dX3_mix_11 ?_
    refine am_iload rfl dX3_mix_12 ?_
    refine am_iload rfl dX3_mix_14 ?_
    obtain ⟨j2, e2, w2, wp⟩ := wp
    refine am_iastN (j := j2) dX3_mix_16 rfl (by decide) e2 w2 (by decide) ?_
    refine am_iinc (ls' := [some (.ref 47), some (.int a1), none, some (.int a3), some (.int (a4 + 1)), none, none]) (by decide) rfl rfl rfl dX3_mix_17 ?_
    refine am_goto dX3_mix_20 (tgt := 5) rfl ?_
    exact am_R.forget wp ⟨rfl, ⟨rfl, ⟨rfl, ⟨rfl, trivial⟩⟩⟩⟩
theorem bX3_mix_28 {E : Nat × (Nat → Int32)} {I : Nat → Nat → Int32} {J : Nat → Nat → Int64} {b : Bool} {a3 : Int32} {a4 : Int32} {Q : Option Value → am_H → Prop}  (wp : ((a4 < 1 → Q (some (.int a3)) (hp I J b)) ∧ (¬ a4 < 1 → ¬ (a4 + 1) = 0 ∧ ∃ j3, a4 = nI j3 ∧ j3 < 7 ∧ ∃ j4, (((16807 * a3) - (16807 * a3) / 65521 * 65521) - ((16807 * a3) - (16807 * a3) / 65521 * 65521) / (a4 + 1) * (a4 + 1)) = nI j4 ∧ j4 < 7 ∧ am_R E mX3_mix 28 [some (.ref 47), none, none, some (.int ((16807 * a3) - (16807 * a3) / 65521 * 65521)), some (.int (a4 + (-1))), none, none] [] (hp (u2 (u2 I 47 j3 (I 47 j4)) 47 j4 (I 47 j3)) J b) 64 64 Q))) : am_R E mX3_mix 28 [some (.ref 47), none, none, some (.int a3), some (.int a4), none, none] [] (hp I J b) 64 64 Q := by
  refine am_iload rfl dX3_mix_28 ?_
  refine am_iconst 1 rfl dX3_mix_30 ?_
  refine am_icmp_lt dX3_mix_31 (tgt := 77) rfl (fun hc1 => ?_) (fun hc1 => ?_)
  · have wp := wp.1 hc1
    refine am_iload_n rfl rfl dX3_mix_77 ?_
    exact am_iret dX3_mix_78 rfl rfl wp
  · have wp := wp.2 hc1
    refine am_sipush 16807 rfl dX3_mix_34 ?_
    refine am_iload_n rfl rfl dX3_mix_37 ?_
    refine am_imul dX3_mix_38 ?_
    refine am_ldc 65521 kcX3_19 dX3_mix_39 ?_
    refine am_irem (by decide) dX3_mix_41 ?_
    refine am_istore_n (ls' := [some (.ref 47), none, none, some (.int ((16807 * a3) - (16807 * a3) / 65521 * 65521)), some (.int a4), none, none]) rfl (by decide) rfl rfl dX3_mix_42 ?_
    refine am_iload_n rfl rfl dX3_mix_43 ?_
    refine am_iload rfl dX3_mix_44 ?_
    refine am_iconst 1 rfl dX3_mix_46 ?_
    refine am_iadd dX3_mix_47 ?_
    obtain ⟨w2, wp⟩ := wp
    refine am_irem w2 dX3_mix_48 ?_
    refine am_istore (ls' := [some (.ref 47), none, none, some (.int ((16807 * a3) - (16807 * a3) / 65521 * 65521)), some (.int a4), some (.int (((16807 * a3) - (16807 * a3) / 65521 * 65521) - ((16807 * a3) - (16807 * a3) / 65521 * 65521) / (a4 + 1) * (a4 + 1))), none]) (by decide) rfl rfl dX3_mix_49 ?_
    refine am_aload_n rfl rfl dX3_mix_51 ?_
    refine am_iload rfl dX3_mix_52 ?_
    obtain ⟨j3, e3, w3, wp⟩ := wp
    refine am_ialdN (j := j3) dX3_mix_54 rfl (by decide) e3 w3 (by decide) ?_
    refine am_istore (ls' := [some (.ref 47), none, none, some (.int ((16807 * a3) - (16807 * a3) / 65521 * 65521)), some (.int a4), some (.int (((16807 * a3) - (16807 * a3) / 65521 * 65521) - ((16807 * a3) - (16807 * a3) / 65521 * 65521) / (a4 + 1) * (a4 + 1))), some (.int (I 47 j3))]) (by decide) rfl rfl dX3_mix_55 ?_
    refine am_aload_n rfl rfl dX3_mix_57 ?_
    refine am_iload rfl dX3_mix_58 ?_
    refine am_aload_n rfl rfl dX3_mix_60 ?_
    refine am_iload rfl dX3_mix_61 ?_
    obtain ⟨j4, e4, w4, wp⟩ := wp
    refine am_ialdN (j := j4) dX3_mix_63 rfl (by decide) e4 w4 (by decide) ?_
    refine am_iastN (j := j3) dX3_mix_64 rfl (by decide) e3 w3 (by decide) ?_
    refine am_aload_n rfl rfl dX3_mix_65 ?_
    refine am_iload rfl dX3_mix_66 ?_
    refine am_iload rfl dX3_mix_68 ?_
    refine am_iastN (j := j4) dX3_mix_70 rfl (by decide) e4 w4 (by decide) ?_
    refine am_iinc (ls' := [some (.ref 47), none, none, some (.int ((16807 * a3) - (16807 * a3) / 65521 * 65521)), some (.int (a4 + (-1))), some (.int (((16807 * a3) - (16807 * a3) / 65521 * 65521) - ((16807 * a3) - (16807 * a3) / 65521 * 65521) / (a4 + 1) * (a4 + 1))), some (.int (I 47 j3))]) (by decide) rfl rfl rfl dX3_mix_71 ?_
    refine am_goto dX3_mix_74 (tgt := 28) rfl ?_
    exact am_R.forget wp ⟨rfl, ⟨rfl, ⟨rfl, trivial⟩⟩⟩
theorem tX3_mix {a1 a2 : Int32} {x : Nat} (h2 : 2 ≤ n) (h7 : n ≤ 7) (en : a1 = nI n) (ex : a2 = nI x) (hx : x < 65521) (k : ∀ f, Rw f (shf (n - 1) x (fun i => i)).2 n → Q (some (.int (nI (shf (n - 1) x (fun i => i)).1))) (hp (u1 I 47 f) J b)) : am_R E mX3_mix 0 [some (.ref 47), some (.int a1), some (.int a2), none, none, none, none] [] (hp I J b) 64 64 Q := by
  subst en; subst ex
  have lp2 : ∀ (i x : Nat) (p : Nat → Nat) (f : Nat → Int32), i < n → x < 65521 → Rw f p n → (∀ f, Rw f (shf i x p).2 n → Q (some (.int (nI (shf i x p).1))) (hp (u1 I 47 f) J b)) → am_R E mX3_mix 28 [some (.ref 47), none, none, some (.int (nI x)), some (.int (nI i)), none, none] [] (hp (u1 I 47 f) J b) 64 64 Q := by
    intro i
    induction i with
    | zero =>
      intro x p f _ hx hf hk
      exact bX3_mix_28 (lt_br (n := 0) (m := 1) rfl rfl (by omega) (by omega) (fun _ => hk f hf) (fun h => by omega))
    | succ i ih =>
      intro x p f hi hx hf hk
      obtain ⟨q1, q2, q3, q4⟩ := mx_num (i := i + 1) (x := x) (by omega) (by omega) hx
      have h1 := Nat.mod_lt (16807 * x) (show 0 < 65521 by decide)
      have hj := Nat.mod_lt (16807 * x % 65521) (show 0 < i + 1 + 1 by omega)
      refine bX3_mix_28 (lt_br (m := 1) rfl rfl (by omega) (by omega) (fun h => by omega) (fun _ => ⟨q3, i + 1, rfl, by omega, 16807 * x % 65521 % (i + 1 + 1), by rw [q1, q2], by omega, ?_⟩))
      rw [q1, q4, u1_s, u2_u1, u2_u1]
      exact ih (16807 * x % 65521) (sw2 p (i + 1) (16807 * x % 65521 % (i + 2))) _ (by omega) h1 (hf.s2 (by omega) (by omega)) hk
  have lp1 : ∀ j m, m + j = n → ∀ f : Nat → Int32, (∀ i, i < m → f i = nI i) → am_R E mX3_mix 5 [some (.ref 47), some (.int (nI n)), none, some (.int (nI x)), some (.int (nI m)), none, none] [] (hp (u1 I 47 f) J b) 64 64 Q := by
    intro j
    induction j with
    | zero =>
      intro m hm f hf
      have e : m = n := by omega
      subst e
      refine bX3_mix_5 (le_br rfl rfl (by omega) (by omega) (fun _ => ?_) (fun h => by omega))
      rw [show (1 : Int32) = nI 1 from rfl, pk_sub (by omega)]
      exact lp2 (m - 1) x (fun i => i) f (by omega) hx (fun i hi => ⟨hf i hi, hi⟩) k
    | succ j ih =>
      intro m hm f hf
      refine bX3_mix_5 (le_br rfl rfl (by omega) (by omega) (fun h => by omega) (fun _ => ⟨m, rfl, by omega, ?_⟩))
      rw [n1, u2_u1]
      refine ih (m + 1) (by omega) _ (fun i hi => ?_)
      unfold upd
      by_cases q : i = m
      · rw [if_pos q, q]
      · rw [if_neg q]; exact hf i (by omega)
  have := lp1 n 0 (by omega) (I 47) (fun i hi => by omega)
  rw [u1_self] at this
  exact bX3_mix_0 this
/-- the draws of a seed, till one is lawful -/
def dS (I : Nat → Nat → Int32) (n : Nat) : Nat → Nat → Nat → Option (Nat × (Nat → Nat))
  | 0, _, _ => none
  | f + 1, t, x => if decide (∀ m, m < n → my I m ((shf (n - 1) x (fun i => i)).2 m)) then some (t, (shf (n - 1) x (fun i => i)).2) else dS I n f (t + 1) (shf (n - 1) x (fun i => i)).1
theorem dS_pm (h2 : 2 ≤ n) : ∀ (f t x t' : Nat) (p : Nat → Nat), x < 65521 → dS I n f t x = some (t', p) → Pm p n
  | 0, _, _, _, _, _, h => by cases h
  | f + 1, t, x, t', p, hx, h => by
    obtain ⟨h3, h4⟩ := shf_ok (n := n) (n - 1) x (fun i => i) (by omega) hx Pm.id
    rw [dS] at h
    split at h
    · cases h; exact h4
    · exact dS_pm h2 f _ _ _ _ h3 h
theorem dS_eq (h1 : I' 49 = I 49) (h2 : I' 51 = I 51) (h3 : ∀ m, I' 55 (8 + m) = I 55 (8 + m)) : dS I' n = dS I n := by
  funext f
  induction f with
  | zero => rfl
  | succ f ih =>
    funext t x
    rw [dS, dS, ih]
    have e : decide (∀ m, m < n → my I' m ((shf (n - 1) x (fun i => i)).2 m)) = decide (∀ m, m < n → my I m ((shf (n - 1) x (fun i => i)).2 m)) := decide_eq_decide.mpr (by rw [my_eq h1 h2 h3])
    rw [e]
theorem bX9_draw_0 {E : Nat × (Nat → Int32)} {I : Nat → Nat → Int32} {J : Nat → Nat → Int64} {b : Bool} {a1 : Int32} {Q : Option Value → am_H → Prop}  (wp : ((a1 < 1 → Q (some (.int (-3))) (hp I J b)) ∧ (¬ a1 < 1 → ((a1 ≤ 9999 → am_R E mX9_draw 19 [some (.ref 0), none, some (.int a1), some (.int 1)] [] (hp I J b) 64 64 Q) ∧ (¬ a1 ≤ 9999 → Q (some (.int (-3))) (hp I J b)))))) : am_R E mX9_draw 0 [some (.ref 0), some (.int a1), none, none] [] (hp I J b) 64 64 Q := by
  refine am_iload_n rfl rfl dX9_draw_0 ?_
  refine am_iconst 1 rfl dX9_draw_1 ?_
  refine am_icmp_lt dX9_draw_2 (tgt := 12) rfl (fun hc1 => ?_) (fun hc1 => ?_)
  · have wp := wp.1 hc1
    refine am_bipush (-3) rfl dX9_draw_12 ?_
    exact am_iret dX9_draw_14 rfl rfl wp
  · have wp := wp.2 hc1
    refine am_iload_n rfl rfl dX9_draw_5 ?_
    refine am_sipush 9999 rfl dX9_draw_6 ?_
    refine am_icmp_le dX9_draw_9 (tgt := 15) rfl (fun hc2 => ?_) (fun hc2 => ?_)
    · have wp := wp.1 hc2
      refine am_iload_n rfl rfl dX9_draw_15 ?_
      refine am_istore_n (ls' := [some (.ref 0), some (.int a1), some (.int a1), none]) rfl (by decide) rfl rfl dX9_draw_16 ?_
      refine am_iconst 1 rfl dX9_draw_17 ?_
      refine am_istore_n (ls' := [some (.ref 0), some (.int a1), some (.int a1), some (.int 1)]) rfl (by decide) rfl rfl dX9_draw_18 ?_
      exact am_R.forget wp ⟨rfl, ⟨rfl, ⟨rfl, trivial⟩⟩⟩
    · have wp := wp.2 hc2
      refine am_bipush (-3) rfl dX9_draw_12 ?_
      exact am_iret dX9_draw_14 rfl rfl wp
theorem bX9_draw_19 {E : Nat × (Nat → Int32)} {I : Nat → Nat → Int32} {J : Nat → Nat → Int64} {b : Bool} {a2 : Int32} {a3 : Int32} {Q : Option Value → am_H → Prop}  (wp : ((50 < a3 → Q (some (.int (-4))) (hp I J b)) ∧ (¬ 50 < a3 → am_R E mX3_mix 0 [some (.ref 47), some (.int (I 4 0)), some (.int a2), none, none, none, none] [] (hp I J b) 64 64 (fun r h' => am_R E mX9_draw 40 [some (.ref 0), none, none, some (.int a3)] (r.toList ++ []) h' 64 64 Q)))) : am_R E mX9_draw 19 [some (.ref 0), none, some (.int a2), some (.int a3)] [] (hp I J b) 64 64 Q := by
  refine am_iload_n rfl rfl dX9_draw_19 ?_
  refine am_bipush 50 rfl dX9_draw_20 ?_
  refine am_icmp_gt dX9_draw_22 (tgt := 74) rfl (fun hc1 => ?_) (fun hc1 => ?_)
  · have wp := wp.1 hc1
    refine am_bipush (-4) rfl dX9_draw_74 ?_
    exact am_iret dX9_draw_76 rfl rfl wp
  · have wp := wp.2 hc1
    refine am_aload_n rfl rfl dX9_draw_25 ?_
    refine am_getA (r := 47) dX9_draw_26 flX9_72 (Or.inr ⟨_, rfl⟩) rfl (by decide) rfl ?_
    refine am_aload_n rfl rfl dX9_draw_29 ?_
    refine am_getA (r := 4) dX9_draw_30 flX9_19 (Or.inl ⟨_, rfl⟩) rfl (by decide) rfl ?_
    refine am_getI dX9_draw_33 flX9_102 (Or.inl rfl) rfl (by decide) ?_
    refine am_iload_n rfl rfl dX9_draw_36 ?_
    refine am_invS (As := [.ref 47, .int (I 4 0), .int a2]) (lsZ := [some (.ref 47), some (.int (I 4 0)), some (.int a2), none, none, none, none]) (st := []) dX9_draw_37 hX3_mix lkX9_156 ⟨by decide, by decide⟩ rfl rfl (Nat.le_of_ble_eq_true rfl) rfl (Nat.le_of_ble_eq_true rfl) ⟨Nat.le_refl _, Nat.le_refl _⟩ (am_R.mono wp (fun r h' q => am_R.forget q ⟨rfl, ⟨rfl, trivial⟩⟩))
theorem bX9_draw_40 {E : Nat × (Nat → Int32)} {I : Nat → Nat → Int32} {J : Nat → Nat → Int64} {b : Bool} {a3 : Int32} {x0 : Int32} {Q : Option Value → am_H → Prop}  (wp : am_R E mX5_allMayDo 0 [some (.ref 23), some (.ref 47), none] [] (hp I J b) 64 64 (fun r h' => am_R E mX9_draw 52 [some (.ref 0), none, some (.int x0), some (.int a3)] (r.toList ++ []) h' 64 64 Q)) : am_R E mX9_draw 40 [some (.ref 0), none, none, some (.int a3)] [.int x0] (hp I J b) 64 64 Q := by
  refine am_istore_n (ls' := [some (.ref 0), none, some (.int x0), some (.int a3)]) rfl (by decide) rfl rfl dX9_draw_40 ?_
  refine am_aload_n rfl rfl dX9_draw_41 ?_
  refine am_getA (r := 23) dX9_draw_42 flX9_43 (Or.inl ⟨_, rfl⟩) rfl (by decide) rfl ?_
  refine am_aload_n rfl rfl dX9_draw_45 ?_
  refine am_getA (r := 47) dX9_draw_46 flX9_72 (Or.inr ⟨_, rfl⟩) rfl (by decide) rfl ?_
  refine am_invV (ci := 3) (As := [.ref 47]) (lsZ := [some (.ref 23), some (.ref 47), none]) (st := []) dX9_draw_49 hX5_allMayDo lkX9_149 ⟨by decide, by decide⟩ (by decide) rfl (by decide) rfl rfl rfl (Nat.le_of_ble_eq_true rfl) rfl (Nat.le_of_ble_eq_true rfl) ⟨Nat.le_refl _, Nat.le_refl _⟩ (am_R.mono wp (fun r h' q => am_R.forget q ⟨rfl, ⟨rfl, ⟨rfl, trivial⟩⟩⟩))
theorem bX9_draw_52 {E : Nat × (Nat → Int32)} {I : Nat → Nat → Int32} {J : Nat → Nat → Int64} {b : Bool} {a2 : Int32} {a3 : Int32} {x0 : Int32} {Q : Option Value → am_H → Prop}  (wp : ((x0 = 0 → am_R E mX9_draw 19 [some (.ref 0), none, some (.int a2), some (.int (a3 + 1))] [] (hp I J b) 64 64 Q) ∧ (¬ x0 = 0 → am_R E mX1_give 0 [some (.ref 9), some (.ref 47)] [] (hp I J b) 64 64 (fun r h' => am_R E mX9_draw 66 [none, none, none, some (.int a3)] (r.toList ++ []) h' 64 64 Q)))) : am_R E mX9_draw 52 [some (.ref 0), none, some (.int a2), some (.int a3)] [.int x0] (hp I J b) 64 64 Q := by
  refine am_if_eq dX9_draw_52 (tgt := 68) rfl (fun hc1 => ?_) (fun hc1 => ?_)
  · have wp := wp.1 hc1
    refine am_iinc (ls' := [some (.ref 0), none, some (.int a2), some (.int (a3 + 1))]) (by decide) rfl rfl rfl dX9_draw_68 ?_
    refine am_goto dX9_draw_71 (tgt := 19) rfl ?_
    exact am_R.forget wp ⟨rfl, ⟨rfl, ⟨rfl, trivial⟩⟩⟩
  · have wp := wp.2 hc1
    refine am_aload_n rfl rfl dX9_draw_55 ?_
    refine am_getA (r := 9) dX9_draw_56 flX9_26 (Or.inl ⟨_, rfl⟩) rfl (by decide) rfl ?_
    refine am_aload_n rfl rfl dX9_draw_59 ?_
    refine am_getA (r := 47) dX9_draw_60 flX9_72 (Or.inr ⟨_, rfl⟩) rfl (by decide) rfl ?_
    refine am_invV (ci := 0) (As := [.ref 47]) (lsZ := [some (.ref 9), some (.ref 47)]) (st := []) dX9_draw_63 hX1_give lkX9_153 ⟨by decide, by decide⟩ (by decide) rfl (by decide) rfl rfl rfl (Nat.le_of_ble_eq_true rfl) rfl (Nat.le_of_ble_eq_true rfl) ⟨Nat.le_refl _, Nat.le_refl _⟩ (am_R.mono wp (fun r h' q => am_R.forget q ⟨rfl, trivial⟩))
theorem bX9_draw_66 {E : Nat × (Nat → Int32)} {I : Nat → Nat → Int32} {J : Nat → Nat → Int64} {b : Bool} {a3 : Int32} {Q : Option Value → am_H → Prop}  (wp : Q (some (.int a3)) (hp I J b)) : am_R E mX9_draw 66 [none, none, none, some (.int a3)] [] (hp I J b) 64 64 Q := by
  refine am_iload_n rfl rfl dX9_draw_66 ?_
  exact am_iret dX9_draw_67 rfl rfl wp
theorem tX9_draw19 (hC : CH I n) : ∀ f t x, t + f = 51 → x < 65521 → (dS I n f t x = none → ∀ g, Q (some (.int (-4))) (hp (u1 I 47 g) J b)) → (∀ t' p, dS I n f t x = some (t', p) → ∀ g, Rw g p n → Q (some (.int (nI t'))) (hp (u2 (u1 (u1 I 47 g) 10 (va_cpy g (I 10) 0 0 7)) 9 0 1) J b)) → ∀ g, am_R E mX9_draw 19 [some (.ref 0), none, some (.int (nI x)), some (.int (nI t))] [] (hp (u1 I 47 g) J b) 64 64 Q := by
  have r47 : rowc 47 := Or.inr (Or.inr (Or.inr (Or.inr (Or.inr (Or.inr (Or.inr rfl))))))
  intro f
  induction f with
  | zero =>
    intro t x ht hx kN kS g
    have e : t = 51 := by omega
    subst e
    exact bX9_draw_19 (lt_br (n := 50) rfl rfl (by omega) (by omega) (fun _ => kN rfl g) (fun h => by omega))
  | succ f ih =>
    intro t x ht hx kN kS g
    obtain ⟨h3, h4⟩ := shf_ok (n := n) (n - 1) x (fun i => i) (by have := hC.2.1; omega) hx Pm.id
    refine bX9_draw_19 (lt_br (n := 50) rfl rfl (by omega) (by omega) (fun h => by omega) (fun _ => ?_))
    refine tX3_mix (n := n) hC.2.1.1 hC.2.1.2 hC.1 rfl hx (fun f2 hf2 => ?_)
    rw [u1_u1]
    refine bX9_draw_40 (tX5_allMayDo (n := n) r47 (hC.row r47 f2) (by rw [u1_s]; exact hf2) (fun q => ?_) (fun q => ?_))
    · refine bX9_draw_52 ⟨fun z => absurd z (by decide), fun _ => bX1_give_0 (bX9_draw_66 ?_)⟩
      exact kS t _ (by rw [dS, decide_eq_true (show ∀ m, m < n → my I m ((shf (n - 1) x (fun i => i)).2 m) from q)]; rfl) f2 hf2
    · refine bX9_draw_52 ⟨fun _ => ?_, fun z => absurd rfl z⟩
      have e : dS I n (f + 1) t x = dS I n f (t + 1) (shf (n - 1) x (fun i => i)).1 := by
        rw [dS, decide_eq_false (show ¬ ∀ m, m < n → my I m ((shf (n - 1) x (fun i => i)).2 m) from q)]; rfl
      rw [e] at kN kS
      rw [n1]
      exact ih (t + 1) _ (by omega) h3 kN kS f2
theorem bX10_draw_0 {E : Nat × (Nat → Int32)} {I : Nat → Nat → Int32} {J : Nat → Nat → Int64} {b : Bool} {a1 : Int32} {Q : Option Value → am_H → Prop}  (wp : (((1 ≤ a1 ∧ a1 ≤ 9999) → am_R E mX10_draw 18 [some (.ref 48), none, some (.int a1), some (.int 1), none, none] [] (hp I J b) 64 64 Q) ∧ (¬ (1 ≤ a1 ∧ a1 ≤ 9999) → Q (some (.int (-3))) (hp I J b)))) : am_R E mX10_draw 0 [some (.ref 48), some (.int a1), none, none, none, none] [] (hp I J b) 64 64 Q := by
  refine am_iload_n rfl rfl dX10_draw_0 ?_
  refine am_iconst 1 rfl dX10_draw_1 ?_
  refine am_sipush 9999 rfl dX10_draw_2 ?_
  refine am_invS (As := [.int a1, .int 1, .int 9999]) (lsZ := [some (.int a1), some (.int 1), some (.int 9999)]) (st := []) dX10_draw_5 hX10_in lkX10_69 ⟨by decide, by decide⟩ rfl rfl (Nat.le_of_ble_eq_true rfl) rfl (Nat.le_of_ble_eq_true rfl) ⟨Nat.le_refl _, Nat.le_refl _⟩ (tX10_in  (fun hc1 => ?_) (fun hc1 => ?_))
  · have wp := wp.1 hc1
    show am_R E mX10_draw 8 [some (.ref 48), some (.int a1), none, none, none, none] [.int 1] (hp I J b) 64 64 Q
    refine am_if_ne dX10_draw_8 (tgt := 14) rfl (fun _ => ?_) (fun hc => absurd hc (by decide))
    refine am_iload_n rfl rfl dX10_draw_14 ?_
    refine am_istore_n (ls' := [some (.ref 48), some (.int a1), some (.int a1), none, none, none]) rfl (by decide) rfl rfl dX10_draw_15 ?_
    refine am_iconst 1 rfl dX10_draw_16 ?_
    refine am_istore_n (ls' := [some (.ref 48), some (.int a1), some (.int a1), some (.int 1), none, none]) rfl (by decide) rfl rfl dX10_draw_17 ?_
    exact am_R.forget wp ⟨rfl, ⟨rfl, ⟨rfl, trivial⟩⟩⟩
  · have wp := wp.2 hc1
    show am_R E mX10_draw 8 [some (.ref 48), some (.int a1), none, none, none, none] [.int 0] (hp I J b) 64 64 Q
    refine am_if_ne dX10_draw_8 (tgt := 14) rfl (fun hc => absurd hc (by decide)) (fun _ => ?_)
    refine am_bipush (-3) rfl dX10_draw_11 ?_
    exact am_iret dX10_draw_13 rfl rfl wp
theorem bX10_draw_18 {E : Nat × (Nat → Int32)} {I : Nat → Nat → Int32} {J : Nat → Nat → Int64} {b : Bool} {a2 : Int32} {a3 : Int32} {Q : Option Value → am_H → Prop}  (wp : ((50 < a3 → Q (some (.int (-4))) (hp I J b)) ∧ (¬ 50 < a3 → am_R E mX10_draw 27 [some (.ref 48), none, some (.int a2), some (.int a3), some (.int 0), none] [] (hp I J b) 64 64 Q))) : am_R E mX10_draw 18 [some (.ref 48), none, some (.int a2), some (.int a3), none, none] [] (hp I J b) 64 64 Q := by
  refine am_iload_n rfl rfl dX10_draw_18 ?_
  refine am_bipush 50 rfl dX10_draw_19 ?_
  refine am_icmp_gt dX10_draw_21 (tgt := 138) rfl (fun hc1 => ?_) (fun hc1 => ?_)
  · have wp := wp.1 hc1
    refine am_bipush (-4) rfl dX10_draw_138 ?_
    exact am_iret dX10_draw_140 rfl rfl wp
  · have wp := wp.2 hc1
    refine am_iconst 0 rfl dX10_draw_24 ?_
    refine am_istore (ls' := [some (.ref 48), none, some (.int a2), some (.int a3), some (.int 0), none]) (by decide) rfl rfl dX10_draw_25 ?_
    exact am_R.forget wp ⟨rfl, ⟨rfl, ⟨rfl, ⟨rfl, trivial⟩⟩⟩⟩
theorem bX10_draw_27 {E : Nat × (Nat → Int32)} {I : Nat → Nat → Int32} {J : Nat → Nat → Int64} {b : Bool} {a2 : Int32} {a3 : Int32} {a4 : Int32} {Q : Option Value → am_H → Prop}  (wp : (((I 48 0) ≤ a4 → am_R E mX10_draw 59 [some (.ref 48), none, some (.int a2), some (.int a3), some (.int ((I 48 0) - 1)), none] [] (hp I J b) 64 64 Q) ∧ (¬ (I 48 0) ≤ a4 → ∃ j2, a4 = nI j2 ∧ j2 < 7 ∧ am_R E mX10_draw 27 [some (.ref 48), none, some (.int a2), some (.int a3), some (.int (a4 + 1)), none] [] (hp (u2 I 58 j2 a4) J b) 64 64 Q))) : am_R E mX10_draw 27 [some (.ref 48), none, some (.int a2), some (.int a3), some (.int a4), none] [] (hp I J b) 64 64 Q := by
  refine am_iload rfl dX10_draw_27 ?_
  refine am_aload_n rfl rfl dX10_draw_29 ?_
  refine am_getI dX10_draw_30 flX10_7 (Or.inl rfl) rfl (by decide) ?_
  refine am_icmp_ge dX10_draw_33 (tgt := 51) rfl (fun hc1 => ?_) (fun hc1 => ?_)
  · have wp := wp.1 hc1
    refine am_aload_n rfl rfl dX10_draw_51 ?_
    refine am_getI dX10_draw_52 flX10_7 (Or.inl rfl) rfl (by decide) ?_
    refine am_iconst 1 rfl dX10_draw_55 ?_
    refine am_isub dX10_draw_56 ?_
    refine am_istore (ls' := [some (.ref 48), none, some (.int a2), some (.int a3), some (.int ((I 48 0) - 1)), none]) (by decide) rfl rfl dX10_draw_57 ?_
    exact am_R.forget wp ⟨rfl, ⟨rfl, ⟨rfl, ⟨rfl, trivial⟩⟩⟩⟩
  · have wp := wp.2 hc1
    refine am_aload_n rfl rfl dX10_draw_36 ?_
    refine am_getA (r := 58) dX10_draw_37 flX10_45 (Or.inr ⟨_, rfl⟩) rfl (by decide) rfl ?_
    refine am_iload rfl dX10_draw_40 ?_
    refine am_iload rfl dX10_draw_42 ?_
    obtain ⟨j2, e2, w2, wp⟩ := wp
    refine am_iastN (j := j2) dX10_draw_44 rfl (by decide) e2 w2 (by decide) ?_
    refine am_iinc (ls' := [some (.ref 48), none, some (.int a2), some (.int a3), some (.int (a4 + 1)), none]) (by decide) rfl rfl rfl dX10_draw_45 ?_
    refine am_goto dX10_draw_48 (tgt := 27) rfl ?_
    exact am_R.forget wp ⟨rfl, ⟨rfl, ⟨rfl, ⟨rfl, trivial⟩⟩⟩⟩
theorem bX10_draw_59 {E : Nat × (Nat → Int32)} {I : Nat → Nat → Int32} {J : Nat → Nat → Int64} {b : Bool} {a2 : Int32} {a3 : Int32} {a4 : Int32} {Q : Option Value → am_H → Prop}  (wp : ((a4 ≤ 0 → am_R E mX10_isLawful 0 [some (.ref 48), none, none] [] (hp I J b) 64 64 (fun r h' => am_R E mX10_draw 123 [some (.ref 48), none, some (.int a2), some (.int a3), none, none] (r.toList ++ []) h' 64 64 Q)) ∧ (¬ a4 ≤ 0 → ∃ j2, a4 = nI j2 ∧ j2 < 7 ∧ ¬ (a4 + 1) = 0 ∧ ∃ j4, (((16807 * a2) - (16807 * a2) / 65521 * 65521) - ((16807 * a2) - (16807 * a2) / 65521 * 65521) / (a4 + 1) * (a4 + 1)) = nI j4 ∧ j4 < 7 ∧ ¬ (a4 + 1) = 0 ∧ am_R E mX10_draw 59 [some (.ref 48), none, some (.int ((16807 * a2) - (16807 * a2) / 65521 * 65521)), some (.int a3), some (.int (a4 + (-1))), none] [] (hp (u2 (u2 I 58 j2 (I 58 j4)) 58 j4 (I 58 j2)) J b) 64 64 Q))) : am_R E mX10_draw 59 [some (.ref 48), none, some (.int a2), some (.int a3), some (.int a4), none] [] (hp I J b) 64 64 Q := by
  refine am_iload rfl dX10_draw_59 ?_
  refine am_if_le dX10_draw_61 (tgt := 119) rfl (fun hc1 => ?_) (fun hc1 => ?_)
  · have wp := wp.1 hc1
    refine am_aload_n rfl rfl dX10_draw_119 ?_
    refine am_invV (ci := 8) (As := []) (lsZ := [some (.ref 48), none, none]) (st := []) dX10_draw_120 hX10_isLawful lkX10_180 ⟨by decide, by decide⟩ (by decide) rfl (by decide) rfl rfl rfl (Nat.le_of_ble_eq_true rfl) rfl (Nat.le_of_ble_eq_true rfl) ⟨Nat.le_refl _, Nat.le_refl _⟩ (am_R.mono wp (fun r h' q => am_R.forget q ⟨rfl, ⟨rfl, ⟨rfl, trivial⟩⟩⟩))
  · have wp := wp.2 hc1
    refine am_sipush 16807 rfl dX10_draw_64 ?_
    refine am_iload_n rfl rfl dX10_draw_67 ?_
    refine am_imul dX10_draw_68 ?_
    refine am_ldc 65521 kcX10_186 dX10_draw_69 ?_
    refine am_irem (by decide) dX10_draw_71 ?_
    refine am_istore_n (ls' := [some (.ref 48), none, some (.int ((16807 * a2) - (16807 * a2) / 65521 * 65521)), some (.int a3), some (.int a4), none]) rfl (by decide) rfl rfl dX10_draw_72 ?_
    refine am_aload_n rfl rfl dX10_draw_73 ?_
    refine am_getA (r := 58) dX10_draw_74 flX10_45 (Or.inr ⟨_, rfl⟩) rfl (by decide) rfl ?_
    refine am_iload rfl dX10_draw_77 ?_
    obtain ⟨j2, e2, w2, wp⟩ := wp
    refine am_ialdN (j := j2) dX10_draw_79 rfl (by decide) e2 w2 (by decide) ?_
    refine am_istore (ls' := [some (.ref 48), none, some (.int ((16807 * a2) - (16807 * a2) / 65521 * 65521)), some (.int a3), some (.int a4), some (.int (I 58 j2))]) (by decide) rfl rfl dX10_draw_80 ?_
    refine am_aload_n rfl rfl dX10_draw_82 ?_
    refine am_getA (r := 58) dX10_draw_83 flX10_45 (Or.inr ⟨_, rfl⟩) rfl (by decide) rfl ?_
    refine am_iload rfl dX10_draw_86 ?_
    refine am_aload_n rfl rfl dX10_draw_88 ?_
    refine am_getA (r := 58) dX10_draw_89 flX10_45 (Or.inr ⟨_, rfl⟩) rfl (by decide) rfl ?_
    refine am_iload_n rfl rfl dX10_draw_92 ?_
    refine am_iload rfl dX10_draw_93 ?_
    refine am_iconst 1 rfl dX10_draw_95 ?_
    refine am_iadd dX10_draw_96 ?_
    obtain ⟨w3, wp⟩ := wp
    refine am_irem w3 dX10_draw_97 ?_
    obtain ⟨j4, e4, w4, wp⟩ := wp
    refine am_ialdN (j := j4) dX10_draw_98 rfl (by decide) e4 w4 (by decide) ?_
    refine am_iastN (j := j2) dX10_draw_99 rfl (by decide) e2 w2 (by decide) ?_
    refine am_aload_n rfl rfl dX10_draw_100 ?_
    refine am_getA (r := 58) dX10_draw_101 flX10_45 (Or.inr ⟨_, rfl⟩) rfl (by decide) rfl ?_
    refine am_iload_n rfl rfl dX10_draw_104 ?_
    refine am_iload rfl dX10_draw_105 ?_
    refine am_iconst 1 rfl dX10_draw_107 ?_
    refine am_iadd dX10_draw_108 ?_
    obtain ⟨w5, wp⟩ := wp
    refine am_irem w5 dX10_draw_109 ?_
    refine am_iload rfl dX10_draw_110 ?_
    refine am_iastN (j := j4) dX10_draw_112 rfl (by decide) e4 w4 (by decide) ?_
    refine am_iinc (ls' := [some (.ref 48), none, some (.int ((16807 * a2) - (16807 * a2) / 65521 * 65521)), some (.int a3), some (.int (a4 + (-1))), some (.int (I 58 j2))]) (by decide) rfl rfl rfl dX10_draw_113 ?_
    refine am_goto dX10_draw_116 (tgt := 59) rfl ?_
    exact am_R.forget wp ⟨rfl, ⟨rfl, ⟨rfl, ⟨rfl, trivial⟩⟩⟩⟩
theorem bX10_draw_123 {E : Nat × (Nat → Int32)} {I : Nat → Nat → Int32} {J : Nat → Nat → Int64} {b : Bool} {a2 : Int32} {a3 : Int32} {x0 : Int32} {Q : Option Value → am_H → Prop}  (wp : ((x0 = 0 → am_R E mX10_draw 18 [some (.ref 48), none, some (.int a2), some (.int (a3 + 1)), none, none] [] (hp I J b) 64 64 Q) ∧ (¬ x0 = 0 → am_R E mX10_putToday 0 [some (.ref 48), none] [] (hp I J b) 64 64 (fun r h' => am_R E mX10_draw 130 [none, none, none, some (.int a3), none, none] (r.toList ++ []) h' 64 64 Q)))) : am_R E mX10_draw 123 [some (.ref 48), none, some (.int a2), some (.int a3), none, none] [.int x0] (hp I J b) 64 64 Q := by
  refine am_if_eq dX10_draw_123 (tgt := 132) rfl (fun hc1 => ?_) (fun hc1 => ?_)
  · have wp := wp.1 hc1
    refine am_iinc (ls' := [some (.ref 48), none, some (.int a2), some (.int (a3 + 1)), none, none]) (by decide) rfl rfl rfl dX10_draw_132 ?_
    refine am_goto dX10_draw_135 (tgt := 18) rfl ?_
    exact am_R.forget wp ⟨rfl, ⟨rfl, ⟨rfl, trivial⟩⟩⟩
  · have wp := wp.2 hc1
    refine am_aload_n rfl rfl dX10_draw_126 ?_
    refine am_invV (ci := 8) (As := []) (lsZ := [some (.ref 48), none]) (st := []) dX10_draw_127 hX10_putToday lkX10_183 ⟨by decide, by decide⟩ (by decide) rfl (by decide) rfl rfl rfl (Nat.le_of_ble_eq_true rfl) rfl (Nat.le_of_ble_eq_true rfl) ⟨Nat.le_refl _, Nat.le_refl _⟩ (am_R.mono wp (fun r h' q => am_R.forget q ⟨rfl, trivial⟩))
theorem bX10_draw_130 {E : Nat × (Nat → Int32)} {I : Nat → Nat → Int32} {J : Nat → Nat → Int64} {b : Bool} {a3 : Int32} {Q : Option Value → am_H → Prop}  (wp : Q (some (.int a3)) (hp I J b)) : am_R E mX10_draw 130 [none, none, none, some (.int a3), none, none] [] (hp I J b) 64 64 Q := by
  refine am_iload_n rfl rfl dX10_draw_130 ?_
  exact am_iret dX10_draw_131 rfl rfl wp
theorem tX10_draw18 (hN : Nn I n) (hY : Yw I n) : ∀ f t x, t + f = 51 → x < 65521 → (dS I n f t x = none → ∀ g, Q (some (.int (-4))) (hp (u1 I 58 g) J b)) → (∀ t' p, dS I n f t x = some (t', p) → ∀ g, Rw g p n → Q (some (.int (nI t'))) (hp (u1 (u1 I 58 g) 55 (va_cpy g (upd (I 55) 0 1) 0 1 n)) J b)) → ∀ g, am_R E mX10_draw 18 [some (.ref 48), none, some (.int (nI x)), some (.int (nI t)), none, none] [] (hp (u1 I 58 g) J b) 64 64 Q := by
  obtain ⟨n0, n2, n7⟩ := hN
  intro f
  induction f with
  | zero =>
    intro t x ht hx kN kS g
    have e : t = 51 := by omega
    subst e
    exact bX10_draw_18 (lt_br (n := 50) rfl rfl (by omega) (by omega) (fun _ => kN rfl g) (fun h => by omega))
  | succ f ih =>
    intro t x0 ht hx0 kN kS g
    obtain ⟨h3, h4⟩ := shf_ok (n := n) (n - 1) x0 (fun i => i) (by omega) hx0 Pm.id
    have lp2 : ∀ (i x : Nat) (p : Nat → Nat) (f2 : Nat → Int32), i < n → x < 65521 → Rw f2 p n → shf i x p = shf (n - 1) x0 (fun i => i) → am_R E mX10_draw 59 [some (.ref 48), none, some (.int (nI x)), some (.int (nI t)), some (.int (nI i)), none] [] (hp (u1 I 58 f2) J b) 64 64 Q := by
      intro i
      induction i with
      | zero =>
        intro x p f2 _ hx hf he
        refine bX10_draw_59 (le_br (n := 0) (m := 0) rfl rfl (by omega) (by omega) (fun _ => ?_) (fun h => by omega))
        have he : (x, p) = shf (n - 1) x0 (fun i => i) := he
        rw [dS, ← he] at kN kS
        refine tX10_isLawful (n := n) (p := p) ⟨n0, n2, n7⟩ hY (by rw [u1_s]; exact hf) (fun q => ?_) (fun q => ?_)
        · refine bX10_draw_123 ⟨fun z => absurd z (by decide), fun _ => tX10_putToday (n := n) ⟨n0, n2, n7⟩ (bX10_draw_130 ?_)⟩
          exact kS t p (by rw [decide_eq_true (show ∀ m, m < n → my I m (p m) from q)]; rfl) f2 hf
        · refine bX10_draw_123 ⟨fun _ => ?_, fun z => absurd rfl z⟩
          rw [decide_eq_false (show ¬ ∀ m, m < n → my I m (p m) from q)] at kN kS
          rw [n1]
          exact ih (t + 1) x (by omega) hx kN kS f2
      | succ i ih2 =>
        intro x p f2 hi hx hf he
        obtain ⟨q1, q2, q3, q4⟩ := mx_num (i := i + 1) (x := x) (by omega) (by omega) hx
        have h1 := Nat.mod_lt (16807 * x) (show 0 < 65521 by decide)
        have hj := Nat.mod_lt (16807 * x % 65521) (show 0 < i + 1 + 1 by omega)
        refine bX10_draw_59 (le_br (m := 0) rfl rfl (by omega) (by omega) (fun h => by omega) (fun _ => ⟨i + 1, rfl, by omega, q3, 16807 * x % 65521 % (i + 1 + 1), by rw [q1, q2], by omega, q3, ?_⟩))
        rw [q1, q4, u1_s, u2_u1, u2_u1]
        exact ih2 (16807 * x % 65521) (sw2 p (i + 1) (16807 * x % 65521 % (i + 2))) _ (by omega) h1 (hf.s2 (by omega) (by omega)) he
    have lp1 : ∀ j m, m + j = n → ∀ f2 : Nat → Int32, (∀ i, i < m → f2 i = nI i) → am_R E mX10_draw 27 [some (.ref 48), none, some (.int (nI x0)), some (.int (nI t)), some (.int (nI m)), none] [] (hp (u1 I 58 f2) J b) 64 64 Q := by
      intro j
      induction j with
      | zero =>
        intro m hm f2 hf
        have e : m = n := by omega
        subst e
        refine bX10_draw_27 (le_br n0 rfl (by omega) (by omega) (fun _ => ?_) (fun h => by omega))
        rw [u1_n _ _ (by decide), n0, show (1 : Int32) = nI 1 from rfl, pk_sub (by omega)]
        exact lp2 (m - 1) x0 (fun i => i) f2 (by omega) hx0 (fun i hi => ⟨hf i hi, hi⟩) rfl
      | succ j ih3 =>
        intro m hm f2 hf
        refine bX10_draw_27 (le_br n0 rfl (by omega) (by omega) (fun h => by omega) (fun _ => ⟨m, rfl, by omega, ?_⟩))
        rw [n1, u2_u1]
        refine ih3 (m + 1) (by omega) _ (fun i hi => ?_)
        unfold upd
        by_cases q : i = m
        · rw [if_pos q, q]
        · rw [if_neg q]; exact hf i (by omega)
    exact bX10_draw_18 (lt_br (n := 50) rfl rfl (by omega) (by omega) (fun h => by omega) (fun _ => lp1 n 0 (by omega) g (fun i hi => by omega)))
theorem p_draw (hI : Inv I n) (a1 : Int32) : Pair E mX9_draw mX10_draw [some (.ref 0), some (.int a1), none, none] [some (.ref 48), some (.int a1), none, none, none, none] I J b := by
  have hI0 := hI
  obtain ⟨hM, hC⟩ := hI
  obtain ⟨hN, -, -, -, -, -, hD, -⟩ := hM
  obtain ⟨hCH, -⟩ := hC
  have n7 := hN.2.2
  have hY : Yw I n := hD.2.2.1
  by_cases hk : 1 ≤ a1 ∧ a1 ≤ 9999
  · obtain ⟨x, hx1, rfl⟩ := nI_of2 (x := a1) (M := 9999) (n := 9999) (by decide) (fun q => by
      have := Int32.lt_iff_toInt_lt.mp q
      have h1 := Int32.le_iff_toInt_le.mp hk.1
      simp at this h1; omega) hk.2
    cases hd : dS I n 50 1 x with
    | none =>
      refine ⟨.int (-4), fun I1 => ∃ g, I1 = u1 I 47 g, fun Q h => ?_, fun I1 J1 b1 e Q h => ?_⟩
      · have := tX9_draw19 (E := E) (J := J) (b := b) (Q := Q) hCH 50 1 x rfl (by omega) (fun _ g => h _ J b ⟨g, rfl⟩) (fun t' p e => by rw [hd] at e; cases e) (I 47)
        rw [u1_self] at this
        exact bX9_draw_0 ⟨fun q => absurd hk.1 (Int32.not_le.mpr q), fun _ => ⟨fun _ => this, fun q => absurd hk.2 q⟩⟩
      · obtain ⟨g, rfl⟩ := e
        have hd2 : dS (u1 I 47 g) n 50 1 x = none := by rw [dS_eq (I := I) (I' := u1 I 47 g) rfl rfl (fun _ => rfl)]; exact hd
        have := tX10_draw18 (I := u1 I 47 g) (E := E) (J := J1) (b := b1) (Q := Q) hN hY 50 1 x rfl (by omega) (fun _ g2 => h _ J1 b1 n (hI0.sa ⟨⟨⟨rfl, rfl, rfl, rfl, rfl, rfl, rfl, rfl, rfl⟩, ⟨rfl, rfl, rfl, rfl, rfl, rfl, rfl, rfl, rfl, rfl, rfl, rfl, rfl, rfl, rfl, rfl⟩, ⟨rfl, rfl, rfl, rfl, rfl, rfl, rfl, rfl, rfl⟩⟩, ⟨rfl, rfl, rfl, rfl⟩⟩)) (fun t' p e => by rw [hd2] at e; cases e) (I 58)
        rw [show u1 (u1 I 47 g) 58 (I 58) = u1 I 47 g from u1_self _ _] at this
        exact bX10_draw_0 ⟨fun _ => this, fun q => absurd hk q⟩
    | some tp =>
      obtain ⟨t', p⟩ := tp
      have hpm := dS_pm hN.2.1 50 1 x t' p (by omega) hd
      refine ⟨.int (nI t'), fun I1 => ∃ g, Rw g p n ∧ I1 = u2 (u1 (u1 I 47 g) 10 (va_cpy g (I 10) 0 0 7)) 9 0 1, fun Q h => ?_, fun I1 J1 b1 e Q h => ?_⟩
      · have := tX9_draw19 (E := E) (J := J) (b := b) (Q := Q) hCH 50 1 x rfl (by omega) (fun e => by rw [hd] at e; cases e) (fun t2 p2 e g hg => by rw [hd] at e; cases e; exact h _ J b ⟨g, hg, rfl⟩) (I 47)
        rw [u1_self] at this
        exact bX9_draw_0 ⟨fun q => absurd hk.1 (Int32.not_le.mpr q), fun _ => ⟨fun _ => this, fun q => absurd hk.2 q⟩⟩
      · obtain ⟨g, hg, rfl⟩ := e
        generalize hG : u2 (u1 (u1 I 47 g) 10 (va_cpy g (I 10) 0 0 7)) 9 0 1 = G at h ⊢
        have hd2 : dS G n 50 1 x = some (t', p) := by rw [dS_eq (I := I) (I' := G) (by rw [← hG]; rfl) (by rw [← hG]; rfl) (fun _ => by rw [← hG]; rfl)]; exact hd
        have g58 : G 58 = I 58 := by rw [← hG]; rfl
        have hN2 : Nn G n := by rw [← hG]; exact hN
        have hY2 : Yw G n := by rw [← hG]; exact hY
        have := tX10_draw18 (I := G) (E := E) (J := J1) (b := b1) (Q := Q) hN2 hY2 50 1 x rfl (by omega) (fun e => by rw [hd2] at e; cases e) (fun t2 p2 e g2 hg2 => ?_) (G 58)
        · rw [u1_self] at this
          exact bX10_draw_0 ⟨fun _ => this, fun q => absurd hk q⟩
        · rw [hd2] at e; cases e
          obtain ⟨p1, p2, p3⟩ := put_at (f := I 55) hg2
          rw [← hG]
          exact h _ J1 b1 n (Inv.day (p := p) hI0 ⟨⟨rfl, rfl, rfl, rfl⟩, ⟨rfl, rfl, rfl, rfl, rfl, rfl, rfl⟩, ⟨rfl, rfl, rfl, rfl, rfl, rfl, rfl, rfl, rfl, rfl, rfl, rfl, rfl, rfl, rfl, rfl⟩, ⟨rfl, rfl, rfl, rfl, rfl, rfl, rfl, rfl⟩⟩ rfl rfl (hg.cpy n7) p1 p2 (fun j hj => p3 j hj n7) hpm)
  · refine Pair.same hI0 (.int (-3)) (fun Q h => bX9_draw_0 ⟨fun _ => h, fun q => ⟨fun q2 => absurd ⟨nlt q, q2⟩ hk, fun _ => h⟩⟩) (fun J b Q h => bX10_draw_0 ⟨fun q => absurd q hk, fun _ => h⟩)
theorem bX9_trade_0 {E : Nat × (Nat → Int32)} {I : Nat → Nat → Int32} {J : Nat → Nat → Int64} {b : Bool} {a1 : Int32} {a2 : Int32} {a3 : Int32} {Q : Option Value → am_H → Prop}  (wp : (((0 ≤ a1 ∧ a1 < (I 4 0)) → (((0 ≤ a2 ∧ a2 < (I 4 0)) → ((¬ (I 4 1) = 3 → ((¬ a3 = (-1) → Q (some (.int (-3))) (hp I J b)) ∧ (a3 = (-1) → ((a1 = a2 → Q (some (.int (-3))) (hp I J b)) ∧ (¬ a1 = a2 → ((a1 = a3 → Q (some (.int (-3))) (hp I J b)) ∧ (¬ a1 = a3 → ((¬ a2 = a3 → (((I 9 0) = 0 → Q (some (.int (-4))) (hp I J b)) ∧ (¬ (I 9 0) = 0 → (((I 4 1) = 0 → Q (some (.int (-4))) (hp I J b)) ∧ (¬ (I 4 1) = 0 → am_R E mX5_isWanted 0 [some (.ref 23), some (.ref 10), some (.int a1), some (.int a2), some (.int a3)] [] (hp I J b) 64 64 (fun r h' => am_R E mX9_trade 109 [some (.ref 0), some (.int a1), some (.int a2), some (.int a3)] (r.toList ++ []) h' 64 64 Q)))))) ∧ (a2 = a3 → Q (some (.int (-3))) (hp I J b)))))))))) ∧ ((I 4 1) = 3 → (((0 ≤ a3 ∧ a3 < (I 4 0)) → ((a1 = a2 → Q (some (.int (-3))) (hp I J b)) ∧ (¬ a1 = a2 → ((a1 = a3 → Q (some (.int (-3))) (hp I J b)) ∧ (¬ a1 = a3 → ((¬ a2 = a3 → (((I 9 0) = 0 → Q (some (.int (-4))) (hp I J b)) ∧ (¬ (I 9 0) = 0 → (((I 4 1) = 0 → Q (some (.int (-4))) (hp I J b)) ∧ (¬ (I 4 1) = 0 → am_R E mX5_isWanted 0 [some (.ref 23), some (.ref 10), some (.int a1), some (.int a2), some (.int a3)] [] (hp I J b) 64 64 (fun r h' => am_R E mX9_trade 109 [some (.ref 0), some (.int a1), some (.int a2), some (.int a3)] (r.toList ++ []) h' 64 64 Q)))))) ∧ (a2 = a3 → Q (some (.int (-3))) (hp I J b)))))))) ∧ (¬ (0 ≤ a3 ∧ a3 < (I 4 0)) → Q (some (.int (-2))) (hp I J b)))))) ∧ (¬ (0 ≤ a2 ∧ a2 < (I 4 0)) → Q (some (.int (-2))) (hp I J b)))) ∧ (¬ (0 ≤ a1 ∧ a1 < (I 4 0)) → Q (some (.int (-2))) (hp I J b)))) : am_R E mX9_trade 0 [some (.ref 0), some (.int a1), some (.int a2), some (.int a3)] [] (hp I J b) 64 64 Q := by
  refine am_aload_n rfl rfl dX9_trade_0 ?_
  refine am_iload_n rfl rfl dX9_trade_1 ?_
  refine am_invV (ci := 7) (As := [.int a1]) (lsZ := [some (.ref 0), some (.int a1)]) (st := []) dX9_trade_2 hX9_isThere lkX9_122 ⟨by decide, by decide⟩ (by decide) rfl (by decide) rfl rfl rfl (Nat.le_of_ble_eq_true rfl) rfl (Nat.le_of_ble_eq_true rfl) ⟨Nat.le_refl _, Nat.le_refl _⟩ (tX9_isThere  (fun hc1 => ?_) (fun hc1 => ?_))
  · have wp := wp.1 hc1
    show am_R E mX9_trade 5 [some (.ref 0), some (.int a1), some (.int a2), some (.int a3)] [.int 1] (hp I J b) 64 64 Q
    refine am_if_eq dX9_trade_5 (tgt := 35) rfl (fun hc => absurd hc (by decide)) (fun _ => ?_)
    refine am_aload_n rfl rfl dX9_trade_8 ?_
    refine am_iload_n rfl rfl dX9_trade_9 ?_
    refine am_invV (ci := 7) (As := [.int a2]) (lsZ := [some (.ref 0), some (.int a2)]) (st := []) dX9_trade_10 hX9_isThere lkX9_122 ⟨by decide, by decide⟩ (by decide) rfl (by decide) rfl rfl rfl (Nat.le_of_ble_eq_true rfl) rfl (Nat.le_of_ble_eq_true rfl) ⟨Nat.le_refl _, Nat.le_refl _⟩ (tX9_isThere  (fun hc2 => ?_) (fun hc2 => ?_))
    · have wp := wp.1 hc2
      show am_R E mX9_trade 13 [some (.ref 0), some (.int a1), some (.int a2), some (.int a3)] [.int 1] (hp I J b) 64 64 Q
      refine am_if_eq dX9_trade_13 (tgt := 35) rfl (fun hc => absurd hc (by decide)) (fun _ => ?_)
      refine am_aload_n rfl rfl dX9_trade_16 ?_
      refine am_getA (r := 4) dX9_trade_17 flX9_19 (Or.inl ⟨_, rfl⟩) rfl (by decide) rfl ?_
      refine am_getI dX9_trade_20 flX9_167 (Or.inl rfl) rfl (by decide) ?_
      refine am_iconst 3 rfl dX9_trade_23 ?_
      refine am_icmp_ne dX9_trade_24 (tgt := 38) rfl (fun hc3 => ?_) (fun hc3 => ?_)
      · have wp := wp.1 hc3
        refine am_aload_n rfl rfl dX9_trade_38 ?_
        refine am_getA (r := 4) dX9_trade_39 flX9_19 (Or.inl ⟨_, rfl⟩) rfl (by decide) rfl ?_
        refine am_getI dX9_trade_42 flX9_167 (Or.inl rfl) rfl (by decide) ?_
        refine am_iconst 3 rfl dX9_trade_45 ?_
        refine am_icmp_eq dX9_trade_46 (tgt := 54) rfl (fun hc => absurd hc hc3) (fun _ => ?_)
        refine am_iload_n rfl rfl dX9_trade_49 ?_
        refine am_iconst (-1) rfl dX9_trade_50 ?_
        refine am_icmp_ne dX9_trade_51 (tgt := 69) rfl (fun hc4 => ?_) (fun hc4 => ?_)
        · have wp := wp.1 hc4
          refine am_bipush (-3) rfl dX9_trade_69 ?_
          exact am_iret dX9_trade_71 rfl rfl wp
        · have wp := wp.2 hc4
          refine am_iload_n rfl rfl dX9_trade_54 ?_
          refine am_iload_n rfl rfl dX9_trade_55 ?_
          refine am_icmp_eq dX9_trade_56 (tgt := 69) rfl (fun hc5 => ?_) (fun hc5 => ?_)
          · have wp := wp.1 hc5
            refine am_bipush (-3) rfl dX9_trade_69 ?_
            exact am_iret dX9_trade_71 rfl rfl wp
          · have wp := wp.2 hc5
            refine am_iload_n rfl rfl dX9_trade_59 ?_
            refine am_iload_n rfl rfl dX9_trade_60 ?_
            refine am_icmp_eq dX9_trade_61 (tgt := 69) rfl (fun hc6 => ?_) (fun hc6 => ?_)
            · have wp := wp.1 hc6
              refine am_bipush (-3) rfl dX9_trade_69 ?_
              exact am_iret dX9_trade_71 rfl rfl wp
            · have wp := wp.2 hc6
              refine am_iload_n rfl rfl dX9_trade_64 ?_
              refine am_iload_n rfl rfl dX9_trade_65 ?_
              refine am_icmp_ne dX9_trade_66 (tgt := 72) rfl (fun hc7 => ?_) (fun hc7 => ?_)
              · have wp := wp.1 hc7
                refine am_aload_n rfl rfl dX9_trade_72 ?_
                refine am_getA (r := 9) dX9_trade_73 flX9_26 (Or.inl ⟨_, rfl⟩) rfl (by decide) rfl ?_
                refine am_getI dX9_trade_76 flX9_160 (Or.inr rfl) rfl (by decide) ?_
                refine am_if_eq dX9_trade_79 (tgt := 112) rfl (fun hc8 => ?_) (fun hc8 => ?_)
                · have wp := wp.1 hc8
                  refine am_bipush (-4) rfl dX9_trade_112 ?_
                  exact am_iret dX9_trade_114 rfl rfl wp
                · have wp := wp.2 hc8
                  refine am_aload_n rfl rfl dX9_trade_82 ?_
                  refine am_getA (r := 4) dX9_trade_83 flX9_19 (Or.inl ⟨_, rfl⟩) rfl (by decide) rfl ?_
                  refine am_getI dX9_trade_86 flX9_167 (Or.inl rfl) rfl (by decide) ?_
                  refine am_if_eq dX9_trade_89 (tgt := 112) rfl (fun hc9 => ?_) (fun hc9 => ?_)
                  · have wp := wp.1 hc9
                    refine am_bipush (-4) rfl dX9_trade_112 ?_
                    exact am_iret dX9_trade_114 rfl rfl wp
                  · have wp := wp.2 hc9
                    refine am_aload_n rfl rfl dX9_trade_92 ?_
                    refine am_getA (r := 23) dX9_trade_93 flX9_43 (Or.inl ⟨_, rfl⟩) rfl (by decide) rfl ?_
                    refine am_aload_n rfl rfl dX9_trade_96 ?_
                    refine am_getA (r := 9) dX9_trade_97 flX9_26 (Or.inl ⟨_, rfl⟩) rfl (by decide) rfl ?_
                    refine am_getA (r := 10) dX9_trade_100 flX9_164 (Or.inr ⟨_, rfl⟩) rfl (by decide) rfl ?_
                    refine am_iload_n rfl rfl dX9_trade_103 ?_
                    refine am_iload_n rfl rfl dX9_trade_104 ?_
                    refine am_iload_n rfl rfl dX9_trade_105 ?_
                    refine am_invV (ci := 3) (As := [.ref 10, .int a1, .int a2, .int a3]) (lsZ := [some (.ref 23), some (.ref 10), some (.int a1), some (.int a2), some (.int a3)]) (st := []) dX9_trade_106 hX5_isWanted lkX9_170 ⟨by decide, by decide⟩ (by decide) rfl (by decide) rfl rfl rfl (Nat.le_of_ble_eq_true rfl) rfl (Nat.le_of_ble_eq_true rfl) ⟨Nat.le_refl _, Nat.le_refl _⟩ (am_R.mono wp (fun r h' q => am_R.forget q ⟨rfl, ⟨rfl, ⟨rfl, ⟨rfl, trivial⟩⟩⟩⟩))
              · have wp := wp.2 hc7
                refine am_bipush (-3) rfl dX9_trade_69 ?_
                exact am_iret dX9_trade_71 rfl rfl wp
      · have wp := wp.2 hc3
        refine am_aload_n rfl rfl dX9_trade_27 ?_
        refine am_iload_n rfl rfl dX9_trade_28 ?_
        refine am_invV (ci := 7) (As := [.int a3]) (lsZ := [some (.ref 0), some (.int a3)]) (st := []) dX9_trade_29 hX9_isThere lkX9_122 ⟨by decide, by decide⟩ (by decide) rfl (by decide) rfl rfl rfl (Nat.le_of_ble_eq_true rfl) rfl (Nat.le_of_ble_eq_true rfl) ⟨Nat.le_refl _, Nat.le_refl _⟩ (tX9_isThere  (fun hc10 => ?_) (fun hc10 => ?_))
        · have wp := wp.1 hc10
          show am_R E mX9_trade 32 [some (.ref 0), some (.int a1), some (.int a2), some (.int a3)] [.int 1] (hp I J b) 64 64 Q
          refine am_if_ne dX9_trade_32 (tgt := 38) rfl (fun _ => ?_) (fun hc => absurd hc (by decide))
          refine am_aload_n rfl rfl dX9_trade_38 ?_
          refine am_getA (r := 4) dX9_trade_39 flX9_19 (Or.inl ⟨_, rfl⟩) rfl (by decide) rfl ?_
          refine am_getI dX9_trade_42 flX9_167 (Or.inl rfl) rfl (by decide) ?_
          refine am_iconst 3 rfl dX9_trade_45 ?_
          refine am_icmp_eq dX9_trade_46 (tgt := 54) rfl (fun _ => ?_) (fun hc => absurd hc3 hc)
          refine am_iload_n rfl rfl dX9_trade_54 ?_
          refine am_iload_n rfl rfl dX9_trade_55 ?_
          refine am_icmp_eq dX9_trade_56 (tgt := 69) rfl (fun hc11 => ?_) (fun hc11 => ?_)
          · have wp := wp.1 hc11
            refine am_bipush (-3) rfl dX9_trade_69 ?_
            exact am_iret dX9_trade_71 rfl rfl wp
          · have wp := wp.2 hc11
            refine am_iload_n rfl rfl dX9_trade_59 ?_
            refine am_iload_n rfl rfl dX9_trade_60 ?_
            refine am_icmp_eq dX9_trade_61 (tgt := 69) rfl (fun hc12 => ?_) (fun hc12 => ?_)
            · have wp := wp.1 hc12
              refine am_bipush (-3) rfl dX9_trade_69 ?_
              exact am_iret dX9_trade_71 rfl rfl wp
            · have wp := wp.2 hc12
              refine am_iload_n rfl rfl dX9_trade_64 ?_
              refine am_iload_n rfl rfl dX9_trade_65 ?_
              refine am_icmp_ne dX9_trade_66 (tgt := 72) rfl (fun hc13 => ?_) (fun hc13 => ?_)
              · have wp := wp.1 hc13
                refine am_aload_n rfl rfl dX9_trade_72 ?_
                refine am_getA (r := 9) dX9_trade_73 flX9_26 (Or.inl ⟨_, rfl⟩) rfl (by decide) rfl ?_
                refine am_getI dX9_trade_76 flX9_160 (Or.inr rfl) rfl (by decide) ?_
                refine am_if_eq dX9_trade_79 (tgt := 112) rfl (fun hc14 => ?_) (fun hc14 => ?_)
                · have wp := wp.1 hc14
                  refine am_bipush (-4) rfl dX9_trade_112 ?_
                  exact am_iret dX9_trade_114 rfl rfl wp
                · have wp := wp.2 hc14
                  refine am_aload_n rfl rfl dX9_trade_82 ?_
                  refine am_getA (r := 4) dX9_trade_83 flX9_19 (Or.inl ⟨_, rfl⟩) rfl (by decide) rfl ?_
                  refine am_getI dX9_trade_86 flX9_167 (Or.inl rfl) rfl (by decide) ?_
                  refine am_if_eq dX9_trade_89 (tgt := 112) rfl (fun hc15 => ?_) (fun hc15 => ?_)
                  · have wp := wp.1 hc15
                    refine am_bipush (-4) rfl dX9_trade_112 ?_
                    exact am_iret dX9_trade_114 rfl rfl wp
                  · have wp := wp.2 hc15
                    refine am_aload_n rfl rfl dX9_trade_92 ?_
                    refine am_getA (r := 23) dX9_trade_93 flX9_43 (Or.inl ⟨_, rfl⟩) rfl (by decide) rfl ?_
                    refine am_aload_n rfl rfl dX9_trade_96 ?_
                    refine am_getA (r := 9) dX9_trade_97 flX9_26 (Or.inl ⟨_, rfl⟩) rfl (by decide) rfl ?_
                    refine am_getA (r := 10) dX9_trade_100 flX9_164 (Or.inr ⟨_, rfl⟩) rfl (by decide) rfl ?_
                    refine am_iload_n rfl rfl dX9_trade_103 ?_
                    refine am_iload_n rfl rfl dX9_trade_104 ?_
                    refine am_iload_n rfl rfl dX9_trade_105 ?_
                    refine am_invV (ci := 3) (As := [.ref 10, .int a1, .int a2, .int a3]) (lsZ := [some (.ref 23), some (.ref 10), some (.int a1), some (.int a2), some (.int a3)]) (st := []) dX9_trade_106 hX5_isWanted lkX9_170 ⟨by decide, by decide⟩ (by decide) rfl (by decide) rfl rfl rfl (Nat.le_of_ble_eq_true rfl) rfl (Nat.le_of_ble_eq_true rfl) ⟨Nat.le_refl _, Nat.le_refl _⟩ (am_R.mono wp (fun r h' q => am_R.forget q ⟨rfl, ⟨rfl, ⟨rfl, ⟨rfl, trivial⟩⟩⟩⟩))
              · have wp := wp.2 hc13
                refine am_bipush (-3) rfl dX9_trade_69 ?_
                exact am_iret dX9_trade_71 rfl rfl wp
        · have wp := wp.2 hc10
          show am_R E mX9_trade 32 [some (.ref 0), some (.int a1), some (.int a2), some (.int a3)] [.int 0] (hp I J b) 64 64 Q
          refine am_if_ne dX9_trade_32 (tgt := 38) rfl (fun hc => absurd hc (by decide)) (fun _ => ?_)
          refine am_bipush (-2) rfl dX9_trade_35 ?_
          exact am_iret dX9_trade_37 rfl rfl wp
    · have wp := wp.2 hc2
      show am_R E mX9_trade 13 [some (.ref 0), some (.int a1), some (.int a2), some (.int a3)] [.int 0] (hp I J b) 64 64 Q
      refine am_if_eq dX9_trade_13 (tgt := 35) rfl (fun _ => ?_) (fun hc => absurd hc (by decide))
      refine am_bipush (-2) rfl dX9_trade_35 ?_
      exact am_iret dX9_trade_37 rfl rfl wp
  · have wp := wp.2 hc1
    show am_R E mX9_trade 5 [some (.ref 0), some (.int a1), some (.int a2), some (.int a3)] [.int 0] (hp I J b) 64 64 Q
    refine am_if_eq dX9_trade_5 (tgt := 35) rfl (fun _ => ?_) (fun hc => absurd hc (by decide))
    refine am_bipush (-2) rfl dX9_trade_35 ?_
    exact am_iret dX9_trade_37 rfl rfl wp
theorem bX9_trade_109 {E : Nat × (Nat → Int32)} {I : Nat → Nat → Int32} {J : Nat → Nat → Int64} {b : Bool} {a1 : Int32} {a2 : Int32} {a3 : Int32} {x0 : Int32} {Q : Option Value → am_H → Prop}  (wp : ((¬ x0 = 0 → am_R E mX5_pass 0 [some (.ref 10), some (.int a1), some (.int a2), some (.int a3), none] [] (hp I J b) 64 64 (fun r h' => am_R E mX9_trade 128 [some (.ref 0), none, none, none] (r.toList ++ []) h' 64 64 Q)) ∧ (x0 = 0 → Q (some (.int (-4))) (hp I J b)))) : am_R E mX9_trade 109 [some (.ref 0), some (.int a1), some (.int a2), some (.int a3)] [.int x0] (hp I J b) 64 64 Q := by
  refine am_if_ne dX9_trade_109 (tgt := 115) rfl (fun hc1 => ?_) (fun hc1 => ?_)
  · have wp := wp.1 hc1
    refine am_aload_n rfl rfl dX9_trade_115 ?_
    refine am_getA (r := 9) dX9_trade_116 flX9_26 (Or.inl ⟨_, rfl⟩) rfl (by decide) rfl ?_
    refine am_getA (r := 10) dX9_trade_119 flX9_164 (Or.inr ⟨_, rfl⟩) rfl (by decide) rfl ?_
    refine am_iload_n rfl rfl dX9_trade_122 ?_
    refine am_iload_n rfl rfl dX9_trade_123 ?_
    refine am_iload_n rfl rfl dX9_trade_124 ?_
    refine am_invS (As := [.ref 10, .int a1, .int a2, .int a3]) (lsZ := [some (.ref 10), some (.int a1), some (.int a2), some (.int a3), none]) (st := []) dX9_trade_125 hX5_pass lkX9_174 ⟨by decide, by decide⟩ rfl rfl (Nat.le_of_ble_eq_true rfl) rfl (Nat.le_of_ble_eq_true rfl) ⟨Nat.le_refl _, Nat.le_refl _⟩ (am_R.mono wp (fun r h' q => am_R.forget q ⟨rfl, trivial⟩))
  · have wp := wp.2 hc1
    refine am_bipush (-4) rfl dX9_trade_112 ?_
    exact am_iret dX9_trade_114 rfl rfl wp
theorem bX9_trade_128 {E : Nat × (Nat → Int32)} {I : Nat → Nat → Int32} {J : Nat → Nat → Int64} {b : Bool}  {Q : Option Value → am_H → Prop}  (wp : am_R E mX2_gladnessOf 0 [some (.ref 4), some (.ref 10), none, none] [] (hp I J b) 64 64 (fun r h' => am_R E mX9_trade 142 [none, none, none, none] (r.toList ++ []) h' 64 64 Q)) : am_R E mX9_trade 128 [some (.ref 0), none, none, none] [] (hp I J b) 64 64 Q := by
  refine am_aload_n rfl rfl dX9_trade_128 ?_
  refine am_getA (r := 4) dX9_trade_129 flX9_19 (Or.inl ⟨_, rfl⟩) rfl (by decide) rfl ?_
  refine am_aload_n rfl rfl dX9_trade_132 ?_
  refine am_getA (r := 9) dX9_trade_133 flX9_26 (Or.inl ⟨_, rfl⟩) rfl (by decide) rfl ?_
  refine am_getA (r := 10) dX9_trade_136 flX9_164 (Or.inr ⟨_, rfl⟩) rfl (by decide) rfl ?_
  refine am_invV (ci := 1) (As := [.ref 10]) (lsZ := [some (.ref 4), some (.ref 10), none, none]) (st := []) dX9_trade_139 hX2_gladnessOf lkX9_178 ⟨by decide, by decide⟩ (by decide) rfl (by decide) rfl rfl rfl (Nat.le_of_ble_eq_true rfl) rfl (Nat.le_of_ble_eq_true rfl) ⟨Nat.le_refl _, Nat.le_refl _⟩ (am_R.mono wp (fun r h' q => am_R.forget q trivial))
theorem bX9_trade_142 {E : Nat × (Nat → Int32)} {I : Nat → Nat → Int32} {J : Nat → Nat → Int64} {b : Bool} {x0 : Int32} {Q : Option Value → am_H → Prop}  (wp : Q (some (.int x0)) (hp I J b)) : am_R E mX9_trade 142 [none, none, none, none] [.int x0] (hp I J b) 64 64 Q := by
  exact am_iret dX9_trade_142 rfl rfl wp
theorem bX10_trade_0 {E : Nat × (Nat → Int32)} {I : Nat → Nat → Int32} {J : Nat → Nat → Int64} {b : Bool} {a1 : Int32} {a2 : Int32} {a3 : Int32} {Q : Option Value → am_H → Prop}  (wp : (((0 ≤ a1 ∧ a1 ≤ (I 48 0) - 1) → (((0 ≤ a2 ∧ a2 ≤ (I 48 0) - 1) → ((¬ (I 48 1) = 3 → ((a1 = a2 → Q (some (.int (-3))) (hp I J b)) ∧ (¬ a1 = a2 → ((a3 = (-1) → (((I 55 0) = 0 → Q (some (.int (-4))) (hp I J b)) ∧ (¬ (I 55 0) = 0 → ((¬ (I 48 1) = 0 → am_R E mX10_takeToday 0 [some (.ref 48), none] [] (hp I J b) 64 64 (fun r h' => am_R E mX10_trade 97 [some (.ref 48), some (.int a1), some (.int a2), some (.int a3)] (r.toList ++ []) h' 64 64 Q)) ∧ ((I 48 1) = 0 → Q (some (.int (-4))) (hp I J b)))))) ∧ (¬ a3 = (-1) → Q (some (.int (-3))) (hp I J b)))))) ∧ ((I 48 1) = 3 → (((0 ≤ a3 ∧ a3 ≤ (I 48 0) - 1) → ((a1 = a2 → Q (some (.int (-3))) (hp I J b)) ∧ (¬ a1 = a2 → ((a1 = a3 → Q (some (.int (-3))) (hp I J b)) ∧ (¬ a1 = a3 → ((a2 = a3 → Q (some (.int (-3))) (hp I J b)) ∧ (¬ a2 = a3 → (((I 55 0) = 0 → Q (some (.int (-4))) (hp I J b)) ∧ (¬ (I 55 0) = 0 → ((¬ (I 48 1) = 0 → am_R E mX10_takeToday 0 [some (.ref 48), none] [] (hp I J b) 64 64 (fun r h' => am_R E mX10_trade 97 [some (.ref 48), some (.int a1), some (.int a2), some (.int a3)] (r.toList ++ []) h' 64 64 Q)) ∧ ((I 48 1) = 0 → Q (some (.int (-4))) (hp I J b)))))))))))) ∧ (¬ (0 ≤ a3 ∧ a3 ≤ (I 48 0) - 1) → Q (some (.int (-2))) (hp I J b)))))) ∧ (¬ (0 ≤ a2 ∧ a2 ≤ (I 48 0) - 1) → Q (some (.int (-2))) (hp I J b)))) ∧ (¬ (0 ≤ a1 ∧ a1 ≤ (I 48 0) - 1) → Q (some (.int (-2))) (hp I J b)))) : am_R E mX10_trade 0 [some (.ref 48), some (.int a1), some (.int a2), some (.int a3)] [] (hp I J b) 64 64 Q := by
  refine am_aload_n rfl rfl dX10_trade_0 ?_
  refine am_iload_n rfl rfl dX10_trade_1 ?_
  refine am_invV (ci := 8) (As := [.int a1]) (lsZ := [some (.ref 48), some (.int a1)]) (st := []) dX10_trade_2 hX10_isMonk lkX10_166 ⟨by decide, by decide⟩ (by decide) rfl (by decide) rfl rfl rfl (Nat.le_of_ble_eq_true rfl) rfl (Nat.le_of_ble_eq_true rfl) ⟨Nat.le_refl _, Nat.le_refl _⟩ (tX10_isMonk  (fun hc1 => ?_) (fun hc1 => ?_))
  · have wp := wp.1 hc1
    show am_R E mX10_trade 5 [some (.ref 48), some (.int a1), some (.int a2), some (.int a3)] [.int 1] (hp I J b) 64 64 Q
    refine am_if_eq dX10_trade_5 (tgt := 32) rfl (fun hc => absurd hc (by decide)) (fun _ => ?_)
    refine am_aload_n rfl rfl dX10_trade_8 ?_
    refine am_iload_n rfl rfl dX10_trade_9 ?_
    refine am_invV (ci := 8) (As := [.int a2]) (lsZ := [some (.ref 48), some (.int a2)]) (st := []) dX10_trade_10 hX10_isMonk lkX10_166 ⟨by decide, by decide⟩ (by decide) rfl (by decide) rfl rfl rfl (Nat.le_of_ble_eq_true rfl) rfl (Nat.le_of_ble_eq_true rfl) ⟨Nat.le_refl _, Nat.le_refl _⟩ (tX10_isMonk  (fun hc2 => ?_) (fun hc2 => ?_))
    · have wp := wp.1 hc2
      show am_R E mX10_trade 13 [some (.ref 48), some (.int a1), some (.int a2), some (.int a3)] [.int 1] (hp I J b) 64 64 Q
      refine am_if_eq dX10_trade_13 (tgt := 32) rfl (fun hc => absurd hc (by decide)) (fun _ => ?_)
      refine am_aload_n rfl rfl dX10_trade_16 ?_
      refine am_getI dX10_trade_17 flX10_13 (Or.inl rfl) rfl (by decide) ?_
      refine am_iconst 3 rfl dX10_trade_20 ?_
      refine am_icmp_ne dX10_trade_21 (tgt := 35) rfl (fun hc3 => ?_) (fun hc3 => ?_)
      · have wp := wp.1 hc3
        refine am_iload_n rfl rfl dX10_trade_35 ?_
        refine am_iload_n rfl rfl dX10_trade_36 ?_
        refine am_icmp_eq dX10_trade_37 (tgt := 71) rfl (fun hc4 => ?_) (fun hc4 => ?_)
        · have wp := wp.1 hc4
          refine am_bipush (-3) rfl dX10_trade_71 ?_
          exact am_iret dX10_trade_73 rfl rfl wp
        · have wp := wp.2 hc4
          refine am_aload_n rfl rfl dX10_trade_40 ?_
          refine am_getI dX10_trade_41 flX10_13 (Or.inl rfl) rfl (by decide) ?_
          refine am_iconst 3 rfl dX10_trade_44 ?_
          refine am_icmp_ne dX10_trade_45 (tgt := 58) rfl (fun _ => ?_) (fun hc => absurd hc hc3)
          refine am_aload_n rfl rfl dX10_trade_58 ?_
          refine am_getI dX10_trade_59 flX10_13 (Or.inl rfl) rfl (by decide) ?_
          refine am_iconst 3 rfl dX10_trade_62 ?_
          refine am_icmp_eq dX10_trade_63 (tgt := 74) rfl (fun hc => absurd hc hc3) (fun _ => ?_)
          refine am_iload_n rfl rfl dX10_trade_66 ?_
          refine am_iconst (-1) rfl dX10_trade_67 ?_
          refine am_icmp_eq dX10_trade_68 (tgt := 74) rfl (fun hc5 => ?_) (fun hc5 => ?_)
          · have wp := wp.1 hc5
            refine am_aload_n rfl rfl dX10_trade_74 ?_
            refine am_getA (r := 55) dX10_trade_75 flX10_35 (Or.inr ⟨_, rfl⟩) rfl (by decide) rfl ?_
            refine am_iconst 0 rfl dX10_trade_78 ?_
            refine am_ialdN (j := 0) dX10_trade_79 rfl (by decide) rfl (by decide) (by decide) ?_
            refine am_if_eq dX10_trade_80 (tgt := 90) rfl (fun hc6 => ?_) (fun hc6 => ?_)
            · have wp := wp.1 hc6
              refine am_bipush (-4) rfl dX10_trade_90 ?_
              exact am_iret dX10_trade_92 rfl rfl wp
            · have wp := wp.2 hc6
              refine am_aload_n rfl rfl dX10_trade_83 ?_
              refine am_getI dX10_trade_84 flX10_13 (Or.inl rfl) rfl (by decide) ?_
              refine am_if_ne dX10_trade_87 (tgt := 93) rfl (fun hc7 => ?_) (fun hc7 => ?_)
              · have wp := wp.1 hc7
                refine am_aload_n rfl rfl dX10_trade_93 ?_
                refine am_invV (ci := 8) (As := []) (lsZ := [some (.ref 48), none]) (st := []) dX10_trade_94 hX10_takeToday lkX10_190 ⟨by decide, by decide⟩ (by decide) rfl (by decide) rfl rfl rfl (Nat.le_of_ble_eq_true rfl) rfl (Nat.le_of_ble_eq_true rfl) ⟨Nat.le_refl _, Nat.le_refl _⟩ (am_R.mono wp (fun r h' q => am_R.forget q ⟨rfl, ⟨rfl, ⟨rfl, ⟨rfl, trivial⟩⟩⟩⟩))
              · have wp := wp.2 hc7
                refine am_bipush (-4) rfl dX10_trade_90 ?_
                exact am_iret dX10_trade_92 rfl rfl wp
          · have wp := wp.2 hc5
            refine am_bipush (-3) rfl dX10_trade_71 ?_
            exact am_iret dX10_trade_73 rfl rfl wp
      · have wp := wp.2 hc3
        refine am_aload_n rfl rfl dX10_trade_24 ?_
        refine am_iload_n rfl rfl dX10_trade_25 ?_
        refine am_invV (ci := 8) (As := [.int a3]) (lsZ := [some (.ref 48), some (.int a3)]) (st := []) dX10_trade_26 hX10_isMonk lkX10_166 ⟨by decide, by decide⟩ (by decide) rfl (by decide) rfl rfl rfl (Nat.le_of_ble_eq_true rfl) rfl (Nat.le_of_ble_eq_true rfl) ⟨Nat.le_refl _, Nat.le_refl _⟩ (tX10_isMonk  (fun hc8 => ?_) (fun hc8 => ?_))
        · have wp := wp.1 hc8
          show am_R E mX10_trade 29 [some (.ref 48), some (.int a1), some (.int a2), some (.int a3)] [.int 1] (hp I J b) 64 64 Q
          refine am_if_ne dX10_trade_29 (tgt := 35) rfl (fun _ => ?_) (fun hc => absurd hc (by decide))
          refine am_iload_n rfl rfl dX10_trade_35 ?_
          refine am_iload_n rfl rfl dX10_trade_36 ?_
          refine am_icmp_eq dX10_trade_37 (tgt := 71) rfl (fun hc9 => ?_) (fun hc9 => ?_)
          · have wp := wp.1 hc9
            refine am_bipush (-3) rfl dX10_trade_71 ?_
            exact am_iret dX10_trade_73 rfl rfl wp
          · have wp := wp.2 hc9
            refine am_aload_n rfl rfl dX10_trade_40 ?_
            refine am_getI dX10_trade_41 flX10_13 (Or.inl rfl) rfl (by decide) ?_
            refine am_iconst 3 rfl dX10_trade_44 ?_
            refine am_icmp_ne dX10_trade_45 (tgt := 58) rfl (fun hc => absurd hc3 hc) (fun _ => ?_)
            refine am_iload_n rfl rfl dX10_trade_48 ?_
            refine am_iload_n rfl rfl dX10_trade_49 ?_
            refine am_icmp_eq dX10_trade_50 (tgt := 71) rfl (fun hc10 => ?_) (fun hc10 => ?_)
            · have wp := wp.1 hc10
              refine am_bipush (-3) rfl dX10_trade_71 ?_
              exact am_iret dX10_trade_73 rfl rfl wp
            · have wp := wp.2 hc10
              refine am_iload_n rfl rfl dX10_trade_53 ?_
              refine am_iload_n rfl rfl dX10_trade_54 ?_
              refine am_icmp_eq dX10_trade_55 (tgt := 71) rfl (fun hc11 => ?_) (fun hc11 => ?_)
              · have wp := wp.1 hc11
                refine am_bipush (-3) rfl dX10_trade_71 ?_
                exact am_iret dX10_trade_73 rfl rfl wp
              · have wp := wp.2 hc11
                refine am_aload_n rfl rfl dX10_trade_58 ?_
                refine am_getI dX10_trade_59 flX10_13 (Or.inl rfl) rfl (by decide) ?_
                refine am_iconst 3 rfl dX10_trade_62 ?_
                refine am_icmp_eq dX10_trade_63 (tgt := 74) rfl (fun _ => ?_) (fun hc => absurd hc3 hc)
                refine am_aload_n rfl rfl dX10_trade_74 ?_
                refine am_getA (r := 55) dX10_trade_75 flX10_35 (Or.inr ⟨_, rfl⟩) rfl (by decide) rfl ?_
                refine am_iconst 0 rfl dX10_trade_78 ?_
                refine am_ialdN (j := 0) dX10_trade_79 rfl (by decide) rfl (by decide) (by decide) ?_
                refine am_if_eq dX10_trade_80 (tgt := 90) rfl (fun hc12 => ?_) (fun hc12 => ?_)
                · have wp := wp.1 hc12
                  refine am_bipush (-4) rfl dX10_trade_90 ?_
                  exact am_iret dX10_trade_92 rfl rfl wp
                · have wp := wp.2 hc12
                  refine am_aload_n rfl rfl dX10_trade_83 ?_
                  refine am_getI dX10_trade_84 flX10_13 (Or.inl rfl) rfl (by decide) ?_
                  refine am_if_ne dX10_trade_87 (tgt := 93) rfl (fun hc13 => ?_) (fun hc13 => ?_)
                  · have wp := wp.1 hc13
                    refine am_aload_n rfl rfl dX10_trade_93 ?_
                    refine am_invV (ci := 8) (As := []) (lsZ := [some (.ref 48), none]) (st := []) dX10_trade_94 hX10_takeToday lkX10_190 ⟨by decide, by decide⟩ (by decide) rfl (by decide) rfl rfl rfl (Nat.le_of_ble_eq_true rfl) rfl (Nat.le_of_ble_eq_true rfl) ⟨Nat.le_refl _, Nat.le_refl _⟩ (am_R.mono wp (fun r h' q => am_R.forget q ⟨rfl, ⟨rfl, ⟨rfl, ⟨rfl, trivial⟩⟩⟩⟩))
                  · have wp := wp.2 hc13
                    refine am_bipush (-4) rfl dX10_trade_90 ?_
                    exact am_iret dX10_trade_92 rfl rfl wp
        · have wp := wp.2 hc8
          show am_R E mX10_trade 29 [some (.ref 48), some (.int a1), some (.int a2), some (.int a3)] [.int 0] (hp I J b) 64 64 Q
          refine am_if_ne dX10_trade_29 (tgt := 35) rfl (fun hc => absurd hc (by decide)) (fun _ => ?_)
          refine am_bipush (-2) rfl dX10_trade_32 ?_
          exact am_iret dX10_trade_34 rfl rfl wp
    · have wp := wp.2 hc2
      show am_R E mX10_trade 13 [some (.ref 48), some (.int a1), some (.int a2), some (.int a3)] [.int 0] (hp I J b) 64 64 Q
      refine am_if_eq dX10_trade_13 (tgt := 32) rfl (fun _ => ?_) (fun hc => absurd hc (by decide))
      refine am_bipush (-2) rfl dX10_trade_32 ?_
      exact am_iret dX10_trade_34 rfl rfl wp
  · have wp := wp.2 hc1
    show am_R E mX10_trade 5 [some (.ref 48), some (.int a1), some (.int a2), some (.int a3)] [.int 0] (hp I J b) 64 64 Q
    refine am_if_eq dX10_trade_5 (tgt := 32) rfl (fun _ => ?_) (fun hc => absurd hc (by decide))
    refine am_bipush (-2) rfl dX10_trade_32 ?_
    exact am_iret dX10_trade_34 rfl rfl wp
theorem bX10_trade_97 {E : Nat × (Nat → Int32)} {I : Nat → Nat → Int32} {J : Nat → Nat → Int64} {b : Bool} {a1 : Int32} {a2 : Int32} {a3 : Int32} {Q : Option Value → am_H → Prop}  (wp : am_R E mX10_isWanted 0 [some (.ref 48), some (.int a1), some (.int a2), some (.int a3)] [] (hp I J b) 64 64 (fun r h' => am_R E mX10_trade 104 [some (.ref 48), some (.int a1), some (.int a2), some (.int a3)] (r.toList ++ []) h' 64 64 Q)) : am_R E mX10_trade 97 [some (.ref 48), some (.int a1), some (.int a2), some (.int a3)] [] (hp I J b) 64 64 Q := by
  refine am_aload_n rfl rfl dX10_trade_97 ?_
  refine am_iload_n rfl rfl dX10_trade_98 ?_
  refine am_iload_n rfl rfl dX10_trade_99 ?_
  refine am_iload_n rfl rfl dX10_trade_100 ?_
  refine am_invV (ci := 8) (As := [.int a1, .int a2, .int a3]) (lsZ := [some (.ref 48), some (.int a1), some (.int a2), some (.int a3)]) (st := []) dX10_trade_101 hX10_isWanted lkX10_193 ⟨by decide, by decide⟩ (by decide) rfl (by decide) rfl rfl rfl (Nat.le_of_ble_eq_true rfl) rfl (Nat.le_of_ble_eq_true rfl) ⟨Nat.le_refl _, Nat.le_refl _⟩ (am_R.mono wp (fun r h' q => am_R.forget q ⟨rfl, ⟨rfl, ⟨rfl, ⟨rfl, trivial⟩⟩⟩⟩))
theorem bX10_trade_104 {E : Nat × (Nat → Int32)} {I : Nat → Nat → Int32} {J : Nat → Nat → Int64} {b : Bool} {a1 : Int32} {a2 : Int32} {a3 : Int32} {x0 : Int32} {Q : Option Value → am_H → Prop}  (wp : ((¬ x0 = 0 → am_R E mX10_goRing 0 [some (.ref 48), some (.int a1), some (.int a2), some (.int a3), none] [] (hp I J b) 64 64 (fun r h' => am_R E mX10_trade 117 [some (.ref 48), none, none, none] (r.toList ++ []) h' 64 64 Q)) ∧ (x0 = 0 → Q (some (.int (-4))) (hp I J b)))) : am_R E mX10_trade 104 [some (.ref 48), some (.int a1), some (.int a2), some (.int a3)] [.int x0] (hp I J b) 64 64 Q := by
  refine am_if_ne dX10_trade_104 (tgt := 110) rfl (fun hc1 => ?_) (fun hc1 => ?_)
  · have wp := wp.1 hc1
    refine am_aload_n rfl rfl dX10_trade_110 ?_
    refine am_iload_n rfl rfl dX10_trade_111 ?_
    refine am_iload_n rfl rfl dX10_trade_112 ?_
    refine am_iload_n rfl rfl dX10_trade_113 ?_
    refine am_invV (ci := 8) (As := [.int a1, .int a2, .int a3]) (lsZ := [some (.ref 48), some (.int a1), some (.int a2), some (.int a3), none]) (st := []) dX10_trade_114 hX10_goRing lkX10_196 ⟨by decide, by decide⟩ (by decide) rfl (by decide) rfl rfl rfl (Nat.le_of_ble_eq_true rfl) rfl (Nat.le_of_ble_eq_true rfl) ⟨Nat.le_refl _, Nat.le_refl _⟩ (am_R.mono wp (fun r h' q => am_R.forget q ⟨rfl, trivial⟩))
  · have wp := wp.2 hc1
    refine am_bipush (-4) rfl dX10_trade_107 ?_
    exact am_iret dX10_trade_109 rfl rfl wp
theorem bX10_trade_117 {E : Nat × (Nat → Int32)} {I : Nat → Nat → Int32} {J : Nat → Nat → Int64} {b : Bool}  {Q : Option Value → am_H → Prop}  (wp : am_R E mX10_putToday 0 [some (.ref 48), none] [] (hp I J b) 64 64 (fun r h' => am_R E mX10_trade 121 [some (.ref 48), none, none, none] (r.toList ++ []) h' 64 64 Q)) : am_R E mX10_trade 117 [some (.ref 48), none, none, none] [] (hp I J b) 64 64 Q := by
  refine am_aload_n rfl rfl dX10_trade_117 ?_
  refine am_invV (ci := 8) (As := []) (lsZ := [some (.ref 48), none]) (st := []) dX10_trade_118 hX10_putToday lkX10_183 ⟨by decide, by decide⟩ (by decide) rfl (by decide) rfl rfl rfl (Nat.le_of_ble_eq_true rfl) rfl (Nat.le_of_ble_eq_true rfl) ⟨Nat.le_refl _, Nat.le_refl _⟩ (am_R.mono wp (fun r h' q => am_R.forget q ⟨rfl, trivial⟩))
theorem bX10_trade_121 {E : Nat × (Nat → Int32)} {I : Nat → Nat → Int32} {J : Nat → Nat → Int64} {b : Bool}  {Q : Option Value → am_H → Prop}  (wp : am_R E mX10_gladnessOf 0 [some (.ref 48), none, none] [] (hp I J b) 64 64 (fun r h' => am_R E mX10_trade 125 [none, none, none, none] (r.toList ++ []) h' 64 64 Q)) : am_R E mX10_trade 121 [some (.ref 48), none, none, none] [] (hp I J b) 64 64 Q := by
  refine am_aload_n rfl rfl dX10_trade_121 ?_
  refine am_invV (ci := 8) (As := []) (lsZ := [some (.ref 48), none, none]) (st := []) dX10_trade_122 hX10_gladnessOf lkX10_200 ⟨by decide, by decide⟩ (by decide) rfl (by decide) rfl rfl rfl (Nat.le_of_ble_eq_true rfl) rfl (Nat.le_of_ble_eq_true rfl) ⟨Nat.le_refl _, Nat.le_refl _⟩ (am_R.mono wp (fun r h' q => am_R.forget q trivial))
theorem bX10_trade_125 {E : Nat × (Nat → Int32)} {I : Nat → Nat → Int32} {J : Nat → Nat → Int64} {b : Bool} {x0 : Int32} {Q : Option Value → am_H → Prop}  (wp : Q (some (.int x0)) (hp I J b)) : am_R E mX10_trade 125 [none, none, none, none] [.int x0] (hp I J b) 64 64 Q := by
  exact am_iret dX10_trade_125 rfl rfl wp
theorem p_trade (hI : Inv I n) (a1 a2 a3 : Int32) : Pair E mX9_trade mX10_trade [some (.ref 0), some (.int a1), some (.int a2), some (.int a3)] [some (.ref 48), some (.int a1), some (.int a2), some (.int a3)] I J b := by
  have hI0 := hI
  obtain ⟨hM, hC⟩ := hI
  obtain ⟨hN, hG, -, hL, -, -, hD, -⟩ := hM
  obtain ⟨hCH, c2, -, -, -, c5, -⟩ := hC
  obtain ⟨n0, n2, n7⟩ := hN
  have hN : Nn I n := ⟨n0, n2, n7⟩
  have e0 : I 4 0 = nI n := hCH.1
  have hY : Yw I n := hD.2.2.1
  have r10 : rowc 10 := Or.inl rfl
  have hm1 : ∀ e : Nat, e < 7 → ¬ nI e = (-1 : Int32) := by decide
  have im : ∀ a : Int32, (0 ≤ a ∧ a ≤ nI n - 1) = (0 ≤ a ∧ a < nI n) := fun a => propext (in_mod (by omega) n7)
  have n20 : ¬ (nI 2 : Int32) = 3 := by decide
  have n21 : ¬ (nI 2 : Int32) = 0 := by decide
  have n30 : ¬ (nI 3 : Int32) = 0 := by decide
  have n31 : (nI 3 : Int32) = 3 := by decide
  have n00 : ¬ (nI 0 : Int32) = 3 := by decide
  have n01 : (nI 0 : Int32) = 0 := by decide
  by_cases h1 : 0 ≤ a1 ∧ a1 < nI n
  case neg => exact Pair.same hI0 (.int (-2)) (fun Q h => bX9_trade_0 (by rw [e0]; (repeat' (first | exact h | contradiction | apply And.intro | intro _)))) (fun J b Q h => bX10_trade_0 (by rw [n0, im, im, im]; (repeat' (first | exact h | contradiction | apply And.intro | intro _))))
  by_cases h2 : 0 ≤ a2 ∧ a2 < nI n
  case neg => exact Pair.same hI0 (.int (-2)) (fun Q h => bX9_trade_0 (by rw [e0]; (repeat' (first | exact h | contradiction | apply And.intro | intro _)))) (fun J b Q h => bX10_trade_0 (by rw [n0, im, im, im]; (repeat' (first | exact h | contradiction | apply And.intro | intro _))))
  obtain ⟨x, hx, rfl⟩ := in_cls n7 h1
  obtain ⟨y, hy, rfl⟩ := in_cls n7 h2
  have x1 := hm1 x (by omega)
  have y1 := hm1 y (by omega)
  rcases hG with g0 | g2 | g3
  · have g4 : I 4 1 = 0 := c2.trans g0
    have z3 : ¬ (0 : Int32) = 3 := by decide
    have z0 : (0 : Int32) = 0 := rfl
    by_cases h3 : a3 = -1
    case neg => exact Pair.same hI0 (.int (-3)) (fun Q h => bX9_trade_0 (by rw [e0, g4]; (repeat' (first | exact h | contradiction | apply And.intro | intro _)))) (fun J b Q h => bX10_trade_0 (by rw [n0, g0, im, im, im]; (repeat' (first | exact h | contradiction | apply And.intro | intro _))))
    subst h3
    by_cases hxy : nI x = nI y
    case pos => exact Pair.same hI0 (.int (-3)) (fun Q h => bX9_trade_0 (by rw [e0, g4]; (repeat' (first | exact h | contradiction | apply And.intro | intro _)))) (fun J b Q h => bX10_trade_0 (by rw [n0, g0, im, im, im]; (repeat' (first | exact h | contradiction | apply And.intro | intro _))))
    exact Pair.same hI0 (.int (-4)) (fun Q h => bX9_trade_0 (by rw [e0, g4]; (repeat' (first | exact h | contradiction | apply And.intro | intro _)))) (fun J b Q h => bX10_trade_0 (by rw [n0, g0, im, im, im]; (repeat' (first | exact h | contradiction | apply And.intro | intro _))))
  · have g4 : I 4 1 = 2 := c2.trans g2
    have z3 : ¬ (2 : Int32) = 3 := by decide
    have z0 : ¬ (2 : Int32) = 0 := by decide
    by_cases h3 : a3 = -1
    case neg => exact Pair.same hI0 (.int (-3)) (fun Q h => bX9_trade_0 (by rw [e0, g4]; (repeat' (first | exact h | contradiction | apply And.intro | intro _)))) (fun J b Q h => bX10_trade_0 (by rw [n0, g2, im, im, im]; (repeat' (first | exact h | contradiction | apply And.intro | intro _))))
    subst h3
    by_cases hxy : nI x = nI y
    case pos => exact Pair.same hI0 (.int (-3)) (fun Q h => bX9_trade_0 (by rw [e0, g4]; (repeat' (first | exact h | contradiction | apply And.intro | intro _)))) (fun J b Q h => bX10_trade_0 (by rw [n0, g2, im, im, im]; (repeat' (first | exact h | contradiction | apply And.intro | intro _))))
    have hxy' : x ≠ y := fun q => hxy (by rw [q])
    rcases hD.1 with z | z
    · have z9 : I 9 0 = 0 := c5.1.trans z
      exact Pair.same hI0 (.int (-4)) (fun Q h => bX9_trade_0 (by rw [e0, g4]; (repeat' (first | exact h | contradiction | apply And.intro | intro _)))) (fun J b Q h => bX10_trade_0 (by rw [n0, g2, im, im, im]; (repeat' (first | exact h | contradiction | apply And.intro | intro _))))
    · obtain ⟨p, hp1, hp2⟩ := hD.2.1 z
      have nz1 : ¬ I 9 0 = 0 := by rw [c5.1, z]; decide
      have nz2 : ¬ I 55 0 = 0 := by rw [z]; decide
      have hR : Rw (I 10) p n := fun m hm => ⟨by rw [c5.2.2.1 z m hm]; exact hp1 m hm, hp2.1 m hm⟩
      have hR2 := tk_rw (I := I) n7 hp1 hp2
      by_cases hw : wt2 I p x y
      · refine ⟨.int (sm (fun m => I 50 (7 * m + sw2 p x y m)) n), fun I1 => I1 = u1 I 10 (sw2 (I 10) x y), fun Q h => bX9_trade_0 ?_, fun I1 J1 b1 e Q h => ?_⟩
        · rw [e0, g4]
          have hL : am_R E mX5_isWanted 0 [some (.ref 23), some (.ref 10), some (.int (nI x)), some (.int (nI y)), some (.int (-1))] [] (hp I J b) 64 64 (fun r h' => am_R E mX9_trade 109 [some (.ref 0), some (.int (nI x)), some (.int (nI y)), some (.int (-1))] (r.toList ++ []) h' 64 64 Q) := by
            refine tX5_isWanted2 (p := p) r10 hCH hR rfl rfl rfl hx hy (fun _ => ?_) (fun q => absurd hw q)
            refine bX9_trade_109 ⟨fun _ => tX5_pass r10 rfl (by omega) rfl (by omega) (Or.inl rfl) (fun _ => ?_) (fun z e hz => absurd e.symm (hm1 z hz)), fun q => absurd q (by decide)⟩
            refine bX9_trade_128 (tX2_gladnessOf (p := sw2 p x y) r10 (hCH.row r10 _) (by rw [u1_s]; exact hR.s2 hx hy) (bX9_trade_142 ?_))
            exact h _ J b rfl
          (repeat' (first | exact hL | contradiction | apply And.intro | intro _))
        · subst e
          refine bX10_trade_0 ?_
          rw [show (u1 I 10 (sw2 (I 10) x y)) 48 = I 48 from rfl, show (u1 I 10 (sw2 (I 10) x y)) 55 = I 55 from rfl, n0, g2, im, im, im]
          have hL : am_R E mX10_takeToday 0 [some (.ref 48), none] [] (hp (u1 I 10 (sw2 (I 10) x y)) J1 b1) 64 64 (fun r h' => am_R E mX10_trade 97 [some (.ref 48), some (.int (nI x)), some (.int (nI y)), some (.int (-1))] (r.toList ++ []) h' 64 64 Q) := by
            refine tX10_takeToday (n := n) hN ?_
            refine bX10_trade_97 (tX10_isWanted2 (p := p) rfl rfl rfl n7 hx hy hY (by rw [u1_s]; exact hR2) (fun _ => ?_) (fun q => absurd hw q))
            refine bX10_trade_104 ⟨fun _ => tX10_goRing rfl (by omega) rfl (by omega) (Or.inl rfl) (fun _ => ?_) (fun z e hz => absurd e.symm (hm1 z hz)), fun q => absurd q (by decide)⟩
            rw [u1_u1, u1_s]
            have hR3 : Rw (sw2 (va_cpy (u1 I 10 (sw2 (I 10) x y) 55) (u1 I 10 (sw2 (I 10) x y) 58) 1 0 n) x y) (sw2 p x y) n := Rw.s2 hR2 hx hy
            refine bX10_trade_117 (tX10_putToday (n := n) hN ?_)
            rw [u1_s]
            refine bX10_trade_121 (tX10_gladnessOf (n := n) (p := sw2 p x y) hN hR3 (bX10_trade_125 ?_))
            obtain ⟨p1, p2, p3⟩ := put_at (f := I 55) hR3
            exact h _ J1 b1 n (Inv.day (p := sw2 p x y) hI0 ⟨⟨rfl, rfl, rfl, rfl⟩, ⟨rfl, rfl, rfl, rfl, rfl, rfl, rfl⟩, ⟨rfl, rfl, rfl, rfl, rfl, rfl, rfl, rfl, rfl, rfl, rfl, rfl, rfl, rfl, rfl, rfl⟩, ⟨rfl, rfl, rfl, rfl, rfl, rfl, rfl, rfl⟩⟩ (c5.1.trans z) rfl (fun m hm => ((hR.s2 hx hy) m hm).1) p1 p2 (fun j hj => p3 j hj n7) (hp2.s2 hx hy))
          (repeat' (first | exact hL | contradiction | apply And.intro | intro _))
      · refine ⟨.int (-4), fun I1 => I1 = I, fun Q h => bX9_trade_0 ?_, fun I1 J1 b1 e Q h => ?_⟩
        · rw [e0, g4]
          have hL : am_R E mX5_isWanted 0 [some (.ref 23), some (.ref 10), some (.int (nI x)), some (.int (nI y)), some (.int (-1))] [] (hp I J b) 64 64 (fun r h' => am_R E mX9_trade 109 [some (.ref 0), some (.int (nI x)), some (.int (nI y)), some (.int (-1))] (r.toList ++ []) h' 64 64 Q) :=
            tX5_isWanted2 (p := p) r10 hCH hR rfl rfl rfl hx hy (fun q => absurd q hw) (fun _ => bX9_trade_109 ⟨fun q => absurd rfl q, fun _ => h _ J b rfl⟩)
          (repeat' (first | exact hL | contradiction | apply And.intro | intro _))
        · subst e
          refine bX10_trade_0 ?_
          rw [n0, g2, im, im, im]
          have hL : am_R E mX10_takeToday 0 [some (.ref 48), none] [] (hp I1 J1 b1) 64 64 (fun r h' => am_R E mX10_trade 97 [some (.ref 48), some (.int (nI x)), some (.int (nI y)), some (.int (-1))] (r.toList ++ []) h' 64 64 Q) := by
            refine tX10_takeToday (n := n) hN ?_
            refine bX10_trade_97 (tX10_isWanted2 (p := p) rfl rfl rfl n7 hx hy hY (by rw [u1_s]; exact hR2) (fun q => absurd q hw) (fun _ => ?_))
            exact bX10_trade_104 ⟨fun q => absurd rfl q, fun _ => h _ J1 b1 n (hI0.sa ⟨⟨⟨rfl, rfl, rfl, rfl, rfl, rfl, rfl, rfl, rfl⟩, ⟨rfl, rfl, rfl, rfl, rfl, rfl, rfl, rfl, rfl, rfl, rfl, rfl, rfl, rfl, rfl, rfl⟩, ⟨rfl, rfl, rfl, rfl, rfl, rfl, rfl, rfl, rfl⟩⟩, ⟨rfl, rfl, rfl, rfl⟩⟩)⟩
          (repeat' (first | exact hL | contradiction | apply And.intro | intro _))
  · have g4 : I 4 1 = 3 := c2.trans g3
    have z3 : (3 : Int32) = 3 := rfl
    have z0 : ¬ (3 : Int32) = 0 := by decide
    by_cases h3 : 0 ≤ a3 ∧ a3 < nI n
    case neg => exact Pair.same hI0 (.int (-2)) (fun Q h => bX9_trade_0 (by rw [e0, g4]; (repeat' (first | exact h | contradiction | apply And.intro | intro _)))) (fun J b Q h => bX10_trade_0 (by rw [n0, g3, im, im, im]; (repeat' (first | exact h | contradiction | apply And.intro | intro _))))
    obtain ⟨w, hw7, rfl⟩ := in_cls n7 h3
    have w1 := hm1 w (by omega)
    by_cases hxy : nI x = nI y
    case pos => exact Pair.same hI0 (.int (-3)) (fun Q h => bX9_trade_0 (by rw [e0, g4]; (repeat' (first | exact h | contradiction | apply And.intro | intro _)))) (fun J b Q h => bX10_trade_0 (by rw [n0, g3, im, im, im]; (repeat' (first | exact h | contradiction | apply And.intro | intro _))))
    by_cases hxw : nI x = nI w
    case pos => exact Pair.same hI0 (.int (-3)) (fun Q h => bX9_trade_0 (by rw [e0, g4]; (repeat' (first | exact h | contradiction | apply And.intro | intro _)))) (fun J b Q h => bX10_trade_0 (by rw [n0, g3, im, im, im]; (repeat' (first | exact h | contradiction | apply And.intro | intro _))))
    by_cases hyw : nI y = nI w
    case pos => exact Pair.same hI0 (.int (-3)) (fun Q h => bX9_trade_0 (by rw [e0, g4]; (repeat' (first | exact h | contradiction | apply And.intro | intro _)))) (fun J b Q h => bX10_trade_0 (by rw [n0, g3, im, im, im]; (repeat' (first | exact h | contradiction | apply And.intro | intro _))))
    have hxy' : x ≠ y := fun q => hxy (by rw [q])
    have hxw' : x ≠ w := fun q => hxw (by rw [q])
    have hyw' : y ≠ w := fun q => hyw (by rw [q])
    rcases hD.1 with z | z
    · have z9 : I 9 0 = 0 := c5.1.trans z
      exact Pair.same hI0 (.int (-4)) (fun Q h => bX9_trade_0 (by rw [e0, g4]; (repeat' (first | exact h | contradiction | apply And.intro | intro _)))) (fun J b Q h => bX10_trade_0 (by rw [n0, g3, im, im, im]; (repeat' (first | exact h | contradiction | apply And.intro | intro _))))
    · obtain ⟨p, hp1, hp2⟩ := hD.2.1 z
      have nz1 : ¬ I 9 0 = 0 := by rw [c5.1, z]; decide
      have nz2 : ¬ I 55 0 = 0 := by rw [z]; decide
      have hR : Rw (I 10) p n := fun m hm => ⟨by rw [c5.2.2.1 z m hm]; exact hp1 m hm, hp2.1 m hm⟩
      have hR2 := tk_rw (I := I) n7 hp1 hp2
      by_cases hw : wt3 I p x y w
      · refine ⟨.int (sm (fun m => I 50 (7 * m + sw3 p x y w m)) n), fun I1 => I1 = u1 I 10 (sw3 (I 10) x y w), fun Q h => bX9_trade_0 ?_, fun I1 J1 b1 e Q h => ?_⟩
        · rw [e0, g4]
          have hL : am_R E mX5_isWanted 0 [some (.ref 23), some (.ref 10), some (.int (nI x)), some (.int (nI y)), some (.int (nI w))] [] (hp I J b) 64 64 (fun r h' => am_R E mX9_trade 109 [some (.ref 0), some (.int (nI x)), some (.int (nI y)), some (.int (nI w))] (r.toList ++ []) h' 64 64 Q) := by
            refine tX5_isWanted3 (p := p) r10 hCH hR rfl rfl rfl hx hy hw7 (fun _ => ?_) (fun q => absurd hw q)
            refine bX9_trade_109 ⟨fun _ => tX5_pass r10 rfl (by omega) rfl (by omega) (Or.inr ⟨w, rfl, by omega, Ne.symm hxw'⟩) (fun q => absurd q w1) (fun z e hz => ?_), fun q => absurd q (by decide)⟩
            have ez : w = z := (nI_eq (by omega) (by omega)).mp e
            rw [← ez]
            refine bX9_trade_128 (tX2_gladnessOf (p := sw3 p x y w) r10 (hCH.row r10 _) (by rw [u1_s]; exact hR.s3 hx hy hw7) (bX9_trade_142 ?_))
            exact h _ J b rfl
          (repeat' (first | exact hL | contradiction | apply And.intro | intro _))
        · subst e
          refine bX10_trade_0 ?_
          rw [show (u1 I 10 (sw3 (I 10) x y w)) 48 = I 48 from rfl, show (u1 I 10 (sw3 (I 10) x y w)) 55 = I 55 from rfl, n0, g3, im, im, im]
          have hL : am_R E mX10_takeToday 0 [some (.ref 48), none] [] (hp (u1 I 10 (sw3 (I 10) x y w)) J1 b1) 64 64 (fun r h' => am_R E mX10_trade 97 [some (.ref 48), some (.int (nI x)), some (.int (nI y)), some (.int (nI w))] (r.toList ++ []) h' 64 64 Q) := by
            refine tX10_takeToday (n := n) hN ?_
            refine bX10_trade_97 (tX10_isWanted3 (p := p) rfl rfl rfl n7 hx hy hw7 hY (by rw [u1_s]; exact hR2) (fun _ => ?_) (fun q => absurd hw q))
            refine bX10_trade_104 ⟨fun _ => tX10_goRing rfl (by omega) rfl (by omega) (Or.inr ⟨w, rfl, by omega, Ne.symm hxw'⟩) (fun q => absurd q w1) (fun z e hz => ?_), fun q => absurd q (by decide)⟩
            have ez : w = z := (nI_eq (by omega) (by omega)).mp e
            rw [← ez]
            rw [u1_u1, u1_s]
            have hR3 : Rw (sw3 (va_cpy (u1 I 10 (sw3 (I 10) x y w) 55) (u1 I 10 (sw3 (I 10) x y w) 58) 1 0 n) x y w) (sw3 p x y w) n := Rw.s3 hR2 hx hy hw7
            refine bX10_trade_117 (tX10_putToday (n := n) hN ?_)
            rw [u1_s]
            refine bX10_trade_121 (tX10_gladnessOf (n := n) (p := sw3 p x y w) hN hR3 (bX10_trade_125 ?_))
            obtain ⟨p1, p2, p3⟩ := put_at (f := I 55) hR3
            exact h _ J1 b1 n (Inv.day (p := sw3 p x y w) hI0 ⟨⟨rfl, rfl, rfl, rfl⟩, ⟨rfl, rfl, rfl, rfl, rfl, rfl, rfl⟩, ⟨rfl, rfl, rfl, rfl, rfl, rfl, rfl, rfl, rfl, rfl, rfl, rfl, rfl, rfl, rfl, rfl⟩, ⟨rfl, rfl, rfl, rfl, rfl, rfl, rfl, rfl⟩⟩ (c5.1.trans ‹I 55 0 = 1›) rfl (fun m hm => ((hR.s3 hx hy hw7) m hm).1) p1 p2 (fun j hj => p3 j hj n7) (hp2.s3 hx hy hw7 hxy' hxw' hyw'))
          (repeat' (first | exact hL | contradiction | apply And.intro | intro _))
      · refine ⟨.int (-4), fun I1 => I1 = I, fun Q h => bX9_trade_0 ?_, fun I1 J1 b1 e Q h => ?_⟩
        · rw [e0, g4]
          have hL : am_R E mX5_isWanted 0 [some (.ref 23), some (.ref 10), some (.int (nI x)), some (.int (nI y)), some (.int (nI w))] [] (hp I J b) 64 64 (fun r h' => am_R E mX9_trade 109 [some (.ref 0), some (.int (nI x)), some (.int (nI y)), some (.int (nI w))] (r.toList ++ []) h' 64 64 Q) :=
            tX5_isWanted3 (p := p) r10 hCH hR rfl rfl rfl hx hy hw7 (fun q => absurd q hw) (fun _ => bX9_trade_109 ⟨fun q => absurd rfl q, fun _ => h _ J b rfl⟩)
          (repeat' (first | exact hL | contradiction | apply And.intro | intro _))
        · subst e
          refine bX10_trade_0 ?_
          rw [n0, g3, im, im, im]
          have hL : am_R E mX10_takeToday 0 [some (.ref 48), none] [] (hp I1 J1 b1) 64 64 (fun r h' => am_R E mX10_trade 97 [some (.ref 48), some (.int (nI x)), some (.int (nI y)), some (.int (nI w))] (r.toList ++ []) h' 64 64 Q) := by
            refine tX10_takeToday (n := n) hN ?_
            refine bX10_trade_97 (tX10_isWanted3 (p := p) rfl rfl rfl n7 hx hy hw7 hY (by rw [u1_s]; exact hR2) (fun q => absurd q hw) (fun _ => ?_))
            exact bX10_trade_104 ⟨fun q => absurd rfl q, fun _ => h _ J1 b1 n (hI0.sa ⟨⟨⟨rfl, rfl, rfl, rfl, rfl, rfl, rfl, rfl, rfl⟩, ⟨rfl, rfl, rfl, rfl, rfl, rfl, rfl, rfl, rfl, rfl, rfl, rfl, rfl, rfl, rfl, rfl⟩, ⟨rfl, rfl, rfl, rfl, rfl, rfl, rfl, rfl, rfl⟩⟩, ⟨rfl, rfl, rfl, rfl⟩⟩)⟩
          (repeat' (first | exact hL | contradiction | apply And.intro | intro _))
end P5
