/-! ===== lines are done ===== -/
section P23
variable {E : Nat × (Nat → Int32)} {I I0 I' I2 : Nat → Nat → Int32} {J J' : Nat → Nat → Int64} {b : Bool} {n : Nat} {Q : Option Value → am_H → Prop}
variable {T : Nat → Int32} {L p : Nat}
/-- what is told: monks, ring, skills, likings, kinds, yesterday -/
abbrev HT : Type := Nat × Int32 × (Nat → Int32) × (Nat → Int32) × (Nat → Int32) × (Nat → Int32)
def opn (mo : Nat) : HT := (mo, 3, fun _ => 5, fun _ => 5, fun _ => 0, fun _ => -1)
def obs : HT → Nat × (Nat → Nat) → HT
  | (mo, rg, sk, lk, kd, di), (i, xs) =>
    if i = 0 then opn (xs 1)
    else if i = 1 then (mo, rg, upd sk (7 * xs 1 + xs 2) (nI (xs 3)), lk, kd, di)
    else if i = 2 then (mo, rg, sk, upd lk (7 * xs 1 + xs 2) (nI (xs 3)), kd, di)
    else if i = 7 then (mo, nI (xs 1), sk, lk, kd, di)
    else if i = 8 then (mo, rg, sk, lk, kd, upd di (xs 1) (nI (xs 2)))
    else (mo, rg, sk, lk, upd kd (xs 1) (nI (mvc i - 5)), di)
theorem obs_eq (mo : Nat) (rg : Int32) (sk lk kd di : Nat → Int32) (i : Nat) (xs : Nat → Nat) : obs (mo, rg, sk, lk, kd, di) (i, xs) = (
    if i = 0 then opn (xs 1)
    else if i = 1 then (mo, rg, upd sk (7 * xs 1 + xs 2) (nI (xs 3)), lk, kd, di)
    else if i = 2 then (mo, rg, sk, upd lk (7 * xs 1 + xs 2) (nI (xs 3)), kd, di)
    else if i = 7 then (mo, nI (xs 1), sk, lk, kd, di)
    else if i = 8 then (mo, rg, sk, lk, kd, upd di (xs 1) (nI (xs 2)))
    else (mo, rg, sk, lk, upd kd (xs 1) (nI (mvc i - 5)), di)) := rfl
def Fit (d : Nat × (Nat → Nat)) (mo : Nat) : Prop := d.1 < 9 ∧ ∀ u, 1 ≤ u → u < 1 + cntN d.1 → fitN d.1 u (d.2 u) mo = true
def CR (I : Nat → Nat → Int32) : HT → Prop
  | (mo, rg, sk, lk, kd, di) => I 4 0 = nI mo ∧ I 4 1 = rg ∧ (∀ j, j < 49 → I 5 j = sk j) ∧ (∀ j, j < 49 → I 6 j = lk j) ∧ (∀ d, d < 7 → I 7 d = kd d + 1) ∧ ∀ m, m < 7 → I 8 m = di m
def MR (I : Nat → Nat → Int32) : HT → Prop
  | (mo, rg, sk, lk, kd, di) => I 48 0 = nI mo ∧ I 48 1 = rg ∧ (∀ j, j < 49 → I 49 j = sk j) ∧ (∀ j, j < 49 → I 50 j = lk j) ∧ (∀ d, d < 7 → I 51 d = kd d) ∧ ∀ m, m < 7 → I 52 m = di m
def Gd : HT → Prop
  | (mo, rg, sk, lk, kd, di) => (2 ≤ mo ∧ mo ≤ 7) ∧ (rg = 0 ∨ rg = 2 ∨ rg = 3) ∧ (∀ j, j < 49 → ∃ v, v ≤ 9 ∧ sk j = nI v) ∧ (∀ j, j < 49 → ∃ v, v ≤ 9 ∧ lk j = nI v) ∧ (∀ d, d < 7 → ∃ v, v ≤ 3 ∧ kd d = nI v) ∧ ∀ m, m < 7 → di m = -1 ∨ ∃ e, e < mo ∧ di m = nI e
theorem upd_at {f : Nat → Int32} {k j : Nat} {x : Int32} : upd f k x j = if j = k then x else f j := rfl
theorem obs_fst (s : HT) (d : Nat × (Nat → Nat)) : (obs s d).1 = if d.1 = 0 then d.2 1 else s.1 := by
  obtain ⟨mo, rg, sk, lk, kd, di⟩ := s
  obtain ⟨i, xs⟩ := d
  rw [obs_eq]
  show _ = if i = 0 then xs 1 else mo
  by_cases h0 : i = 0
  · rw [if_pos h0, if_pos h0]; rfl
  · rw [if_neg h0, if_neg h0]
    by_cases h1 : i = 1
    · rw [if_pos h1]
    · rw [if_neg h1]
      by_cases h2 : i = 2
      · rw [if_pos h2]
      · rw [if_neg h2]
        by_cases h7 : i = 7
        · rw [if_pos h7]
        · rw [if_neg h7]
          by_cases h8 : i = 8
          · rw [if_pos h8]
          · rw [if_neg h8]
theorem Gd.op {mo : Nat} (h : 2 ≤ mo ∧ mo ≤ 7) : Gd (opn mo) := ⟨h, Or.inr (Or.inr rfl), fun _ _ => ⟨5, by decide, rfl⟩, fun _ _ => ⟨5, by decide, rfl⟩, fun _ _ => ⟨0, by decide, rfl⟩, fun _ _ => Or.inl rfl⟩
theorem Fit.num {i mo u : Nat} {xs : Nat → Nat} (h : Fit (i, xs) mo) (h0 : ¬ i = 0) (h7 : ¬ i = 7) (u1 : 1 ≤ u) (u2 : u < 1 + cntN i) : if u = 3 then xs u ≤ 9 else xs u < mo := by
  have := h.2 u u1 u2
  unfold fitN at this
  rw [if_neg h0, if_neg h7] at this
  by_cases q : u = 3
  · rw [if_pos q] at this ⊢; exact of_decide_eq_true this
  · rw [if_neg q] at this ⊢; exact of_decide_eq_true this
theorem Gd.ob {s : HT} {d : Nat × (Nat → Nat)} (h : Gd s) (hf : Fit d s.1) : Gd (obs s d) := by
  obtain ⟨mo, rg, sk, lk, kd, di⟩ := s
  obtain ⟨i, xs⟩ := d
  obtain ⟨g1, g2, g3, g4, g5, g6⟩ := h
  have hf : Fit (i, xs) mo := hf
  have hi : i < 9 := hf.1
  rw [obs_eq]
  by_cases h0 : i = 0
  · rw [if_pos h0]
    have := hf.2 1 (by decide) (by show 1 < 1 + cntN i; rw [h0]; decide)
    unfold fitN at this
    rw [if_pos h0] at this
    exact Gd.op (of_decide_eq_true this)
  · rw [if_neg h0]
    by_cases h1 : i = 1
    · rw [if_pos h1]
      have x3 := hf.num (u := 3) h0 (by omega) (by decide) (by rw [h1]; decide)
      rw [if_pos rfl] at x3
      refine ⟨g1, g2, fun j hj => ?_, g4, g5, g6⟩
      rw [upd_at]
      split
      · exact ⟨_, x3, rfl⟩
      · exact g3 j hj
    · rw [if_neg h1]
      by_cases h2 : i = 2
      · rw [if_pos h2]
        have x3 := hf.num (u := 3) h0 (by omega) (by decide) (by rw [h2]; decide)
        rw [if_pos rfl] at x3
        refine ⟨g1, g2, g3, fun j hj => ?_, g5, g6⟩
        rw [upd_at]
        split
        · exact ⟨_, x3, rfl⟩
        · exact g4 j hj
      · rw [if_neg h2]
        by_cases h7 : i = 7
        · rw [if_pos h7]
          have := hf.2 1 (by decide) (by show 1 < 1 + cntN i; rw [h7]; decide)
          unfold fitN at this
          rw [if_neg h0, if_pos h7] at this
          have this := of_decide_eq_true this
          refine ⟨g1, ?_, g3, g4, g5, g6⟩
          rcases this with z | z | z
          · left; show nI (xs 1) = 0; rw [show xs 1 = 0 from z]; rfl
          · right; left; show nI (xs 1) = 2; rw [show xs 1 = 2 from z]; rfl
          · right; right; show nI (xs 1) = 3; rw [show xs 1 = 3 from z]; rfl
        · rw [if_neg h7]
          by_cases h8 : i = 8
          · rw [if_pos h8]
            have x2 := hf.num (u := 2) h0 h7 (by decide) (by rw [h8]; decide)
            rw [if_neg (by decide)] at x2
            refine ⟨g1, g2, g3, g4, g5, fun m hm => ?_⟩
            rw [upd_at]
            split
            · exact Or.inr ⟨_, x2, rfl⟩
            · exact g6 m hm
          · rw [if_neg h8]
            refine ⟨g1, g2, g3, g4, fun d hd => ?_, g6⟩
            rw [upd_at]
            split
            · refine ⟨_, ?_, rfl⟩
              rcases (show i = 3 ∨ i = 4 ∨ i = 5 ∨ i = 6 by omega) with rfl | rfl | rfl | rfl <;> decide
            · exact g5 d hd
/-- the class opens a house -/
theorem bX2_open_0 {E : Nat × (Nat → Int32)} {I : Nat → Nat → Int32} {J : Nat → Nat → Int64} {b : Bool} {n : Nat} (hn : 48 ≤ n) {a1 : Int32} {Q : Option Value → am_H → Prop}  (wp : am_R E mX2_open 12 [some (.ref 4), none, some (.int 0)] [] (hp (u2 (u2 I 4 0 a1) 4 1 3) J b) n n Q) : am_R E mX2_open 0 [some (.ref 4), some (.int a1), none] [] (hp I J b) n n Q := by
  refine am_aload_n rfl rfl dX2_open_0 ?_
  refine am_iload_n rfl rfl dX2_open_1 ?_
  refine am_putI dX2_open_2 flX2_24 (Or.inl rfl) rfl rfl (by omega) ?_
  refine am_aload_n rfl rfl dX2_open_5 ?_
  refine am_iconst 3 rfl dX2_open_6 ?_
  refine am_putI dX2_open_7 flX2_28 (Or.inl rfl) rfl rfl (by omega) ?_
  refine am_iconst 0 rfl dX2_open_10 ?_
  refine am_istore_n (ls' := [some (.ref 4), some (.int a1), some (.int 0)]) rfl (by decide) rfl rfl dX2_open_11 ?_
  exact am_R.forget wp ⟨rfl, ⟨rfl, trivial⟩⟩
theorem bX2_open_12 {E : Nat × (Nat → Int32)} {I : Nat → Nat → Int32} {J : Nat → Nat → Int64} {b : Bool} {n : Nat} (hn : 48 ≤ n) {a2 : Int32} {Q : Option Value → am_H → Prop}  (wp : ((49 ≤ a2 → am_R E mX2_open 43 [some (.ref 4), none, some (.int 0)] [] (hp I J b) n n Q) ∧ (¬ 49 ≤ a2 → ∃ j2, a2 = nI j2 ∧ j2 < 49 ∧ am_R E mX2_open 12 [some (.ref 4), none, some (.int (a2 + 1))] [] (hp (u2 (u2 I 5 j2 5) 6 j2 5) J b) n n Q))) : am_R E mX2_open 12 [some (.ref 4), none, some (.int a2)] [] (hp I J b) n n Q := by
  refine am_iload_n rfl rfl dX2_open_12 ?_
  refine am_aload_n rfl rfl dX2_open_13 ?_
  refine am_getA (r := 5) dX2_open_14 flX2_9 (Or.inr ⟨_, rfl⟩) rfl (by omega) rfl ?_
  refine am_alen dX2_open_17 rfl (Or.inl rfl) (by omega) ?_
  show am_R E mX2_open 18 [some (.ref 4), none, some (.int a2)] [.int 49, .int a2] (hp I J b) n n Q
  refine am_icmp_ge dX2_open_18 (tgt := 41) rfl (fun hc1 => ?_) (fun hc1 => ?_)
  · have wp := wp.1 hc1
    refine am_iconst 0 rfl dX2_open_41 ?_
    refine am_istore_n (ls' := [some (.ref 4), none, some (.int 0)]) rfl (by decide) rfl rfl dX2_open_42 ?_
    exact am_R.forget wp ⟨rfl, ⟨rfl, trivial⟩⟩
  · have wp := wp.2 hc1
    refine am_aload_n rfl rfl dX2_open_21 ?_
    refine am_getA (r := 5) dX2_open_22 flX2_9 (Or.inr ⟨_, rfl⟩) rfl (by omega) rfl ?_
    refine am_iload_n rfl rfl dX2_open_25 ?_
    refine am_iconst 5 rfl dX2_open_26 ?_
    obtain ⟨j2, e2, w2, wp⟩ := wp
    refine am_iastN (j := j2) dX2_open_27 rfl (by omega) e2 w2 (by decide) ?_
    refine am_aload_n rfl rfl dX2_open_28 ?_
    refine am_getA (r := 6) dX2_open_29 flX2_15 (Or.inr ⟨_, rfl⟩) rfl (by omega) rfl ?_
    refine am_iload_n rfl rfl dX2_open_32 ?_
    refine am_iconst 5 rfl dX2_open_33 ?_
    refine am_iastN (j := j2) dX2_open_34 rfl (by omega) e2 w2 (by decide) ?_
    refine am_iinc (ls' := [some (.ref 4), none, some (.int (a2 + 1))]) (by decide) rfl rfl rfl dX2_open_35 ?_
    refine am_goto dX2_open_38 (tgt := 12) rfl ?_
    exact am_R.forget wp ⟨rfl, ⟨rfl, trivial⟩⟩
theorem bX2_open_43 {E : Nat × (Nat → Int32)} {I : Nat → Nat → Int32} {J : Nat → Nat → Int64} {b : Bool} {n : Nat} (hn : 48 ≤ n) {a2 : Int32} {Q : Option Value → am_H → Prop}  (wp : ((7 ≤ a2 → Q none (hp I J b)) ∧ (¬ 7 ≤ a2 → ∃ j2, a2 = nI j2 ∧ j2 < 7 ∧ am_R E mX2_open 43 [some (.ref 4), none, some (.int (a2 + 1))] [] (hp (u2 (u2 I 7 j2 1) 8 j2 (-1)) J b) n n Q))) : am_R E mX2_open 43 [some (.ref 4), none, some (.int a2)] [] (hp I J b) n n Q := by
  refine am_iload_n rfl rfl dX2_open_43 ?_
  refine am_bipush 7 rfl dX2_open_44 ?_
  refine am_icmp_ge dX2_open_46 (tgt := 69) rfl (fun hc1 => ?_) (fun hc1 => ?_)
  · have wp := wp.1 hc1
    exact am_vret dX2_open_69 rfl wp
  · have wp := wp.2 hc1
    refine am_aload_n rfl rfl dX2_open_49 ?_
    refine am_getA (r := 7) dX2_open_50 flX2_18 (Or.inr ⟨_, rfl⟩) rfl (by omega) rfl ?_
    refine am_iload_n rfl rfl dX2_open_53 ?_
    refine am_iconst 1 rfl dX2_open_54 ?_
    obtain ⟨j2, e2, w2, wp⟩ := wp
    refine am_iastN (j := j2) dX2_open_55 rfl (by omega) e2 w2 (by decide) ?_
    refine am_aload_n rfl rfl dX2_open_56 ?_
    refine am_getA (r := 8) dX2_open_57 flX2_21 (Or.inr ⟨_, rfl⟩) rfl (by omega) rfl ?_
    refine am_iload_n rfl rfl dX2_open_60 ?_
    refine am_iconst (-1) rfl dX2_open_61 ?_
    refine am_iastN (j := j2) dX2_open_62 rfl (by omega) e2 w2 (by decide) ?_
    refine am_iinc (ls' := [some (.ref 4), none, some (.int (a2 + 1))]) (by decide) rfl rfl rfl dX2_open_63 ?_
    refine am_goto dX2_open_66 (tgt := 43) rfl ?_
    exact am_R.forget wp ⟨rfl, ⟨rfl, trivial⟩⟩
theorem tX2_open {N mo : Nat} {a1 : Int32} (hN : 48 ≤ N) (em : a1 = nI mo) (k : ∀ I1, CR I1 (opn mo) → (∀ a, a < 4 ∨ 8 < a → I1 a = I a) → Q none (hp I1 J b)) : am_R E mX2_open 0 [some (.ref 4), some (.int a1), none] [] (hp I J b) N N Q := by
  subst em
  have lp2 : ∀ r i (I1 : Nat → Nat → Int32), i + r = 7 → I1 4 0 = nI mo → I1 4 1 = 3 → (∀ j, j < 49 → I1 5 j = 5 ∧ I1 6 j = 5) → (∀ j, j < i → I1 7 j = 1 ∧ I1 8 j = -1) → (∀ a, a < 4 ∨ 8 < a → I1 a = I a) → am_R E mX2_open 43 [some (.ref 4), none, some (.int (nI i))] [] (hp I1 J b) N N Q := by
    intro r
    induction r with
    | zero =>
      intro i I1 hi h0 h1 h5 h7 hs
      refine bX2_open_43 hN (le_br (n := 7) rfl rfl (by omega) (by omega) (fun _ => ?_) (fun z => by omega))
      refine k I1 ⟨h0, h1, fun j hj => (h5 j hj).1, fun j hj => (h5 j hj).2, fun d hd => ?_, fun m hm => (h7 m (by omega)).2⟩ hs
      exact (h7 d (by omega)).1
    | succ r ih =>
      intro i I1 hi h0 h1 h5 h7 hs
      refine bX2_open_43 hN (le_br (n := 7) rfl rfl (by omega) (by omega) (fun z => by omega) (fun _ => ⟨i, rfl, by omega, ?_⟩))
      rw [n1]
      refine ih (i + 1) _ (by omega) h0 h1 h5 (fun j hj => ?_) (fun a ha => ?_)
      · rw [u2_n _ _ _ (show (7 : Nat) ≠ 8 by decide), u2_at, u2_at, u2_n _ _ _ (show (8 : Nat) ≠ 7 by decide)]
        by_cases q : j = i
        · rw [if_pos q, if_pos q]; exact ⟨rfl, rfl⟩
        · rw [if_neg q, if_neg q]; exact h7 j (by omega)
      · rw [u2_n _ _ _ (by omega), u2_n _ _ _ (by omega)]; exact hs a ha
  have lp1 : ∀ r i (I1 : Nat → Nat → Int32), i + r = 49 → I1 4 0 = nI mo → I1 4 1 = 3 → (∀ j, j < i → I1 5 j = 5 ∧ I1 6 j = 5) → (∀ a, a < 4 ∨ 8 < a → I1 a = I a) → am_R E mX2_open 12 [some (.ref 4), none, some (.int (nI i))] [] (hp I1 J b) N N Q := by
    intro r
    induction r with
    | zero =>
      intro i I1 hi h0 h1 h5 hs
      refine bX2_open_12 hN (le_br (n := 49) rfl rfl (by omega) (by omega) (fun _ => ?_) (fun z => by omega))
      exact lp2 7 0 I1 (by omega) h0 h1 (fun j hj => h5 j (by omega)) (fun j hj => by omega) hs
    | succ r ih =>
      intro i I1 hi h0 h1 h5 hs
      refine bX2_open_12 hN (le_br (n := 49) rfl rfl (by omega) (by omega) (fun z => by omega) (fun _ => ⟨i, rfl, by omega, ?_⟩))
      rw [n1]
      refine ih (i + 1) _ (by omega) h0 h1 (fun j hj => ?_) (fun a ha => ?_)
      · rw [u2_n _ _ _ (show (5 : Nat) ≠ 6 by decide), u2_at, u2_at, u2_n _ _ _ (show (6 : Nat) ≠ 5 by decide)]
        by_cases q : j = i
        · rw [if_pos q, if_pos q]; exact ⟨rfl, rfl⟩
        · rw [if_neg q, if_neg q]; exact h5 j (by omega)
      · rw [u2_n _ _ _ (by omega), u2_n _ _ _ (by omega)]; exact hs a ha
  refine bX2_open_0 hN (lp1 49 0 _ (by omega) ?_ ?_ (fun j hj => by omega) (fun a ha => ?_))
  · rw [u2_at, if_neg (by decide), u2_at, if_pos rfl]
  · rw [u2_at, if_pos rfl]
  · rw [u2_n _ _ _ (by omega), u2_n _ _ _ (by omega)]
/-- the reference's house -/
theorem bX10_plain_0 {E : Nat × (Nat → Int32)} {I : Nat → Nat → Int32} {J : Nat → Nat → Int64} {b : Bool}  {Q : Option Value → am_H → Prop}  (wp : am_R E mX10_plain 2 [some (.ref 48), some (.int 0)] [] (hp I J b) 64 64 Q) : am_R E mX10_plain 0 [some (.ref 48), none] [] (hp I J b) 64 64 Q := by
  refine am_iconst 0 rfl dX10_plain_0 ?_
  refine am_istore_n (ls' := [some (.ref 48), some (.int 0)]) rfl (by decide) rfl rfl dX10_plain_1 ?_
  exact am_R.forget wp ⟨rfl, ⟨rfl, trivial⟩⟩
theorem bX10_plain_2 {E : Nat × (Nat → Int32)} {I : Nat → Nat → Int32} {J : Nat → Nat → Int64} {b : Bool} {a1 : Int32} {Q : Option Value → am_H → Prop}  (wp : ((49 ≤ a1 → am_R E mX10_plain 30 [some (.ref 48), some (.int 0)] [] (hp I J b) 64 64 Q) ∧ (¬ 49 ≤ a1 → ∃ j2, a1 = nI j2 ∧ j2 < 49 ∧ am_R E mX10_plain 2 [some (.ref 48), some (.int (a1 + 1))] [] (hp (u2 (u2 I 49 j2 5) 50 j2 5) J b) 64 64 Q))) : am_R E mX10_plain 2 [some (.ref 48), some (.int a1)] [] (hp I J b) 64 64 Q := by
  refine am_iload_n rfl rfl dX10_plain_2 ?_
  refine am_bipush 49 rfl dX10_plain_3 ?_
  refine am_icmp_ge dX10_plain_5 (tgt := 28) rfl (fun hc1 => ?_) (fun hc1 => ?_)
  · have wp := wp.1 hc1
    refine am_iconst 0 rfl dX10_plain_28 ?_
    refine am_istore_n (ls' := [some (.ref 48), some (.int 0)]) rfl (by decide) rfl rfl dX10_plain_29 ?_
    exact am_R.forget wp ⟨rfl, ⟨rfl, trivial⟩⟩
  · have wp := wp.2 hc1
    refine am_aload_n rfl rfl dX10_plain_8 ?_
    refine am_getA (r := 49) dX10_plain_9 flX10_16 (Or.inr ⟨_, rfl⟩) rfl (by decide) rfl ?_
    refine am_iload_n rfl rfl dX10_plain_12 ?_
    refine am_iconst 5 rfl dX10_plain_13 ?_
    obtain ⟨j2, e2, w2, wp⟩ := wp
    refine am_iastN (j := j2) dX10_plain_14 rfl (by decide) e2 w2 (by decide) ?_
    refine am_aload_n rfl rfl dX10_plain_15 ?_
    refine am_getA (r := 50) dX10_plain_16 flX10_20 (Or.inr ⟨_, rfl⟩) rfl (by decide) rfl ?_
    refine am_iload_n rfl rfl dX10_plain_19 ?_
    refine am_iconst 5 rfl dX10_plain_20 ?_
    refine am_iastN (j := j2) dX10_plain_21 rfl (by decide) e2 w2 (by decide) ?_
    refine am_iinc (ls' := [some (.ref 48), some (.int (a1 + 1))]) (by decide) rfl rfl rfl dX10_plain_22 ?_
    refine am_goto dX10_plain_25 (tgt := 2) rfl ?_
    exact am_R.forget wp ⟨rfl, ⟨rfl, trivial⟩⟩
theorem bX10_plain_30 {E : Nat × (Nat → Int32)} {I : Nat → Nat → Int32} {J : Nat → Nat → Int64} {b : Bool} {a1 : Int32} {Q : Option Value → am_H → Prop}  (wp : ((7 ≤ a1 → Q none (hp (u2 I 48 1 3) J b)) ∧ (¬ 7 ≤ a1 → ∃ j2, a1 = nI j2 ∧ j2 < 7 ∧ am_R E mX10_plain 30 [some (.ref 48), some (.int (a1 + 1))] [] (hp (u2 (u2 I 51 j2 0) 52 j2 (-1)) J b) 64 64 Q))) : am_R E mX10_plain 30 [some (.ref 48), some (.int a1)] [] (hp I J b) 64 64 Q := by
  refine am_iload_n rfl rfl dX10_plain_30 ?_
  refine am_bipush 7 rfl dX10_plain_31 ?_
  refine am_icmp_ge dX10_plain_33 (tgt := 56) rfl (fun hc1 => ?_) (fun hc1 => ?_)
  · have wp := wp.1 hc1
    refine am_aload_n rfl rfl dX10_plain_56 ?_
    refine am_iconst 3 rfl dX10_plain_57 ?_
    refine am_putI dX10_plain_58 flX10_13 (Or.inl rfl) rfl rfl (by decide) ?_
    exact am_vret dX10_plain_61 rfl wp
  · have wp := wp.2 hc1
    refine am_aload_n rfl rfl dX10_plain_36 ?_
    refine am_getA (r := 51) dX10_plain_37 flX10_23 (Or.inr ⟨_, rfl⟩) rfl (by decide) rfl ?_
    refine am_iload_n rfl rfl dX10_plain_40 ?_
    refine am_iconst 0 rfl dX10_plain_41 ?_
    obtain ⟨j2, e2, w2, wp⟩ := wp
    refine am_iastN (j := j2) dX10_plain_42 rfl (by decide) e2 w2 (by decide) ?_
    refine am_aload_n rfl rfl dX10_plain_43 ?_
    refine am_getA (r := 52) dX10_plain_44 flX10_26 (Or.inr ⟨_, rfl⟩) rfl (by decide) rfl ?_
    refine am_iload_n rfl rfl dX10_plain_47 ?_
    refine am_iconst (-1) rfl dX10_plain_48 ?_
    refine am_iastN (j := j2) dX10_plain_49 rfl (by decide) e2 w2 (by decide) ?_
    refine am_iinc (ls' := [some (.ref 48), some (.int (a1 + 1))]) (by decide) rfl rfl rfl dX10_plain_50 ?_
    refine am_goto dX10_plain_53 (tgt := 30) rfl ?_
    exact am_R.forget wp ⟨rfl, ⟨rfl, trivial⟩⟩
theorem tX10_plain (k : ∀ I1, I1 48 1 = 3 → (∀ j, j < 49 → I1 49 j = 5 ∧ I1 50 j = 5) → (∀ j, j < 7 → I1 51 j = 0 ∧ I1 52 j = -1) → (∀ a, a ≠ 48 → a ≠ 49 → a ≠ 50 → a ≠ 51 → a ≠ 52 → I1 a = I a) → (∀ j, j ≠ 1 → I1 48 j = I 48 j) → Q none (hp I1 J b)) : am_R E mX10_plain 0 [some (.ref 48), none] [] (hp I J b) 64 64 Q := by
  have lp2 : ∀ r i (I1 : Nat → Nat → Int32), i + r = 7 → I1 48 = I 48 → (∀ j, j < 49 → I1 49 j = 5 ∧ I1 50 j = 5) → (∀ j, j < i → I1 51 j = 0 ∧ I1 52 j = -1) → (∀ a, a ≠ 48 → a ≠ 49 → a ≠ 50 → a ≠ 51 → a ≠ 52 → I1 a = I a) → am_R E mX10_plain 30 [some (.ref 48), some (.int (nI i))] [] (hp I1 J b) 64 64 Q := by
    intro r
    induction r with
    | zero =>
      intro i I1 hi h0 h5 h7 hs
      refine bX10_plain_30 (le_br (n := 7) rfl rfl (by omega) (by omega) (fun _ => ?_) (fun z => by omega))
      refine k _ (by rw [u2_at, if_pos rfl]) h5 (fun j hj => h7 j (by omega)) (fun a q1 q2 q3 q4 q5 => ?_) (fun j hj => ?_)
      · rw [u2_n _ _ _ q1]; exact hs a q1 q2 q3 q4 q5
      · rw [u2_at, if_neg hj, h0]
    | succ r ih =>
      intro i I1 hi h0 h5 h7 hs
      refine bX10_plain_30 (le_br (n := 7) rfl rfl (by omega) (by omega) (fun z => by omega) (fun _ => ⟨i, rfl, by omega, ?_⟩))
      rw [n1]
      refine ih (i + 1) _ (by omega) h0 h5 (fun j hj => ?_) (fun a q1 q2 q3 q4 q5 => ?_)
      · rw [u2_n _ _ _ (show (51 : Nat) ≠ 52 by decide), u2_at, u2_at, u2_n _ _ _ (show (52 : Nat) ≠ 51 by decide)]
        by_cases q : j = i
        · rw [if_pos q, if_pos q]; exact ⟨rfl, rfl⟩
        · rw [if_neg q, if_neg q]; exact h7 j (by omega)
      · rw [u2_n _ _ _ q5, u2_n _ _ _ q4]; exact hs a q1 q2 q3 q4 q5
  have lp1 : ∀ r i (I1 : Nat → Nat → Int32), i + r = 49 → I1 48 = I 48 → (∀ j, j < i → I1 49 j = 5 ∧ I1 50 j = 5) → (∀ a, a ≠ 48 → a ≠ 49 → a ≠ 50 → a ≠ 51 → a ≠ 52 → I1 a = I a) → am_R E mX10_plain 2 [some (.ref 48), some (.int (nI i))] [] (hp I1 J b) 64 64 Q := by
    intro r
    induction r with
    | zero =>
      intro i I1 hi h0 h5 hs
      refine bX10_plain_2 (le_br (n := 49) rfl rfl (by omega) (by omega) (fun _ => ?_) (fun z => by omega))
      exact lp2 7 0 I1 (by omega) h0 (fun j hj => h5 j (by omega)) (fun j hj => by omega) hs
    | succ r ih =>
      intro i I1 hi h0 h5 hs
      refine bX10_plain_2 (le_br (n := 49) rfl rfl (by omega) (by omega) (fun z => by omega) (fun _ => ⟨i, rfl, by omega, ?_⟩))
      rw [n1]
      refine ih (i + 1) _ (by omega) h0 (fun j hj => ?_) (fun a q1 q2 q3 q4 q5 => ?_)
      · rw [u2_n _ _ _ (show (49 : Nat) ≠ 50 by decide), u2_at, u2_at, u2_n _ _ _ (show (50 : Nat) ≠ 49 by decide)]
        by_cases q : j = i
        · rw [if_pos q, if_pos q]; exact ⟨rfl, rfl⟩
        · rw [if_neg q, if_neg q]; exact h5 j (by omega)
      · rw [u2_n _ _ _ q3, u2_n _ _ _ q2]; exact hs a q1 q2 q3 q4 q5
  exact bX10_plain_0 (lp1 49 0 I (by omega) rfl (fun j hj => by omega) (fun a _ _ _ _ _ => rfl))
theorem bX10_begin_0 {E : Nat × (Nat → Int32)} {I : Nat → Nat → Int32} {J : Nat → Nat → Int64} {b : Bool}  {Q : Option Value → am_H → Prop}  (wp : am_R E mX10_begin 2 [some (.ref 48), some (.int 0)] [] (hp I J b) 64 64 Q) : am_R E mX10_begin 0 [some (.ref 48), none] [] (hp I J b) 64 64 Q := by
  refine am_iconst 0 rfl dX10_begin_0 ?_
  refine am_istore_n (ls' := [some (.ref 48), some (.int 0)]) rfl (by decide) rfl rfl dX10_begin_1 ?_
  exact am_R.forget wp ⟨rfl, ⟨rfl, trivial⟩⟩
theorem bX10_begin_2 {E : Nat × (Nat → Int32)} {I : Nat → Nat → Int32} {J : Nat → Nat → Int64} {b : Bool} {a1 : Int32} {Q : Option Value → am_H → Prop}  (wp : ((128 ≤ a1 → am_R E mX10_begin 24 [some (.ref 48), some (.int 0)] [] (hp I J b) 64 64 Q) ∧ (¬ 128 ≤ a1 → ∃ j2, a1 = nI j2 ∧ j2 < 128 ∧ am_R E mX10_begin 2 [some (.ref 48), some (.int (a1 + 1))] [] (hp (u2 I 55 j2 0) J b) 64 64 Q))) : am_R E mX10_begin 2 [some (.ref 48), some (.int a1)] [] (hp I J b) 64 64 Q := by
  refine am_iload_n rfl rfl dX10_begin_2 ?_
  refine am_sipush 128 rfl dX10_begin_3 ?_
  refine am_icmp_ge dX10_begin_6 (tgt := 22) rfl (fun hc1 => ?_) (fun hc1 => ?_)
  · have wp := wp.1 hc1
    refine am_iconst 0 rfl dX10_begin_22 ?_
    refine am_istore_n (ls' := [some (.ref 48), some (.int 0)]) rfl (by decide) rfl rfl dX10_begin_23 ?_
    exact am_R.forget wp ⟨rfl, ⟨rfl, trivial⟩⟩
  · have wp := wp.2 hc1
    refine am_aload_n rfl rfl dX10_begin_9 ?_
    refine am_getA (r := 55) dX10_begin_10 flX10_35 (Or.inr ⟨_, rfl⟩) rfl (by decide) rfl ?_
    refine am_iload_n rfl rfl dX10_begin_13 ?_
    refine am_iconst 0 rfl dX10_begin_14 ?_
    obtain ⟨j2, e2, w2, wp⟩ := wp
    refine am_iastN (j := j2) dX10_begin_15 rfl (by decide) e2 w2 (by decide) ?_
    refine am_iinc (ls' := [some (.ref 48), some (.int (a1 + 1))]) (by decide) rfl rfl rfl dX10_begin_16 ?_
    refine am_goto dX10_begin_19 (tgt := 2) rfl ?_
    exact am_R.forget wp ⟨rfl, ⟨rfl, trivial⟩⟩
theorem bX10_begin_24 {E : Nat × (Nat → Int32)} {I : Nat → Nat → Int32} {J : Nat → Nat → Int64} {b : Bool} {a1 : Int32} {Q : Option Value → am_H → Prop}  (wp : ((7 ≤ a1 → Q none (hp I J b)) ∧ (¬ 7 ≤ a1 → ∃ j2, a1 = nI j2 ∧ j2 < 7 ∧ ∃ j3, (8 + a1) = nI j3 ∧ j3 < 128 ∧ am_R E mX10_begin 24 [some (.ref 48), some (.int (a1 + 1))] [] (hp (u2 I 55 j3 (I 52 j2)) J b) 64 64 Q))) : am_R E mX10_begin 24 [some (.ref 48), some (.int a1)] [] (hp I J b) 64 64 Q := by
  refine am_iload_n rfl rfl dX10_begin_24 ?_
  refine am_bipush 7 rfl dX10_begin_25 ?_
  refine am_icmp_ge dX10_begin_27 (tgt := 51) rfl (fun hc1 => ?_) (fun hc1 => ?_)
  · have wp := wp.1 hc1
    exact am_vret dX10_begin_51 rfl wp
  · have wp := wp.2 hc1
    refine am_aload_n rfl rfl dX10_begin_30 ?_
    refine am_getA (r := 55) dX10_begin_31 flX10_35 (Or.inr ⟨_, rfl⟩) rfl (by decide) rfl ?_
    refine am_bipush 8 rfl dX10_begin_34 ?_
    refine am_iload_n rfl rfl dX10_begin_36 ?_
    refine am_iadd dX10_begin_37 ?_
    refine am_aload_n rfl rfl dX10_begin_38 ?_
    refine am_getA (r := 52) dX10_begin_39 flX10_26 (Or.inr ⟨_, rfl⟩) rfl (by decide) rfl ?_
    refine am_iload_n rfl rfl dX10_begin_42 ?_
    obtain ⟨j2, e2, w2, wp⟩ := wp
    refine am_ialdN (j := j2) dX10_begin_43 rfl (by decide) e2 w2 (by decide) ?_
    obtain ⟨j3, e3, w3, wp⟩ := wp
    refine am_iastN (j := j3) dX10_begin_44 rfl (by decide) e3 w3 (by decide) ?_
    refine am_iinc (ls' := [some (.ref 48), some (.int (a1 + 1))]) (by decide) rfl rfl rfl dX10_begin_45 ?_
    refine am_goto dX10_begin_48 (tgt := 24) rfl ?_
    exact am_R.forget wp ⟨rfl, ⟨rfl, trivial⟩⟩
theorem tX10_begin (k : ∀ I1, (∀ a, a ≠ 55 → I1 a = I a) → I1 55 0 = 0 → I1 55 15 = 0 → (∀ m, m < 7 → I1 55 (8 + m) = I 52 m) → Q none (hp I1 J b)) : am_R E mX10_begin 0 [some (.ref 48), none] [] (hp I J b) 64 64 Q := by
  have lp2 : ∀ r i (I1 : Nat → Nat → Int32), i + r = 7 → (∀ a, a ≠ 55 → I1 a = I a) → I1 55 0 = 0 → I1 55 15 = 0 → (∀ m, m < i → I1 55 (8 + m) = I 52 m) → am_R E mX10_begin 24 [some (.ref 48), some (.int (nI i))] [] (hp I1 J b) 64 64 Q := by
    intro r
    induction r with
    | zero =>
      intro i I1 hi hs h0 h15 h8
      exact bX10_begin_24 (le_br (n := 7) rfl rfl (by omega) (by omega) (fun _ => k I1 hs h0 h15 (fun m hm => h8 m (by omega))) (fun z => by omega))
    | succ r ih =>
      intro i I1 hi hs h0 h15 h8
      refine bX10_begin_24 (le_br (n := 7) rfl rfl (by omega) (by omega) (fun z => by omega) (fun _ => ⟨i, rfl, by omega, 8 + i, by rw [show (8 : Int32) = nI 8 from rfl, nI_add], by omega, ?_⟩))
      rw [n1]
      refine ih (i + 1) _ (by omega) (fun a ha => ?_) ?_ ?_ (fun m hm => ?_)
      · rw [u2_n _ _ _ ha]; exact hs a ha
      · rw [u2_at, if_neg (by omega)]; exact h0
      · rw [u2_at, if_neg (by omega)]; exact h15
      · rw [u2_at]
        by_cases q : m = i
        · rw [if_pos (by omega), q, hs 52 (by decide)]
        · rw [if_neg (by omega)]; exact h8 m (by omega)
  have lp1 : ∀ r i (I1 : Nat → Nat → Int32), i + r = 128 → (∀ a, a ≠ 55 → I1 a = I a) → (∀ j, j < i → I1 55 j = 0) → am_R E mX10_begin 2 [some (.ref 48), some (.int (nI i))] [] (hp I1 J b) 64 64 Q := by
    intro r
    induction r with
    | zero =>
      intro i I1 hi hs h5
      refine bX10_begin_2 (le_br (n := 128) rfl rfl (by omega) (by omega) (fun _ => ?_) (fun z => by omega))
      exact lp2 7 0 I1 (by omega) hs (h5 0 (by omega)) (h5 15 (by omega)) (fun m hm => by omega)
    | succ r ih =>
      intro i I1 hi hs h5
      refine bX10_begin_2 (le_br (n := 128) rfl rfl (by omega) (by omega) (fun z => by omega) (fun _ => ⟨i, rfl, by omega, ?_⟩))
      rw [n1]
      refine ih (i + 1) _ (by omega) (fun a ha => ?_) (fun j hj => ?_)
      · rw [u2_n _ _ _ ha]; exact hs a ha
      · rw [u2_at]
        split
        · rfl
        · exact h5 j (by omega)
  exact bX10_begin_0 (lp1 128 0 I (by omega) (fun a _ => rfl) (fun j hj => by omega))
end P23
