/-! ===== pairs: dawn, keep, back ===== -/
section P6
variable {E : Nat × (Nat → Int32)} {I I' : Nat → Nat → Int32} {J : Nat → Nat → Int64} {b : Bool} {n : Nat} {Q : Option Value → am_H → Prop}
/-- the bits of what holds below d -/
def Bt (U : Int32) (P : Nat → Prop) (d : Nat) : Prop := ∃ k : Nat, k < 128 ∧ U = nI k ∧ ∀ x, x < 7 → (k.testBit x = true ↔ x < d ∧ P x)
theorem Bt.zero (P : Nat → Prop) : Bt 0 P 0 := ⟨0, by decide, rfl, fun x _ => by simp⟩
theorem Bt.no {U : Int32} {P : Nat → Prop} {d : Nat} (h : Bt U P d) (q : ¬ P d) : Bt U P (d + 1) := by
  obtain ⟨k, hk, e, hb⟩ := h
  refine ⟨k, hk, e, fun x hx => ?_⟩
  rw [hb x hx]
  constructor
  · rintro ⟨h1, h2⟩; exact ⟨by omega, h2⟩
  · rintro ⟨h1, h2⟩
    refine ⟨?_, h2⟩
    rcases Nat.lt_or_ge x d with z | z
    · exact z
    · exact absurd (by rw [← show x = d by omega]; exact h2) q
theorem Bt.yes {U : Int32} {P : Nat → Prop} {d : Nat} (h : Bt U P d) (hd : d < 7) (q : P d) : Bt (U ||| ((1 : Int32) <<< (nI d &&& 31))) P (d + 1) := by
  obtain ⟨k, hk, rfl, hb⟩ := h
  obtain ⟨-, -, h3, h4⟩ := tb_iff k hk d hd
  refine ⟨k ||| 2 ^ d, h4, h3, fun x hx => ?_⟩
  rw [fb_bit_set]
  simp only [Bool.or_eq_true, decide_eq_true_eq, hb x hx]
  constructor
  · rintro (⟨h1, h2⟩ | hz)
    · exact ⟨by omega, h2⟩
    · exact ⟨by omega, by rw [hz]; exact q⟩
  · rintro ⟨h1, h2⟩
    by_cases z : x = d
    · exact Or.inr z
    · exact Or.inl ⟨by omega, h2⟩
theorem Bt.at {U : Int32} {P : Nat → Prop} {d x : Nat} (h : Bt U P d) (hx : x < 7) (hd : x < d) : ((U >>> (nI x &&& 31)) &&& 1) = 1 ↔ P x := by
  obtain ⟨k, hk, rfl, hb⟩ := h
  rw [(tb_iff k hk x hx).1, hb x hx]
  exact ⟨fun z => z.2, fun z => ⟨hd, z⟩⟩
theorem bX5_look_0 {E : Nat × (Nat → Int32)} {I : Nat → Nat → Int32} {J : Nat → Nat → Int64} {b : Bool} {n : Nat} (hn : 48 ≤ n)  {Q : Option Value → am_H → Prop}  (wp : am_R E mX5_look 2 [some (.ref 23), some (.ref 11), some (.int 0), none, none] [] (hp I J b) n n Q) : am_R E mX5_look 0 [some (.ref 23), some (.ref 11), none, none, none] [] (hp I J b) n n Q := by
  refine am_iconst 0 rfl dX5_look_0 ?_
  refine am_istore_n (ls' := [some (.ref 23), some (.ref 11), some (.int 0), none, none]) rfl (by decide) rfl rfl dX5_look_1 ?_
  exact am_R.forget wp ⟨rfl, ⟨rfl, ⟨rfl, trivial⟩⟩⟩
theorem bX5_look_2 {E : Nat × (Nat → Int32)} {I : Nat → Nat → Int32} {J : Nat → Nat → Int64} {b : Bool} {n : Nat} (hn : 48 ≤ n) {a2 : Int32} {Q : Option Value → am_H → Prop}  (wp : (((I 4 0) ≤ a2 → Q none (hp I J b)) ∧ (¬ (I 4 0) ≤ a2 → am_R E mX5_look 18 [some (.ref 23), some (.ref 11), some (.int a2), some (.int 0), some (.int 0)] [] (hp I J b) n n Q))) : am_R E mX5_look 2 [some (.ref 23), some (.ref 11), some (.int a2), none, none] [] (hp I J b) n n Q := by
  refine am_iload_n rfl rfl dX5_look_2 ?_
  refine am_aload_n rfl rfl dX5_look_3 ?_
  refine am_getA (r := 4) dX5_look_4 flX5_18 (Or.inl ⟨_, rfl⟩) rfl (by omega) rfl ?_
  refine am_getI dX5_look_7 flX5_22 (Or.inl rfl) rfl (by omega) ?_
  refine am_icmp_ge dX5_look_10 (tgt := 84) rfl (fun hc1 => ?_) (fun hc1 => ?_)
  · have wp := wp.1 hc1
    exact am_vret dX5_look_84 rfl wp
  · have wp := wp.2 hc1
    refine am_iconst 0 rfl dX5_look_13 ?_
    refine am_istore_n (ls' := [some (.ref 23), some (.ref 11), some (.int a2), some (.int 0), none]) rfl (by decide) rfl rfl dX5_look_14 ?_
    refine am_iconst 0 rfl dX5_look_15 ?_
    refine am_istore (ls' := [some (.ref 23), some (.ref 11), some (.int a2), some (.int 0), some (.int 0)]) (by decide) rfl rfl dX5_look_16 ?_
    exact am_R.forget wp ⟨rfl, ⟨rfl, ⟨rfl, ⟨rfl, ⟨rfl, trivial⟩⟩⟩⟩⟩
theorem bX5_look_18 {E : Nat × (Nat → Int32)} {I : Nat → Nat → Int32} {J : Nat → Nat → Int64} {b : Bool} {n : Nat} (hn : 48 ≤ n) {a2 : Int32} {a3 : Int32} {a4 : Int32} {Q : Option Value → am_H → Prop}  (wp : (((I 4 0) ≤ a4 → ∃ j2, a2 = nI j2 ∧ j2 < 7 ∧ am_R E mX5_look 2 [some (.ref 23), some (.ref 11), some (.int (a2 + 1)), none, none] [] (hp (u2 I 24 j2 a3) J b) n n Q) ∧ (¬ (I 4 0) ≤ a4 → ∃ j3, ((a2 * 7) + a4) = nI j3 ∧ j3 < 49 ∧ (((I 5 j3) ≤ 0 → am_R E mX5_look 18 [some (.ref 23), some (.ref 11), some (.int a2), some (.int a3), some (.int (a4 + 1))] [] (hp I J b) n n Q) ∧ (¬ (I 5 j3) ≤ 0 → ∃ j5, a2 = nI j5 ∧ j5 < 7 ∧ am_R E mX2_mayFollow 0 [some (.ref 4), some (.int a4), some (.int (I 11 j5))] [] (hp I J b) n n (fun r h' => am_R E mX5_look 55 [some (.ref 23), some (.ref 11), some (.int a2), some (.int a3), some (.int a4)] (r.toList ++ []) h' n n Q)))))) : am_R E mX5_look 18 [some (.ref 23), some (.ref 11), some (.int a2), some (.int a3), some (.int a4)] [] (hp I J b) n n Q := by
  refine am_iload rfl dX5_look_18 ?_
  refine am_aload_n rfl rfl dX5_look_20 ?_
  refine am_getA (r := 4) dX5_look_21 flX5_18 (Or.inl ⟨_, rfl⟩) rfl (by omega) rfl ?_
  refine am_getI dX5_look_24 flX5_22 (Or.inl rfl) rfl (by omega) ?_
  refine am_icmp_ge dX5_look_27 (tgt := 71) rfl (fun hc1 => ?_) (fun hc1 => ?_)
  · have wp := wp.1 hc1
    refine am_aload_n rfl rfl dX5_look_71 ?_
    refine am_getA (r := 24) dX5_look_72 flX5_9 (Or.inr ⟨_, rfl⟩) rfl (by omega) rfl ?_
    refine am_iload_n rfl rfl dX5_look_75 ?_
    refine am_iload_n rfl rfl dX5_look_76 ?_
    obtain ⟨j2, e2, w2, wp⟩ := wp
    refine am_iastN (j := j2) dX5_look_77 rfl (by omega) e2 w2 (by decide) ?_
    refine am_iinc (ls' := [some (.ref 23), some (.ref 11), some (.int (a2 + 1)), some (.int a3), some (.int a4)]) (by decide) rfl rfl rfl dX5_look_78 ?_
    refine am_goto dX5_look_81 (tgt := 2) rfl ?_
    exact am_R.forget wp ⟨rfl, ⟨rfl, ⟨rfl, trivial⟩⟩⟩
  · have wp := wp.2 hc1
    refine am_aload_n rfl rfl dX5_look_30 ?_
    refine am_getA (r := 4) dX5_look_31 flX5_18 (Or.inl ⟨_, rfl⟩) rfl (by omega) rfl ?_
    refine am_iload_n rfl rfl dX5_look_34 ?_
    refine am_iload rfl dX5_look_35 ?_
    obtain ⟨j3, e3, w3, wp⟩ := wp
    refine am_invV (ci := 1) (As := [.int a2, .int a4]) (lsZ := [some (.ref 4), some (.int a2), some (.int a4)]) (st := []) dX5_look_37 hX2_skillOf lkX5_28 ⟨by decide, by decide⟩ (by decide) rfl (by omega) rfl rfl rfl (Nat.le_of_ble_eq_true rfl) rfl (Nat.le_of_ble_eq_true rfl) ⟨Nat.le_refl _, Nat.le_refl _⟩ (tX2_skillOf hn (j := j3) e3 w3 ?_)
    show am_R E mX5_look 40 [some (.ref 23), some (.ref 11), some (.int a2), some (.int a3), some (.int a4)] [.int (I 5 j3)] (hp I J b) n n Q
    refine am_if_le dX5_look_40 (tgt := 65) rfl (fun hc4 => ?_) (fun hc4 => ?_)
    · have wp := wp.1 hc4
      refine am_iinc (ls' := [some (.ref 23), some (.ref 11), some (.int a2), some (.int a3), some (.int (a4 + 1))]) (by decide) rfl rfl rfl dX5_look_65 ?_
      refine am_goto dX5_look_68 (tgt := 18) rfl ?_
      exact am_R.forget wp ⟨rfl, ⟨rfl, ⟨rfl, ⟨rfl, ⟨rfl, trivial⟩⟩⟩⟩⟩
    · have wp := wp.2 hc4
      refine am_aload_n rfl rfl dX5_look_43 ?_
      refine am_getA (r := 4) dX5_look_44 flX5_18 (Or.inl ⟨_, rfl⟩) rfl (by omega) rfl ?_
      refine am_iload rfl dX5_look_47 ?_
      refine am_aload_n rfl rfl dX5_look_49 ?_
      refine am_iload_n rfl rfl dX5_look_50 ?_
      obtain ⟨j5, e5, w5, wp⟩ := wp
      refine am_ialdN (j := j5) dX5_look_51 rfl (by omega) e5 w5 (by decide) ?_
      refine am_invV (ci := 1) (As := [.int a4, .int (I 11 j5)]) (lsZ := [some (.ref 4), some (.int a4), some (.int (I 11 j5))]) (st := []) dX5_look_52 hX2_mayFollow lkX5_32 ⟨by decide, by decide⟩ (by decide) rfl (by omega) rfl rfl rfl (Nat.le_of_ble_eq_true rfl) rfl (Nat.le_of_ble_eq_true rfl) ⟨Nat.le_refl _, Nat.le_refl _⟩ (am_R.mono wp (fun r h' q => am_R.forget q ⟨rfl, ⟨rfl, ⟨rfl, ⟨rfl, ⟨rfl, trivial⟩⟩⟩⟩⟩))
theorem bX5_look_55 {E : Nat × (Nat → Int32)} {I : Nat → Nat → Int32} {J : Nat → Nat → Int64} {b : Bool} {n : Nat} (hn : 48 ≤ n) {a2 : Int32} {a3 : Int32} {a4 : Int32} {x0 : Int32} {Q : Option Value → am_H → Prop}  (wp : ((x0 = 0 → am_R E mX5_look 18 [some (.ref 23), some (.ref 11), some (.int a2), some (.int a3), some (.int (a4 + 1))] [] (hp I J b) n n Q) ∧ (¬ x0 = 0 → am_R E mX5_look 18 [some (.ref 23), some (.ref 11), some (.int a2), some (.int (a3 ||| (1 <<< (a4 &&& 31)))), some (.int (a4 + 1))] [] (hp I J b) n n Q))) : am_R E mX5_look 55 [some (.ref 23), some (.ref 11), some (.int a2), some (.int a3), some (.int a4)] [.int x0] (hp I J b) n n Q := by
  refine am_if_eq dX5_look_55 (tgt := 65) rfl (fun hc1 => ?_) (fun hc1 => ?_)
  · have wp := wp.1 hc1
    refine am_iinc (ls' := [some (.ref 23), some (.ref 11), some (.int a2), some (.int a3), some (.int (a4 + 1))]) (by decide) rfl rfl rfl dX5_look_65 ?_
    refine am_goto dX5_look_68 (tgt := 18) rfl ?_
    exact am_R.forget wp ⟨rfl, ⟨rfl, ⟨rfl, ⟨rfl, ⟨rfl, trivial⟩⟩⟩⟩⟩
  · have wp := wp.2 hc1
    refine am_iload_n rfl rfl dX5_look_58 ?_
    refine am_iconst 1 rfl dX5_look_59 ?_
    refine am_iload rfl dX5_look_60 ?_
    refine am_ishl dX5_look_62 ?_
    refine am_ior dX5_look_63 ?_
    refine am_istore_n (ls' := [some (.ref 23), some (.ref 11), some (.int a2), some (.int (a3 ||| (1 <<< (a4 &&& 31)))), some (.int a4)]) rfl (by decide) rfl rfl dX5_look_64 ?_
    refine am_iinc (ls' := [some (.ref 23), some (.ref 11), some (.int a2), some (.int (a3 ||| (1 <<< (a4 &&& 31)))), some (.int (a4 + 1))]) (by decide) rfl rfl rfl dX5_look_65 ?_
    refine am_goto dX5_look_68 (tgt := 18) rfl ?_
    exact am_R.forget wp ⟨rfl, ⟨rfl, ⟨rfl, ⟨rfl, ⟨rfl, trivial⟩⟩⟩⟩⟩
theorem tX5_look {N v : Nat} (hN : 48 ≤ N) (hv : I 4 0 = nI v) (v7 : v ≤ 7) (hy : ∀ m, m < v → I 11 m = -1 ∨ ∃ e, e < v ∧ I 11 m = nI e) (k : ∀ f : Nat → Int32, (∀ m, m < v → ∀ d, d < v → (((f m >>> (nI d &&& 31)) &&& 1) = 1 ↔ 0 < I 5 (7 * m + d) ∧ mf I d (I 11 m))) → Q none (hp (u1 I 24 f) J b)) : am_R E mX5_look 0 [some (.ref 23), some (.ref 11), none, none, none] [] (hp I J b) N N Q := by
  have key : ∀ j m, m + j = v → ∀ f : Nat → Int32, (∀ i, i < m → ∀ d, d < v → (((f i >>> (nI d &&& 31)) &&& 1) = 1 ↔ 0 < I 5 (7 * i + d) ∧ mf I d (I 11 i))) → am_R E mX5_look 2 [some (.ref 23), some (.ref 11), some (.int (nI m)), none, none] [] (hp (u1 I 24 f) J b) N N Q := by
    intro j
    induction j with
    | zero =>
      intro m hm f hf
      have e : m = v := by omega
      subst e
      exact bX5_look_2 hN (le_br hv rfl (by omega) (by omega) (fun _ => k f hf) (fun h => by omega))
    | succ j ih =>
      intro m hm f hf
      refine bX5_look_2 hN (le_br hv rfl (by omega) (by omega) (fun h => by omega) (fun _ => ?_))
      have inner : ∀ r d, d + r = v → ∀ U, Bt U (fun d => 0 < I 5 (7 * m + d) ∧ mf I d (I 11 m)) d → am_R E mX5_look 18 [some (.ref 23), some (.ref 11), some (.int (nI m)), some (.int U), some (.int (nI d))] [] (hp (u1 I 24 f) J b) N N Q := by
        intro r
        induction r with
        | zero =>
          intro d hd U hU
          have e : d = v := by omega
          subst e
          refine bX5_look_18 hN (le_br hv rfl (by omega) (by omega) (fun _ => ⟨m, rfl, by omega, ?_⟩) (fun h => by omega))
          rw [n1, u2_u1]
          refine ih (m + 1) (by omega) _ (fun i hi x hx => ?_)
          unfold upd
          by_cases q : i = m
          · rw [if_pos q, q]; exact hU.at (by omega) hx
          · rw [if_neg q]; exact hf i (by omega) x hx
        | succ r ihr =>
          intro d hd U hU
          refine bX5_look_18 hN (le_br hv rfl (by omega) (by omega) (fun h => by omega) (fun _ => ⟨7 * m + d, k7' m d, by omega, fun q => ?_, fun q => ⟨m, rfl, by omega, ?_⟩⟩))
          · rw [n1]
            exact ihr (d + 1) (by omega) U (hU.no (fun z => Int32.not_le.mpr z.1 q))
          · refine tX2_mayFollow (I := u1 I 24 f) hN (v := v) rfl (by omega) hv v7 (by omega) (hy m (by omega)) (fun z => ?_) (fun z => ?_)
            · refine bX5_look_55 hN (z01 rfl ?_)
              rw [n1]
              exact ihr (d + 1) (by omega) _ (hU.yes (by omega) ⟨nle q, z⟩)
            · refine bX5_look_55 hN (z00 rfl ?_)
              rw [n1]
              exact ihr (d + 1) (by omega) U (hU.no (fun w => z w.2))
      exact inner v 0 (by omega) 0 (Bt.zero _)
  have := key v 0 (by omega) (I 24) (fun i hi => by omega)
  rw [u1_self] at this
  exact bX5_look_0 hN this
/-- behind a change of yesterday -/
def yc (I : Nat → Nat → Int32) (f : Nat → Int32) : Nat → Nat → Int32 := u2 (u2 (u2 (u1 I 24 f) 27 3 0) 30 3 0) 33 3 0
theorem bX9_yesterdayChanged_0 {E : Nat × (Nat → Int32)} {I : Nat → Nat → Int32} {J : Nat → Nat → Int64} {b : Bool}  {Q : Option Value → am_H → Prop}  (wp : am_R E mX5_look 0 [some (.ref 23), some (.ref 11), none, none, none] [] (hp I J b) 64 64 (fun r h' => am_R E mX9_yesterdayChanged 14 [some (.ref 0), none] (r.toList ++ []) h' 64 64 Q)) : am_R E mX9_yesterdayChanged 0 [some (.ref 0), none] [] (hp I J b) 64 64 Q := by
  refine am_aload_n rfl rfl dX9_yesterdayChanged_0 ?_
  refine am_getA (r := 23) dX9_yesterdayChanged_1 flX9_43 (Or.inl ⟨_, rfl⟩) rfl (by decide) rfl ?_
  refine am_aload_n rfl rfl dX9_yesterdayChanged_4 ?_
  refine am_getA (r := 9) dX9_yesterdayChanged_5 flX9_26 (Or.inl ⟨_, rfl⟩) rfl (by decide) rfl ?_
  refine am_getA (r := 11) dX9_yesterdayChanged_8 flX9_87 (Or.inr ⟨_, rfl⟩) rfl (by decide) rfl ?_
  refine am_invV (ci := 3) (As := [.ref 11]) (lsZ := [some (.ref 23), some (.ref 11), none, none, none]) (st := []) dX9_yesterdayChanged_11 hX5_look lkX9_90 ⟨by decide, by decide⟩ (by decide) rfl (by decide) rfl rfl rfl (Nat.le_of_ble_eq_true rfl) rfl (Nat.le_of_ble_eq_true rfl) ⟨Nat.le_refl _, Nat.le_refl _⟩ (am_R.mono wp (fun r h' q => am_R.forget q ⟨rfl, trivial⟩))
theorem bX9_yesterdayChanged_14 {E : Nat × (Nat → Int32)} {I : Nat → Nat → Int32} {J : Nat → Nat → Int64} {b : Bool}  {Q : Option Value → am_H → Prop}  (wp : am_R E mX9_yesterdayChanged 16 [some (.ref 0), some (.int 0)] [] (hp I J b) 64 64 Q) : am_R E mX9_yesterdayChanged 14 [some (.ref 0), none] [] (hp I J b) 64 64 Q := by
  refine am_iconst 0 rfl dX9_yesterdayChanged_14 ?_
  refine am_istore_n (ls' := [some (.ref 0), some (.int 0)]) rfl (by decide) rfl rfl dX9_yesterdayChanged_15 ?_
  exact am_R.forget wp ⟨rfl, ⟨rfl, trivial⟩⟩
theorem bX9_yesterdayChanged_16 {E : Nat × (Nat → Int32)} {I : Nat → Nat → Int32} {J : Nat → Nat → Int64} {b : Bool} {a1 : Int32} {Q : Option Value → am_H → Prop}  (wp : ((3 ≤ a1 → Q none (hp I J b)) ∧ (¬ 3 ≤ a1 → ((a1 = 0 ∨ a1 = 1 ∨ a1 = 2) ∧ (a1 = 0 → am_R E mX9_yesterdayChanged 16 [some (.ref 0), some (.int (a1 + 1))] [] (hp (u2 I 27 3 0) J b) 64 64 Q) ∧ (a1 = 1 → am_R E mX9_yesterdayChanged 16 [some (.ref 0), some (.int (a1 + 1))] [] (hp (u2 I 30 3 0) J b) 64 64 Q) ∧ (a1 = 2 → am_R E mX9_yesterdayChanged 16 [some (.ref 0), some (.int (a1 + 1))] [] (hp (u2 I 33 3 0) J b) 64 64 Q))))) : am_R E mX9_yesterdayChanged 16 [some (.ref 0), some (.int a1)] [] (hp I J b) 64 64 Q := by
  refine am_iload_n rfl rfl dX9_yesterdayChanged_16 ?_
  refine am_aload_n rfl rfl dX9_yesterdayChanged_17 ?_
  refine am_getA (r := 26) dX9_yesterdayChanged_18 flX9_52 (Or.inr ⟨_, rfl⟩) rfl (by decide) rfl ?_
  refine am_alen dX9_yesterdayChanged_21 rfl (Or.inr (Or.inr (Or.inr (Or.inr rfl)))) (by decide) ?_
  show am_R E mX9_yesterdayChanged 22 [some (.ref 0), some (.int a1)] [.int 3, .int a1] (hp I J b) 64 64 Q
  refine am_icmp_ge dX9_yesterdayChanged_22 (tgt := 41) rfl (fun hc1 => ?_) (fun hc1 => ?_)
  · have wp := wp.1 hc1
    exact am_vret dX9_yesterdayChanged_41 rfl wp
  · have wp := wp.2 hc1
    refine am_aload_n rfl rfl dX9_yesterdayChanged_25 ?_
    refine am_getA (r := 26) dX9_yesterdayChanged_26 flX9_52 (Or.inr ⟨_, rfl⟩) rfl (by decide) rfl ?_
    refine am_iload_n rfl rfl dX9_yesterdayChanged_29 ?_
    have wq2 := wp
    rcases wp.1 with ha2 | ha2 | ha2
    · have wp := wq2.2.1 ha2
      refine am_aaldN (j := 0) (r := 27) dX9_yesterdayChanged_30 rfl (Or.inr (Or.inr (Or.inr (Or.inr rfl)))) (by decide) ha2 (by decide) (by decide) rfl ?_
      refine am_iconst 0 rfl dX9_yesterdayChanged_31 ?_
      refine am_putZ dX9_yesterdayChanged_32 flX9_267 (Or.inl rfl) rfl rfl (by decide) (by decide) ?_
      refine am_iinc (ls' := [some (.ref 0), some (.int (a1 + 1))]) (by decide) rfl rfl rfl dX9_yesterdayChanged_35 ?_
      refine am_goto dX9_yesterdayChanged_38 (tgt := 16) rfl ?_
      exact am_R.forget wp ⟨rfl, ⟨rfl, trivial⟩⟩
    · have wp := wq2.2.2.1 ha2
      refine am_aaldN (j := 1) (r := 30) dX9_yesterdayChanged_30 rfl (Or.inr (Or.inr (Or.inr (Or.inr rfl)))) (by decide) ha2 (by decide) (by decide) rfl ?_
      refine am_iconst 0 rfl dX9_yesterdayChanged_31 ?_
      refine am_putZ dX9_yesterdayChanged_32 flX9_267 (Or.inl rfl) rfl rfl (by decide) (by decide) ?_
      refine am_iinc (ls' := [some (.ref 0), some (.int (a1 + 1))]) (by decide) rfl rfl rfl dX9_yesterdayChanged_35 ?_
      refine am_goto dX9_yesterdayChanged_38 (tgt := 16) rfl ?_
      exact am_R.forget wp ⟨rfl, ⟨rfl, trivial⟩⟩
    · have wp := wq2.2.2.2 ha2
      refine am_aaldN (j := 2) (r := 33) dX9_yesterdayChanged_30 rfl (Or.inr (Or.inr (Or.inr (Or.inr rfl)))) (by decide) ha2 (by decide) (by decide) rfl ?_
      refine am_iconst 0 rfl dX9_yesterdayChanged_31 ?_
      refine am_putZ dX9_yesterdayChanged_32 flX9_267 (Or.inl rfl) rfl rfl (by decide) (by decide) ?_
      refine am_iinc (ls' := [some (.ref 0), some (.int (a1 + 1))]) (by decide) rfl rfl rfl dX9_yesterdayChanged_35 ?_
      refine am_goto dX9_yesterdayChanged_38 (tgt := 16) rfl ?_
      exact am_R.forget wp ⟨rfl, ⟨rfl, trivial⟩⟩
theorem tX9_yesterdayChanged {v : Nat} (hv : I 4 0 = nI v) (v7 : v ≤ 7) (hy : ∀ m, m < v → I 11 m = -1 ∨ ∃ e, e < v ∧ I 11 m = nI e) (k : ∀ f : Nat → Int32, (∀ m, m < v → ∀ d, d < v → (((f m >>> (nI d &&& 31)) &&& 1) = 1 ↔ 0 < I 5 (7 * m + d) ∧ mf I d (I 11 m))) → Q none (hp (yc I f) J b)) : am_R E mX9_yesterdayChanged 0 [some (.ref 0), none] [] (hp I J b) 64 64 Q := by
  refine bX9_yesterdayChanged_0 (tX5_look (by decide) hv v7 hy (fun f hf => bX9_yesterdayChanged_14 ?_))
  have c1 : (0 : Int32) + 1 = 1 := by decide
  have c2 : (1 : Int32) + 1 = 2 := by decide
  have c3 : (2 : Int32) + 1 = 3 := by decide
  refine bX9_yesterdayChanged_16 ⟨fun q => absurd q (by decide), fun _ => ⟨Or.inl rfl, fun _ => ?_, fun q => absurd q (by decide), fun q => absurd q (by decide)⟩⟩
  rw [c1]
  refine bX9_yesterdayChanged_16 ⟨fun q => absurd q (by decide), fun _ => ⟨Or.inr (Or.inl rfl), fun q => absurd q (by decide), fun _ => ?_, fun q => absurd q (by decide)⟩⟩
  rw [c2]
  refine bX9_yesterdayChanged_16 ⟨fun q => absurd q (by decide), fun _ => ⟨Or.inr (Or.inr rfl), fun q => absurd q (by decide), fun q => absurd q (by decide), fun _ => ?_⟩⟩
  rw [c3]
  exact bX9_yesterdayChanged_16 ⟨fun _ => k f hf, fun q => absurd (by decide) q⟩
theorem mf_mb (hk : ∀ d, d < 7 → ∃ v, v ≤ 3 ∧ I 51 d = nI v) (h7 : ∀ d, d < 7 → I 7 d = I 51 d + 1) (h5 : ∀ j, j < 49 → I 5 j = I 49 j) {m d : Nat} {y : Int32} (hm : m < 7) (hd : d < 7) (hy : y = -1 ∨ ∃ e, e < 7 ∧ y = nI e) : (0 < I 5 (7 * m + d) ∧ mf I d y) ↔ mb I m d y := by
  have key : ∀ d, d < 7 → (I 7 d = 2 ↔ I 51 d = 1) ∧ (I 7 d = 3 ↔ I 51 d = 2) := by
    intro d hd
    obtain ⟨v, hv, e⟩ := hk d hd
    rw [h7 d hd, e]
    rcases (show v = 0 ∨ v = 1 ∨ v = 2 ∨ v = 3 by omega) with rfl | rfl | rfl | rfl <;> decide
  unfold mf mb
  rw [h5 _ (by omega), (key d hd).1, (key d hd).2]
  rcases hy with hy | ⟨e, he, hy⟩
  · constructor
    · rintro ⟨h1, h2, h3⟩; exact ⟨h1, fun q => q.2.1 hy, h3⟩
    · rintro ⟨h1, h2, h3⟩; exact ⟨h1, fun q => q.2.1 hy, h3⟩
  · have hc : y.toNatClampNeg = e := by rw [hy]; exact nI_clamp (by omega)
    rw [hc, (key e he).1]
/-- all but the days is told as before -/
def Sy (I I' : Nat → Nat → Int32) : Prop := (I' 1 1 = I 1 1 ∧ I' 2 = I 2 ∧ I' 48 6 = I 48 6 ∧ I' 53 = I 53) ∧ (I' 4 = I 4 ∧ I' 5 = I 5 ∧ I' 6 = I 6 ∧ I' 7 = I 7 ∧ I' 8 = I 8) ∧ (I' 14 = I 14 ∧ I' 15 = I 15 ∧ I' 16 = I 16 ∧ I' 17 = I 17 ∧ I' 18 = I 18 ∧ I' 19 = I 19 ∧ I' 20 = I 20 ∧ I' 21 = I 21 ∧ I' 22 = I 22) ∧ (I' 27 1 = I 27 1 ∧ I' 27 3 = 0 ∧ I' 30 1 = I 30 1 ∧ I' 30 3 = 0 ∧ I' 33 1 = I 33 1 ∧ I' 33 3 = 0) ∧ (I' 48 0 = I 48 0 ∧ I' 48 1 = I 48 1 ∧ I' 49 = I 49 ∧ I' 50 = I 50 ∧ I' 51 = I 51 ∧ I' 52 = I 52 ∧ I' 56 = I 56 ∧ I' 57 = I 57)
theorem Inv.yes (h : Inv I n) (s : Sy I I') (hD : Dw (I' 55) n) (hR : Dr (I' 9) (I' 10) (I' 11) (I' 12) (I' 55) n) (hb : ∀ m, m < n → ∀ d, d < n → (((I' 24 m >>> (nI d &&& 31)) &&& 1) = 1 ↔ 0 < I' 5 (7 * m + d) ∧ mf I' d (I' 11 m))) : Inv I' n := by
  obtain ⟨⟨t1, t2, t3, t4⟩, ⟨c4, c5, c6, c7, c8⟩, ⟨c14, c15, c16, c17, c18, c19, c20, c21, c22⟩, ⟨k1, k2, k3, k4, k5, k6⟩, ⟨m0, m1, m49, m50, m51, m52, m56, m57⟩⟩ := s
  obtain ⟨hM, hC⟩ := h
  obtain ⟨a1, a2, a3, a4, a5, a6, -, a8⟩ := hM
  obtain ⟨⟨q1, q2, q3, q4, -⟩, d2, d3, d4, d5, -, d7, d8, d9, d10, d11, d12⟩ := hC
  have n7 := a1.2.2
  refine ⟨⟨?_, ?_, ?_, ?_, ?_, ?_, hD, ?_⟩, ⟨?_, q2, ?_, ?_, ?_⟩, ?_, ?_, ?_, ?_, hR, ?_, ?_, ?_, ⟨?_, Or.inl k2⟩, ⟨?_, Or.inl k4⟩, ⟨?_, Or.inl k6⟩⟩
  · unfold Nn at a1 ⊢; rw [m0]; exact a1
  · rw [m1]; exact a2
  · rw [m49]; exact a3
  · unfold Lk at a4 ⊢; rw [m50]; exact a4
  · rw [m51]; exact a5
  · rw [m52]; exact a6
  · rw [m56, m57]; exact a8
  · rw [c4]; exact q1
  · rw [c5, m49]; exact q3
  · rw [c6, m50]; exact q4
  · intro m hm d hd
    rw [hb m hm d hd, hR.2.2.2.1 m hm]
    refine mf_mb (by rw [m51]; exact a5) (by rw [c7, m51]; exact d3) (by rw [c5, m49]; exact q3) (by omega) (by omega) ?_
    rcases hD.2.2.1 m hm with z | ⟨e, z1, z2⟩
    · exact Or.inl z
    · exact Or.inr ⟨e, by omega, z2⟩
  · rw [c4, m1]; exact d2
  · rw [c7, m51]; exact d3
  · rw [c8, m52]; exact d4
  · rw [t1, t2, t3, t4]; exact d5
  · rw [c22, m57]; exact d7
  · rw [c14, c15, c16, c17, m56, m57]; exact d8
  · rw [c18, c19, c20, c21, m56, m57]; exact d9
  · rw [k1]; exact d10.1
  · rw [k3]; exact d11.1
  · rw [k5]; exact d12.1
theorem bX1_end_0 {E : Nat × (Nat → Int32)} {I : Nat → Nat → Int32} {J : Nat → Nat → Int64} {b : Bool}  {Q : Option Value → am_H → Prop}  (wp : ((16 ≤ (I 9 3) → Q none (hp I J b)) ∧ (¬ 16 ≤ (I 9 3) → ∃ j2, ((I 9 3) * 7) = nI j2 ∧ j2 + 7 ≤ 112 ∧ Q none (hp (u2 (u2 (u1 (u1 I 12 (va_cpy (I 10) (I 12) 0 j2 7)) 11 (va_cpy (I 10) (I 11) 0 0 7)) 9 3 ((I 9 3) + 1)) 9 0 0) J b)))) : am_R E mX1_end 0 [some (.ref 9)] [] (hp I J b) 64 64 Q := by
  refine am_aload_n rfl rfl dX1_end_0 ?_
  refine am_getI dX1_end_1 flX1_25 (Or.inl rfl) rfl (by decide) ?_
  refine am_bipush 16 rfl dX1_end_4 ?_
  refine am_icmp_ge dX1_end_6 (tgt := 60) rfl (fun hc1 => ?_) (fun hc1 => ?_)
  · have wp := wp.1 hc1
    exact am_vret dX1_end_60 rfl wp
  · have wp := wp.2 hc1
    refine am_aload_n rfl rfl dX1_end_9 ?_
    refine am_getA (r := 10) dX1_end_10 flX1_9 (Or.inr ⟨_, rfl⟩) rfl (by decide) rfl ?_
    refine am_iconst 0 rfl dX1_end_13 ?_
    refine am_aload_n rfl rfl dX1_end_14 ?_
    refine am_getA (r := 12) dX1_end_15 flX1_18 (Or.inr ⟨_, rfl⟩) rfl (by decide) rfl ?_
    refine am_aload_n rfl rfl dX1_end_18 ?_
    refine am_getI dX1_end_19 flX1_25 (Or.inl rfl) rfl (by decide) ?_
    refine am_bipush 7 rfl dX1_end_22 ?_
    refine am_imul dX1_end_24 ?_
    refine am_bipush 7 rfl dX1_end_25 ?_
    obtain ⟨j2, e2, wp⟩ := wp
    obtain ⟨w3, wp⟩ := wp
    refine am_copyN (s0 := 0) (d0 := j2) (x0 := 7) dX1_end_27 lkX1_29 kn_copy rfl rfl (by decide) (by decide) rfl e2 rfl (by decide) w3 (by decide) (Nat.le_of_ble_eq_true rfl) (by decide) ?_
    show am_R E mX1_end 30 [some (.ref 9)] [] (hp (u1 I 12 (va_cpy (I 10) (I 12) 0 j2 7)) J b) 64 64 Q
    refine am_aload_n rfl rfl dX1_end_30 ?_
    refine am_getA (r := 10) dX1_end_31 flX1_9 (Or.inr ⟨_, rfl⟩) rfl (by decide) rfl ?_
    refine am_iconst 0 rfl dX1_end_34 ?_
    refine am_aload_n rfl rfl dX1_end_35 ?_
    refine am_getA (r := 11) dX1_end_36 flX1_15 (Or.inr ⟨_, rfl⟩) rfl (by decide) rfl ?_
    refine am_iconst 0 rfl dX1_end_39 ?_
    refine am_bipush 7 rfl dX1_end_40 ?_
    refine am_copyN (s0 := 0) (d0 := 0) (x0 := 7) dX1_end_42 lkX1_29 kn_copy rfl rfl (by decide) (by decide) rfl rfl rfl (by decide) (by decide) (by decide) (Nat.le_of_ble_eq_true rfl) (by decide) ?_
    show am_R E mX1_end 45 [some (.ref 9)] [] (hp (u1 (u1 I 12 (va_cpy (I 10) (I 12) 0 j2 7)) 11 (va_cpy (I 10) (I 11) 0 0 7)) J b) 64 64 Q
    refine am_aload_n rfl rfl dX1_end_45 ?_
    refine am_dup rfl dX1_end_46 ?_
    refine am_getI dX1_end_47 flX1_25 (Or.inl rfl) rfl (by decide) ?_
    show am_R E mX1_end 50 [some (.ref 9)] [.int (I 9 3), .ref 9] (hp (u1 (u1 I 12 (va_cpy (I 10) (I 12) 0 j2 7)) 11 (va_cpy (I 10) (I 11) 0 0 7)) J b) 64 64 Q
    refine am_iconst 1 rfl dX1_end_50 ?_
    refine am_iadd dX1_end_51 ?_
    refine am_putI dX1_end_52 flX1_25 (Or.inl rfl) rfl rfl (by decide) ?_
    refine am_aload_n rfl rfl dX1_end_55 ?_
    refine am_iconst 0 rfl dX1_end_56 ?_
    refine am_putZ dX1_end_57 flX1_21 (Or.inl rfl) rfl rfl (by decide) (by decide) ?_
    exact am_vret dX1_end_60 rfl wp
theorem bX9_dawn_0 {E : Nat × (Nat → Int32)} {I : Nat → Nat → Int32} {J : Nat → Nat → Int64} {b : Bool}  {Q : Option Value → am_H → Prop}  (wp : ((¬ (I 9 0) = 0 → (((I 9 3) < 16 → am_R E mX1_end 0 [some (.ref 9)] [] (hp I J b) 64 64 (fun r h' => am_R E mX9_dawn 35 [some (.ref 0)] (r.toList ++ []) h' 64 64 Q)) ∧ (¬ (I 9 3) < 16 → Q (some (.int (-5))) (hp I J b)))) ∧ ((I 9 0) = 0 → Q (some (.int (-4))) (hp I J b)))) : am_R E mX9_dawn 0 [some (.ref 0)] [] (hp I J b) 64 64 Q := by
  refine am_aload_n rfl rfl dX9_dawn_0 ?_
  refine am_getA (r := 9) dX9_dawn_1 flX9_26 (Or.inl ⟨_, rfl⟩) rfl (by decide) rfl ?_
  refine am_getI dX9_dawn_4 flX9_160 (Or.inr rfl) rfl (by decide) ?_
  refine am_if_ne dX9_dawn_7 (tgt := 13) rfl (fun hc1 => ?_) (fun hc1 => ?_)
  · have wp := wp.1 hc1
    refine am_aload_n rfl rfl dX9_dawn_13 ?_
    refine am_getA (r := 9) dX9_dawn_14 flX9_26 (Or.inl ⟨_, rfl⟩) rfl (by decide) rfl ?_
    refine am_getI dX9_dawn_17 flX9_186 (Or.inl rfl) rfl (by decide) ?_
    refine am_bipush 16 rfl dX9_dawn_20 ?_
    refine am_icmp_lt dX9_dawn_22 (tgt := 28) rfl (fun hc2 => ?_) (fun hc2 => ?_)
    · have wp := wp.1 hc2
      refine am_aload_n rfl rfl dX9_dawn_28 ?_
      refine am_getA (r := 9) dX9_dawn_29 flX9_26 (Or.inl ⟨_, rfl⟩) rfl (by decide) rfl ?_
      refine am_invV (ci := 0) (As := []) (lsZ := [some (.ref 9)]) (st := []) dX9_dawn_32 hX1_end lkX9_189 ⟨by decide, by decide⟩ (by decide) rfl (by decide) rfl rfl rfl (Nat.le_of_ble_eq_true rfl) rfl (Nat.le_of_ble_eq_true rfl) ⟨Nat.le_refl _, Nat.le_refl _⟩ (am_R.mono wp (fun r h' q => am_R.forget q ⟨rfl, trivial⟩))
    · have wp := wp.2 hc2
      refine am_bipush (-5) rfl dX9_dawn_25 ?_
      exact am_iret dX9_dawn_27 rfl rfl wp
  · have wp := wp.2 hc1
    refine am_bipush (-4) rfl dX9_dawn_10 ?_
    exact am_iret dX9_dawn_12 rfl rfl wp
theorem bX9_dawn_35 {E : Nat × (Nat → Int32)} {I : Nat → Nat → Int32} {J : Nat → Nat → Int64} {b : Bool}  {Q : Option Value → am_H → Prop}  (wp : am_R E mX9_yesterdayChanged 0 [some (.ref 0), none] [] (hp I J b) 64 64 (fun r h' => am_R E mX9_dawn 39 [some (.ref 0)] (r.toList ++ []) h' 64 64 Q)) : am_R E mX9_dawn 35 [some (.ref 0)] [] (hp I J b) 64 64 Q := by
  refine am_aload_n rfl rfl dX9_dawn_35 ?_
  refine am_invV (ci := 7) (As := []) (lsZ := [some (.ref 0), none]) (st := []) dX9_dawn_36 hX9_yesterdayChanged lkX9_119 ⟨by decide, by decide⟩ (by decide) rfl (by decide) rfl rfl rfl (Nat.le_of_ble_eq_true rfl) rfl (Nat.le_of_ble_eq_true rfl) ⟨Nat.le_refl _, Nat.le_refl _⟩ (am_R.mono wp (fun r h' q => am_R.forget q ⟨rfl, trivial⟩))
theorem bX9_dawn_39 {E : Nat × (Nat → Int32)} {I : Nat → Nat → Int32} {J : Nat → Nat → Int64} {b : Bool}  {Q : Option Value → am_H → Prop}  (wp : Q (some (.int (I 9 3))) (hp I J b)) : am_R E mX9_dawn 39 [some (.ref 0)] [] (hp I J b) 64 64 Q := by
  refine am_aload_n rfl rfl dX9_dawn_39 ?_
  refine am_getA (r := 9) dX9_dawn_40 flX9_26 (Or.inl ⟨_, rfl⟩) rfl (by decide) rfl ?_
  refine am_getI dX9_dawn_43 flX9_186 (Or.inl rfl) rfl (by decide) ?_
  exact am_iret dX9_dawn_46 rfl rfl wp
theorem bX10_dawn_0 {E : Nat × (Nat → Int32)} {I : Nat → Nat → Int32} {J : Nat → Nat → Int64} {b : Bool}  {Q : Option Value → am_H → Prop}  (wp : ((¬ (I 55 0) = 0 → ((¬ (I 55 15) = 16 → am_R E mX10_dawn 29 [some (.ref 48), some (.int 0)] [] (hp I J b) 64 64 Q) ∧ ((I 55 15) = 16 → Q (some (.int (-5))) (hp I J b)))) ∧ ((I 55 0) = 0 → Q (some (.int (-4))) (hp I J b)))) : am_R E mX10_dawn 0 [some (.ref 48), none] [] (hp I J b) 64 64 Q := by
  refine am_aload_n rfl rfl dX10_dawn_0 ?_
  refine am_getA (r := 55) dX10_dawn_1 flX10_35 (Or.inr ⟨_, rfl⟩) rfl (by decide) rfl ?_
  refine am_iconst 0 rfl dX10_dawn_4 ?_
  refine am_ialdN (j := 0) dX10_dawn_5 rfl (by decide) rfl (by decide) (by decide) ?_
  refine am_if_ne dX10_dawn_6 (tgt := 12) rfl (fun hc1 => ?_) (fun hc1 => ?_)
  · have wp := wp.1 hc1
    refine am_aload_n rfl rfl dX10_dawn_12 ?_
    refine am_getA (r := 55) dX10_dawn_13 flX10_35 (Or.inr ⟨_, rfl⟩) rfl (by decide) rfl ?_
    refine am_bipush 15 rfl dX10_dawn_16 ?_
    refine am_ialdN (j := 15) dX10_dawn_18 rfl (by decide) rfl (by decide) (by decide) ?_
    refine am_bipush 16 rfl dX10_dawn_19 ?_
    refine am_icmp_ne dX10_dawn_21 (tgt := 27) rfl (fun hc2 => ?_) (fun hc2 => ?_)
    · have wp := wp.1 hc2
      refine am_iconst 0 rfl dX10_dawn_27 ?_
      refine am_istore_n (ls' := [some (.ref 48), some (.int 0)]) rfl (by decide) rfl rfl dX10_dawn_28 ?_
      exact am_R.forget wp ⟨rfl, ⟨rfl, trivial⟩⟩
    · have wp := wp.2 hc2
      refine am_bipush (-5) rfl dX10_dawn_24 ?_
      exact am_iret dX10_dawn_26 rfl rfl wp
  · have wp := wp.2 hc1
    refine am_bipush (-4) rfl dX10_dawn_9 ?_
    exact am_iret dX10_dawn_11 rfl rfl wp
theorem bX10_dawn_29 {E : Nat × (Nat → Int32)} {I : Nat → Nat → Int32} {J : Nat → Nat → Int64} {b : Bool} {a1 : Int32} {Q : Option Value → am_H → Prop}  (wp : (((I 48 0) ≤ a1 → Q (some (.int ((I 55 15) + 1))) (hp (u2 (u2 I 55 0 0) 55 15 ((I 55 15) + 1)) J b)) ∧ (¬ (I 48 0) ≤ a1 → ∃ j2, (1 + a1) = nI j2 ∧ j2 < 128 ∧ ∃ j3, (8 + a1) = nI j3 ∧ j3 < 128 ∧ ∃ j4, ((16 + (7 * ((u2 I 55 j3 (I 55 j2)) 55 15))) + a1) = nI j4 ∧ j4 < 128 ∧ am_R E mX10_dawn 29 [some (.ref 48), some (.int (a1 + 1))] [] (hp (u2 (u2 (u2 I 55 j3 (I 55 j2)) 55 j4 ((u2 I 55 j3 (I 55 j2)) 55 j2)) 55 j2 0) J b) 64 64 Q))) : am_R E mX10_dawn 29 [some (.ref 48), some (.int a1)] [] (hp I J b) 64 64 Q := by
  refine am_iload_n rfl rfl dX10_dawn_29 ?_
  refine am_aload_n rfl rfl dX10_dawn_30 ?_
  refine am_getI dX10_dawn_31 flX10_7 (Or.inl rfl) rfl (by decide) ?_
  refine am_icmp_ge dX10_dawn_34 (tgt := 97) rfl (fun hc1 => ?_) (fun hc1 => ?_)
  · have wp := wp.1 hc1
    refine am_aload_n rfl rfl dX10_dawn_97 ?_
    refine am_getA (r := 55) dX10_dawn_98 flX10_35 (Or.inr ⟨_, rfl⟩) rfl (by decide) rfl ?_
    refine am_iconst 0 rfl dX10_dawn_101 ?_
    refine am_iconst 0 rfl dX10_dawn_102 ?_
    refine am_iastN (j := 0) dX10_dawn_103 rfl (by decide) rfl (by decide) (by decide) ?_
    refine am_aload_n rfl rfl dX10_dawn_104 ?_
    refine am_getA (r := 55) dX10_dawn_105 flX10_35 (Or.inr ⟨_, rfl⟩) rfl (by decide) rfl ?_
    refine am_bipush 15 rfl dX10_dawn_108 ?_
    refine am_dup2 rfl rfl dX10_dawn_110 ?_
    refine am_ialdN (j := 15) dX10_dawn_111 rfl (by decide) rfl (by decide) (by decide) ?_
    show am_R E mX10_dawn 112 [some (.ref 48), some (.int a1)] [.int (I 55 15), .int 15, .ref 55] (hp (u2 I 55 0 0) J b) 64 64 Q
    refine am_iconst 1 rfl dX10_dawn_112 ?_
    refine am_iadd dX10_dawn_113 ?_
    refine am_iastN (j := 15) dX10_dawn_114 rfl (by decide) rfl (by decide) (by decide) ?_
    refine am_aload_n rfl rfl dX10_dawn_115 ?_
    refine am_getA (r := 55) dX10_dawn_116 flX10_35 (Or.inr ⟨_, rfl⟩) rfl (by decide) rfl ?_
    refine am_bipush 15 rfl dX10_dawn_119 ?_
    refine am_ialdN (j := 15) dX10_dawn_121 rfl (by decide) rfl (by decide) (by decide) ?_
    show am_R E mX10_dawn 122 [some (.ref 48), some (.int a1)] [.int ((I 55 15) + 1)] (hp (u2 (u2 I 55 0 0) 55 15 ((I 55 15) + 1)) J b) 64 64 Q
    exact am_iret dX10_dawn_122 rfl rfl wp
  · have wp := wp.2 hc1
    refine am_aload_n rfl rfl dX10_dawn_37 ?_
    refine am_getA (r := 55) dX10_dawn_38 flX10_35 (Or.inr ⟨_, rfl⟩) rfl (by decide) rfl ?_
    refine am_bipush 8 rfl dX10_dawn_41 ?_
    refine am_iload_n rfl rfl dX10_dawn_43 ?_
    refine am_iadd dX10_dawn_44 ?_
    refine am_aload_n rfl rfl dX10_dawn_45 ?_
    refine am_getA (r := 55) dX10_dawn_46 flX10_35 (Or.inr ⟨_, rfl⟩) rfl (by decide) rfl ?_
    refine am_iconst 1 rfl dX10_dawn_49 ?_
    refine am_iload_n rfl rfl dX10_dawn_50 ?_
    refine am_iadd dX10_dawn_51 ?_
    obtain ⟨j2, e2, w2, wp⟩ := wp
    refine am_ialdN (j := j2) dX10_dawn_52 rfl (by decide) e2 w2 (by decide) ?_
    obtain ⟨j3, e3, w3, wp⟩ := wp
    refine am_iastN (j := j3) dX10_dawn_53 rfl (by decide) e3 w3 (by decide) ?_
    refine am_aload_n rfl rfl dX10_dawn_54 ?_
    refine am_getA (r := 55) dX10_dawn_55 flX10_35 (Or.inr ⟨_, rfl⟩) rfl (by decide) rfl ?_
    refine am_bipush 16 rfl dX10_dawn_58 ?_
    refine am_bipush 7 rfl dX10_dawn_60 ?_
    refine am_aload_n rfl rfl dX10_dawn_62 ?_
    refine am_getA (r := 55) dX10_dawn_63 flX10_35 (Or.inr ⟨_, rfl⟩) rfl (by decide) rfl ?_
    refine am_bipush 15 rfl dX10_dawn_66 ?_
    refine am_ialdN (j := 15) dX10_dawn_68 rfl (by decide) rfl (by decide) (by decide) ?_
    show am_R E mX10_dawn 69 [some (.ref 48), some (.int a1)] [.int ((u2 I 55 j3 (I 55 j2)) 55 15), .int 7, .int 16, .ref 55] (hp (u2 I 55 j3 (I 55 j2)) J b) 64 64 Q
    refine am_imul dX10_dawn_69 ?_
    refine am_iadd dX10_dawn_70 ?_
    refine am_iload_n rfl rfl dX10_dawn_71 ?_
    refine am_iadd dX10_dawn_72 ?_
    refine am_aload_n rfl rfl dX10_dawn_73 ?_
    refine am_getA (r := 55) dX10_dawn_74 flX10_35 (Or.inr ⟨_, rfl⟩) rfl (by decide) rfl ?_
    refine am_iconst 1 rfl dX10_dawn_77 ?_
    refine am_iload_n rfl rfl dX10_dawn_78 ?_
    refine am_iadd dX10_dawn_79 ?_
    refine am_ialdN (j := j2) dX10_dawn_80 rfl (by decide) e2 w2 (by decide) ?_
    show am_R E mX10_dawn 81 [some (.ref 48), some (.int a1)] [.int ((u2 I 55 j3 (I 55 j2)) 55 j2), .int ((16 + (7 * ((u2 I 55 j3 (I 55 j2)) 55 15))) + a1), .ref 55] (hp (u2 I 55 j3 (I 55 j2)) J b) 64 64 Q
    obtain ⟨j4, e4, w4, wp⟩ := wp
    refine am_iastN (j := j4) dX10_dawn_81 rfl (by decide) e4 w4 (by decide) ?_
    refine am_aload_n rfl rfl dX10_dawn_82 ?_
    refine am_getA (r := 55) dX10_dawn_83 flX10_35 (Or.inr ⟨_, rfl⟩) rfl (by decide) rfl ?_
    refine am_iconst 1 rfl dX10_dawn_86 ?_
    refine am_iload_n rfl rfl dX10_dawn_87 ?_
    refine am_iadd dX10_dawn_88 ?_
    refine am_iconst 0 rfl dX10_dawn_89 ?_
    refine am_iastN (j := j2) dX10_dawn_90 rfl (by decide) e2 w2 (by decide) ?_
    refine am_iinc (ls' := [some (.ref 48), some (.int (a1 + 1))]) (by decide) rfl rfl rfl dX10_dawn_91 ?_
    refine am_goto dX10_dawn_94 (tgt := 29) rfl ?_
    exact am_R.forget wp ⟨rfl, ⟨rfl, trivial⟩⟩
theorem p_dawn (hI : Inv I n) : Pair E mX9_dawn mX10_dawn [some (.ref 0)] [some (.ref 48), none] I J b := by
  have hI0 := hI
  obtain ⟨hM, hC⟩ := hI
  obtain ⟨⟨n0, n2, n7⟩, -, -, -, -, -, hD, -⟩ := hM
  obtain ⟨hCH, -, -, -, -, c5, -⟩ := hC
  obtain ⟨D, hD1, hD2⟩ := hD.2.2.2
  have e3 : I 9 3 = nI D := c5.2.1.trans hD2
  have e0 : I 4 0 = nI n := hCH.1
  rcases hD.1 with z | z
  · exact Pair.same hI0 (.int (-4)) (fun Q h => bX9_dawn_0 ⟨fun q => absurd (c5.1.trans z) q, fun _ => h⟩) (fun J b Q h => bX10_dawn_0 ⟨fun q => absurd z q, fun _ => h⟩)
  · obtain ⟨p, hp1, hp2⟩ := hD.2.1 z
    have nz1 : ¬ I 9 0 = 0 := by rw [c5.1, z]; decide
    have nz2 : ¬ I 55 0 = 0 := by rw [z]; decide
    by_cases hf16 : D = 16
    · exact Pair.same hI0 (.int (-5)) (fun Q h => bX9_dawn_0 ⟨fun _ => lt_br (m := 16) e3 rfl (by omega) (by omega) (fun q => by omega) (fun _ => h), fun q => absurd q nz1⟩) (fun J b Q h => bX10_dawn_0 ⟨fun _ => ⟨fun q => absurd (by rw [hD2, hf16]; rfl) q, fun _ => h⟩, fun q => absurd q nz2⟩)
    · have hR : Rw (I 10) p n := fun m hm => ⟨by rw [c5.2.2.1 z m hm]; exact hp1 m hm, hp2.1 m hm⟩
      have cp0 : ∀ m, m < n → va_cpy (I 10) (I 11) 0 0 7 m = nI (p m) := hR.cpy n7
      refine ⟨.int (nI (D + 1)), fun I1 => ∃ f : Nat → Int32, (∀ m, m < n → ∀ d, d < n → (((f m >>> (nI d &&& 31)) &&& 1) = 1 ↔ 0 < I 5 (7 * m + d) ∧ mf I d (va_cpy (I 10) (I 11) 0 0 7 m))) ∧ I1 = yc (u2 (u2 (u1 (u1 I 12 (va_cpy (I 10) (I 12) 0 (7 * D) 7)) 11 (va_cpy (I 10) (I 11) 0 0 7)) 9 3 (nI D + 1)) 9 0 0) f, fun Q h => ?_, fun I1 J1 b1 e Q h => ?_⟩
      · refine bX9_dawn_0 ⟨fun _ => lt_br (m := 16) e3 rfl (by omega) (by omega) (fun _ => ?_) (fun q => by omega), fun q => absurd q nz1⟩
        refine bX1_end_0 (le_br (n := 16) rfl e3 (by omega) (by omega) (fun q => by omega) (fun _ => ⟨7 * D, by rw [e3, show (7 : Int32) = nI 7 from rfl, pk_mul, Nat.mul_comm], by omega, ?_⟩))
        refine bX9_dawn_35 (tX9_yesterdayChanged (v := n) e0 n7 (fun m hm => Or.inr ⟨p m, hp2.1 m hm, cp0 m hm⟩) (fun f hf => bX9_dawn_39 ?_))
        rw [e3]
        have q := h _ J b ⟨f, hf, rfl⟩
        rw [← n1] at q
        exact q
      · obtain ⟨f, hf, rfl⟩ := e
        refine bX10_dawn_0 ⟨fun _ => ⟨fun _ => ?_, fun q => ?_⟩, fun q => absurd q nz2⟩
        · generalize hG : yc (u2 (u2 (u1 (u1 I 12 (va_cpy (I 10) (I 12) 0 (7 * D) 7)) 11 (va_cpy (I 10) (I 11) 0 0 7)) 9 3 (nI D + 1)) 9 0 0) f = G
          have g48 : G 48 = I 48 := by rw [← hG]; rfl
          have g55 : G 55 = I 55 := by rw [← hG]; rfl
          have key : ∀ j m, m + j = n → ∀ g : Nat → Int32, (∀ i, i < m → g (8 + i) = nI (p i) ∧ g (16 + 7 * D + i) = nI (p i)) → (∀ i, m ≤ i → i < n → g (1 + i) = nI (p i)) → g 15 = nI D → (∀ i, 16 ≤ i → i < 16 + 7 * D → g i = I 55 i) → am_R E mX10_dawn 29 [some (.ref 48), some (.int (nI m))] [] (hp (u1 G 55 g) J1 b1) 64 64 Q := by
            intro j
            induction j with
            | zero =>
              intro m hm g h1 h2 h3 h4
              have e : m = n := by omega
              subst e
              refine bX10_dawn_29 (le_br (by rw [u1_n _ _ (by decide), g48]; exact n0) rfl (by omega) (by omega) (fun _ => ?_) (fun h => by omega))
              rw [u1_s, h3, n1, u2_u1, u2_u1]
              have w0 : upd (upd g 0 0) 15 (nI (D + 1)) 0 = 0 := rfl
              have w15 : upd (upd g 0 0) 15 (nI (D + 1)) 15 = nI (D + 1) := rfl
              have w : ∀ i, i ≠ 0 → i ≠ 15 → upd (upd g 0 0) 15 (nI (D + 1)) i = g i := fun i q1 q2 => by unfold upd; rw [if_neg q2, if_neg q1]
              refine h _ J1 b1 m (Inv.yes hI0 ?_ ?_ ?_ ?_)
              · rw [← hG]
                exact ⟨⟨rfl, rfl, rfl, rfl⟩, ⟨rfl, rfl, rfl, rfl, rfl⟩, ⟨rfl, rfl, rfl, rfl, rfl, rfl, rfl, rfl, rfl⟩, ⟨rfl, rfl, rfl, rfl, rfl, rfl⟩, ⟨rfl, rfl, rfl, rfl, rfl, rfl, rfl, rfl⟩⟩
              · rw [u1_s]
                refine ⟨Or.inl w0, fun q => absurd (w0.symm.trans q) (by decide), fun i hi => Or.inr ⟨p i, hp2.1 i hi, ?_⟩, D + 1, by omega, w15⟩
                rw [w (8 + i) (by omega) (by omega)]
                exact (h1 i hi).1
              · rw [u1_s]
                refine ⟨?_, ?_, fun q => absurd (w0.symm.trans q) (by decide), fun i hi => ?_, fun D' hD' eD i hi x hx => ?_⟩
                · rw [w0, ← hG]; rfl
                · rw [w15, ← hG, ← n1]; rfl
                · rw [w (8 + i) (by omega) (by omega), (h1 i hi).1, ← hG]
                  exact cp0 i hi
                · rw [w15] at eD
                  have eD := (nI_eq (by omega) (by omega)).mp eD
                  rw [w (16 + 7 * i + x) (by omega) (by omega), ← hG]
                  show va_cpy (I 10) (I 12) 0 (7 * D) 7 (7 * i + x) = _
                  unfold va_cpy
                  by_cases q : i = D
                  · subst q
                    rw [if_pos (by omega), show 0 + (7 * i + x - 7 * i) = x by omega, (hR x hx).1, (h1 x hx).2]
                  · rw [if_neg (by omega), h4 _ (by omega) (by omega)]
                    exact c5.2.2.2.2 D hD1 hD2 i (by omega) x hx
              · intro i hi d hd
                rw [← hG]
                exact hf i hi d hd
            | succ j ih =>
              intro m hm g h1 h2 h3 h4
              have s1 : ∀ v : Int32, upd g (8 + m) v (1 + m) = g (1 + m) := fun v => by unfold upd; rw [if_neg (by omega)]
              have s2 : ∀ v : Int32, upd g (8 + m) v 15 = g 15 := fun v => by unfold upd; rw [if_neg (by omega)]
              refine bX10_dawn_29 (le_br (by rw [u1_n _ _ (by decide), g48]; exact n0) rfl (by omega) (by omega) (fun h => by omega) (fun _ => ⟨1 + m, n1' m, by omega, 8 + m, n8' m, by omega, 16 + 7 * D + m, ?_, by omega, ?_⟩))
              · rw [u1_s, u2_u1, u1_s, s2, h3, show (16 : Int32) = nI 16 from rfl, show (7 : Int32) = nI 7 from rfl, pk_mul, nI_add, nI_add]
              · rw [u1_s, u2_u1, u1_s, s1, u2_u1, u2_u1, n1]
                refine ih (m + 1) (by omega) _ (fun i hi => ?_) (fun i hi hi2 => ?_) ?_ (fun i hi hi2 => ?_)
                · unfold upd
                  constructor
                  · rw [if_neg (by omega), if_neg (by omega)]
                    by_cases q : i = m
                    · rw [if_pos (by omega), q]; exact h2 m (by omega) (by omega)
                    · rw [if_neg (by omega)]; exact (h1 i (by omega)).1
                  · rw [if_neg (by omega)]
                    by_cases q : i = m
                    · rw [if_pos (by omega), q]; exact h2 m (by omega) (by omega)
                    · rw [if_neg (by omega), if_neg (by omega)]; exact (h1 i (by omega)).2
                · unfold upd
                  rw [if_neg (by omega), if_neg (by omega), if_neg (by omega)]; exact h2 i (by omega) hi2
                · unfold upd
                  rw [if_neg (by omega), if_neg (by omega), if_neg (by omega)]; exact h3
                · unfold upd
                  rw [if_neg (by omega), if_neg (by omega), if_neg (by omega)]; exact h4 i hi hi2
          have := key n 0 (by omega) (I 55) (fun i hi => by omega) (fun i _ hi => hp1 i hi) hD2 (fun i _ _ => rfl)
          rw [← g55, u1_self] at this
          exact this
        · have q : nI D = nI 16 := by rw [← hD2]; exact q
          exact absurd ((nI_eq (by omega) (by omega)).mp q) hf16
end P6
