/-! ===== the law ===== -/
section P27
variable {E : Nat × (Nat → Int32)} {M : am_M} {pc : Nat} {ls : List (Option Value)} {st : List Value} {n n1 : Nat} {Q : Option Value → am_H → Prop} {I : Nat → Nat → Int32} {J : Nat → Nat → Int64} {b : Bool} {h : am_H}
abbrev mL_law : am_M := am_law
theorem am_R.monoK {Q' : Option Value → am_H → Prop} (k : am_R E M pc ls st h n n1 Q) (hQ : ∀ pc' r h', Q r h' → am_K M pc' r → Q' r h') : am_R E M pc ls st h n n1 Q' := by
  intro p l e s m args below meth c g n0 Z H locs lsc Rm C hR hP hS hn hl hq
  exact k p l e s m args below meth c g n0 Z H locs lsc Rm C hR hP hS hn hl (fun pc' r h' H' locs' lsc' q hP' hS' hK => hq pc' r h' H' locs' lsc' (hQ pc' r h' q hK) hP' hS' hK)
theorem am_K.int {r : Option Value} (hK : am_K M pc r) (hr : M.2.2.2.1 = some .int) : ∃ x, r = some (.int x) := by
  match r, hK with
  | none, hK => exact absurd (hr.symm.trans hK.2) (by decide)
  | some (.int v), _ => exact ⟨v, rfl⟩
  | some (.long _), hK => exact absurd (hr.symm.trans hK.2) (by decide)
  | some (.ref _), hK =>
    obtain ⟨-, rt, h1, h2⟩ := hK
    have e : FieldType.int = rt := Option.some.inj (hr.symm.trans h1)
    rcases h2 with ⟨x, q⟩ | ⟨x, q⟩
    · rw [q] at e; cases e
    · rw [q] at e; cases e
theorem law_pair {mx mm : am_M} {lx lm : List (Option Value)} (P : Pair E mx mm lx lm I J b) (hx : mx.2.2.2.1 = some .int) {K : Option Value → am_H → Prop} (k : ∀ (x : Int32) I1 J1 b1, (∀ Q' : Option Value → am_H → Prop, (∀ I2 J2 b2 n2, Inv I2 n2 → Q' (some (.int x)) (hp I2 J2 b2)) → am_R E mm 0 lm [] (hp I1 J1 b1) 64 64 Q') → K (some (.int x)) (hp I1 J1 b1)) : am_R E mx 0 lx [] (hp I J b) 64 64 K := by
  obtain ⟨v, Mid, h1, h2⟩ := P
  refine am_R.monoK (h1 (fun r h' => r = some v ∧ ∃ I1 J1 b1, h' = hp I1 J1 b1 ∧ Mid I1) (fun I1 J1 b1 hm => ⟨rfl, I1, J1, b1, rfl, hm⟩)) ?_
  rintro pc' r h' ⟨hr, I1, J1, b1, hh, hm⟩ hK
  obtain ⟨x, hx2⟩ := hK.int hx
  subst hh
  rw [hx2] at hr ⊢
  cases hr
  exact k x I1 J1 b1 (h2 I1 J1 b1 hm)
theorem law_pairL {mx mm : am_M} {lx lm : List (Option Value)} (P : PairL E mx mm lx lm I J b) {K : Option Value → am_H → Prop} (k : ∀ (x : Int64) I1 J1 b1, (∀ Q' : Option Value → am_H → Prop, (∀ I2 J2 b2 n2, Inv I2 n2 → Q' (some (.long x)) (hp I2 J2 b2)) → am_R E mm 0 lm [] (hp I1 J1 b1) 64 64 Q') → K (some (.long x)) (hp I1 J1 b1)) : am_R E mx 0 lx [] (hp I J b) 64 64 K := by
  obtain ⟨v, Mid, h1, h2⟩ := P
  exact h1 K (fun I1 J1 b1 hm => k v I1 J1 b1 (h2 I1 J1 b1 hm))
theorem bL_law_18 {E : Nat × (Nat → Int32)} {I : Nat → Nat → Int32} {J : Nat → Nat → Int64} {b : Bool} {a3 : Int32} {Q : Option Value → am_H → Prop} (hE : E.1 ≤ 320) (wp : ((((Int32.ofNat E.1) - 5) < a3 → Q (some (.int 1)) (hp I J b)) ∧ (¬ ((Int32.ofNat E.1) - 5) < a3 → ∃ j2, a3 = nI j2 ∧ j2 < E.1 ∧ ((((E.2 j2) &&& 31) = 0 → am_R E mL_law 148 [some (.ref 1002), some (.ref 0), some (.ref 48), some (.int a3)] [] (hp I J b) 64 64 Q) ∧ (((E.2 j2) &&& 31) = 1 → am_R E mL_law 211 [some (.ref 1002), some (.ref 0), some (.ref 48), some (.int a3)] [] (hp I J b) 64 64 Q) ∧ (((E.2 j2) &&& 31) = 2 → am_R E mL_law 224 [some (.ref 1002), some (.ref 0), some (.ref 48), some (.int a3)] [] (hp I J b) 64 64 Q) ∧ (((E.2 j2) &&& 31) = 3 → am_R E mL_law 237 [some (.ref 1002), some (.ref 0), some (.ref 48), some (.int a3)] [] (hp I J b) 64 64 Q) ∧ (((E.2 j2) &&& 31) = 4 → am_R E mL_law 250 [some (.ref 1002), some (.ref 0), some (.ref 48), some (.int a3)] [] (hp I J b) 64 64 Q) ∧ (((E.2 j2) &&& 31) = 5 → am_R E mL_law 293 [some (.ref 1002), some (.ref 0), some (.ref 48), some (.int a3)] [] (hp I J b) 64 64 Q) ∧ (((E.2 j2) &&& 31) = 6 → am_R E mL_law 326 [some (.ref 1002), some (.ref 0), some (.ref 48), some (.int a3)] [] (hp I J b) 64 64 Q) ∧ (((E.2 j2) &&& 31) = 7 → am_R E mL_law 349 [some (.ref 1002), some (.ref 0), some (.ref 48), some (.int a3)] [] (hp I J b) 64 64 Q) ∧ (((E.2 j2) &&& 31) = 8 → am_R E mL_law 372 [some (.ref 1002), some (.ref 0), some (.ref 48), some (.int a3)] [] (hp I J b) 64 64 Q) ∧ (((E.2 j2) &&& 31) = 9 → am_R E mL_law 405 [some (.ref 1002), some (.ref 0), some (.ref 48), some (.int a3)] [] (hp I J b) 64 64 Q) ∧ (((E.2 j2) &&& 31) = 10 → am_R E mL_law 448 [some (.ref 1002), some (.ref 0), some (.ref 48), some (.int a3)] [] (hp I J b) 64 64 Q) ∧ (((E.2 j2) &&& 31) = 11 → am_R E mL_law 461 [some (.ref 1002), some (.ref 0), some (.ref 48), some (.int a3)] [] (hp I J b) 64 64 Q) ∧ (((E.2 j2) &&& 31) = 12 → am_R E mL_law 474 [some (.ref 1002), some (.ref 0), some (.ref 48), some (.int a3)] [] (hp I J b) 64 64 Q) ∧ (((E.2 j2) &&& 31) = 13 → am_R E mL_law 497 [some (.ref 1002), some (.ref 0), some (.ref 48), some (.int a3)] [] (hp I J b) 64 64 Q) ∧ (((E.2 j2) &&& 31) = 14 → am_R E mL_law 520 [some (.ref 1002), some (.ref 0), some (.ref 48), some (.int a3)] [] (hp I J b) 64 64 Q) ∧ (((E.2 j2) &&& 31) = 15 → am_R E mL_law 543 [some (.ref 1002), some (.ref 0), some (.ref 48), some (.int a3)] [] (hp I J b) 64 64 Q) ∧ (((E.2 j2) &&& 31) = 16 → am_R E mL_law 556 [some (.ref 1002), some (.ref 0), some (.ref 48), some (.int a3)] [] (hp I J b) 64 64 Q) ∧ (((E.2 j2) &&& 31) = 17 → am_R E mL_law 599 [some (.ref 1002), some (.ref 0), some (.ref 48), some (.int a3)] [] (hp I J b) 64 64 Q) ∧ (((E.2 j2) &&& 31) = 18 → am_R E mL_law 652 [some (.ref 1002), some (.ref 0), some (.ref 48), some (.int a3)] [] (hp I J b) 64 64 Q) ∧ (((E.2 j2) &&& 31) = 19 → am_R E mL_law 675 [some (.ref 1002), some (.ref 0), some (.ref 48), some (.int a3)] [] (hp I J b) 64 64 Q) ∧ (((E.2 j2) &&& 31) = 20 → am_R E mL_law 708 [some (.ref 1002), some (.ref 0), some (.ref 48), some (.int a3)] [] (hp I J b) 64 64 Q) ∧ (((E.2 j2) &&& 31) = 21 → am_R E mL_law 752 [some (.ref 1002), some (.ref 0), some (.ref 48), some (.int a3)] [] (hp I J b) 64 64 Q) ∧ (((E.2 j2) &&& 31) = 22 → am_R E mL_law 775 [some (.ref 1002), some (.ref 0), some (.ref 48), some (.int a3)] [] (hp I J b) 64 64 Q) ∧ (((E.2 j2) &&& 31) = 23 → am_R E mL_law 798 [some (.ref 1002), some (.ref 0), some (.ref 48), some (.int a3)] [] (hp I J b) 64 64 Q) ∧ (((E.2 j2) &&& 31) = 24 → am_R E mL_law 821 [some (.ref 1002), some (.ref 0), some (.ref 48), some (.int a3)] [] (hp I J b) 64 64 Q) ∧ (¬ ((E.2 j2) &&& 31) = 0 → ¬ ((E.2 j2) &&& 31) = 1 → ¬ ((E.2 j2) &&& 31) = 2 → ¬ ((E.2 j2) &&& 31) = 3 → ¬ ((E.2 j2) &&& 31) = 4 → ¬ ((E.2 j2) &&& 31) = 5 → ¬ ((E.2 j2) &&& 31) = 6 → ¬ ((E.2 j2) &&& 31) = 7 → ¬ ((E.2 j2) &&& 31) = 8 → ¬ ((E.2 j2) &&& 31) = 9 → ¬ ((E.2 j2) &&& 31) = 10 → ¬ ((E.2 j2) &&& 31) = 11 → ¬ ((E.2 j2) &&& 31) = 12 → ¬ ((E.2 j2) &&& 31) = 13 → ¬ ((E.2 j2) &&& 31) = 14 → ¬ ((E.2 j2) &&& 31) = 15 → ¬ ((E.2 j2) &&& 31) = 16 → ¬ ((E.2 j2) &&& 31) = 17 → ¬ ((E.2 j2) &&& 31) = 18 → ¬ ((E.2 j2) &&& 31) = 19 → ¬ ((E.2 j2) &&& 31) = 20 → ¬ ((E.2 j2) &&& 31) = 21 → ¬ ((E.2 j2) &&& 31) = 22 → ¬ ((E.2 j2) &&& 31) = 23 → ¬ ((E.2 j2) &&& 31) = 24 → am_R E mL_law 844 [some (.ref 1002), some (.ref 0), some (.ref 48), some (.int a3)] [] (hp I J b) 64 64 Q))))) : am_R E mL_law 18 [some (.ref 1002), some (.ref 0), some (.ref 48), some (.int a3)] [] (hp I J b) 64 64 Q := by
  refine am_iload_n rfl rfl dL_law_18 ?_
  refine am_aload_n rfl rfl dL_law_19 ?_
  refine am_lenX dL_law_20 ?_
  refine am_iconst 5 rfl dL_law_21 ?_
  refine am_isub dL_law_22 ?_
  refine am_icmp_gt dL_law_23 (tgt := 850) rfl (fun hc1 => ?_) (fun hc1 => ?_)
  · have wp := wp.1 hc1
    refine am_iconst 1 rfl dL_law_850 ?_
    exact am_iret dL_law_851 rfl (by decide) wp
  · have wp := wp.2 hc1
    refine am_aload_n rfl rfl dL_law_26 ?_
    refine am_iload_n rfl rfl dL_law_27 ?_
    obtain ⟨j2, e2, w2, wp⟩ := wp
    refine am_ildXN (j := j2) dL_law_28 e2 w2 hE ?_
    refine am_bipush 31 rfl dL_law_29 ?_
    refine am_iand dL_law_31 ?_
    have wq3 := wp
    by_cases hs3_0 : ((E.2 j2) &&& 31) = 0
    · have wp := wq3.1 hs3_0
      refine am_tabC 0 dL_law_32 hs3_0 (by decide) (by decide) rfl (tgt := 148) rfl ?_
      exact am_R.forget wp ⟨rfl, ⟨rfl, ⟨rfl, ⟨rfl, trivial⟩⟩⟩⟩
    by_cases hs3_1 : ((E.2 j2) &&& 31) = 1
    · have wp := wq3.2.1 hs3_1
      refine am_tabC 1 dL_law_32 hs3_1 (by decide) (by decide) rfl (tgt := 211) rfl ?_
      exact am_R.forget wp ⟨rfl, ⟨rfl, ⟨rfl, ⟨rfl, trivial⟩⟩⟩⟩
    by_cases hs3_2 : ((E.2 j2) &&& 31) = 2
    · have wp := wq3.2.2.1 hs3_2
      refine am_tabC 2 dL_law_32 hs3_2 (by decide) (by decide) rfl (tgt := 224) rfl ?_
      exact am_R.forget wp ⟨rfl, ⟨rfl, ⟨rfl, ⟨rfl, trivial⟩⟩⟩⟩
    by_cases hs3_3 : ((E.2 j2) &&& 31) = 3
    · have wp := wq3.2.2.2.1 hs3_3
      refine am_tabC 3 dL_law_32 hs3_3 (by decide) (by decide) rfl (tgt := 237) rfl ?_
      exact am_R.forget wp ⟨rfl, ⟨rfl, ⟨rfl, ⟨rfl, trivial⟩⟩⟩⟩
    by_cases hs3_4 : ((E.2 j2) &&& 31) = 4
    · have wp := wq3.2.2.2.2.1 hs3_4
      refine am_tabC 4 dL_law_32 hs3_4 (by decide) (by decide) rfl (tgt := 250) rfl ?_
      exact am_R.forget wp ⟨rfl, ⟨rfl, ⟨rfl, ⟨rfl, trivial⟩⟩⟩⟩
    by_cases hs3_5 : ((E.2 j2) &&& 31) = 5
    · have wp := wq3.2.2.2.2.2.1 hs3_5
      refine am_tabC 5 dL_law_32 hs3_5 (by decide) (by decide) rfl (tgt := 293) rfl ?_
      exact am_R.forget wp ⟨rfl, ⟨rfl, ⟨rfl, ⟨rfl, trivial⟩⟩⟩⟩
    by_cases hs3_6 : ((E.2 j2) &&& 31) = 6
    · have wp := wq3.2.2.2.2.2.2.1 hs3_6
      refine am_tabC 6 dL_law_32 hs3_6 (by decide) (by decide) rfl (tgt := 326) rfl ?_
      exact am_R.forget wp ⟨rfl, ⟨rfl, ⟨rfl, ⟨rfl, trivial⟩⟩⟩⟩
    by_cases hs3_7 : ((E.2 j2) &&& 31) = 7
    · have wp := wq3.2.2.2.2.2.2.2.1 hs3_7
      refine am_tabC 7 dL_law_32 hs3_7 (by decide) (by decide) rfl (tgt := 349) rfl ?_
      exact am_R.forget wp ⟨rfl, ⟨rfl, ⟨rfl, ⟨rfl, trivial⟩⟩⟩⟩
    by_cases hs3_8 : ((E.2 j2) &&& 31) = 8
    · have wp := wq3.2.2.2.2.2.2.2.2.1 hs3_8
      refine am_tabC 8 dL_law_32 hs3_8 (by decide) (by decide) rfl (tgt := 372) rfl ?_
      exact am_R.forget wp ⟨rfl, ⟨rfl, ⟨rfl, ⟨rfl, trivial⟩⟩⟩⟩
    by_cases hs3_9 : ((E.2 j2) &&& 31) = 9
    · have wp := wq3.2.2.2.2.2.2.2.2.2.1 hs3_9
      refine am_tabC 9 dL_law_32 hs3_9 (by decide) (by decide) rfl (tgt := 405) rfl ?_
      exact am_R.forget wp ⟨rfl, ⟨rfl, ⟨rfl, ⟨rfl, trivial⟩⟩⟩⟩
    by_cases hs3_10 : ((E.2 j2) &&& 31) = 10
    · have wp := wq3.2.2.2.2.2.2.2.2.2.2.1 hs3_10
      refine am_tabC 10 dL_law_32 hs3_10 (by decide) (by decide) rfl (tgt := 448) rfl ?_
      exact am_R.forget wp ⟨rfl, ⟨rfl, ⟨rfl, ⟨rfl, trivial⟩⟩⟩⟩
    by_cases hs3_11 : ((E.2 j2) &&& 31) = 11
    · have wp := wq3.2.2.2.2.2.2.2.2.2.2.2.1 hs3_11
      refine am_tabC 11 dL_law_32 hs3_11 (by decide) (by decide) rfl (tgt := 461) rfl ?_
      exact am_R.forget wp ⟨rfl, ⟨rfl, ⟨rfl, ⟨rfl, trivial⟩⟩⟩⟩
    by_cases hs3_12 : ((E.2 j2) &&& 31) = 12
    · have wp := wq3.2.2.2.2.2.2.2.2.2.2.2.2.1 hs3_12
      refine am_tabC 12 dL_law_32 hs3_12 (by decide) (by decide) rfl (tgt := 474) rfl ?_
      exact am_R.forget wp ⟨rfl, ⟨rfl, ⟨rfl, ⟨rfl, trivial⟩⟩⟩⟩
    by_cases hs3_13 : ((E.2 j2) &&& 31) = 13
    · have wp := wq3.2.2.2.2.2.2.2.2.2.2.2.2.2.1 hs3_13
      refine am_tabC 13 dL_law_32 hs3_13 (by decide) (by decide) rfl (tgt := 497) rfl ?_
      exact am_R.forget wp ⟨rfl, ⟨rfl, ⟨rfl, ⟨rfl, trivial⟩⟩⟩⟩
    by_cases hs3_14 : ((E.2 j2) &&& 31) = 14
    · have wp := wq3.2.2.2.2.2.2.2.2.2.2.2.2.2.2.1 hs3_14
      refine am_tabC 14 dL_law_32 hs3_14 (by decide) (by decide) rfl (tgt := 520) rfl ?_
      exact am_R.forget wp ⟨rfl, ⟨rfl, ⟨rfl, ⟨rfl, trivial⟩⟩⟩⟩
    by_cases hs3_15 : ((E.2 j2) &&& 31) = 15
    · have wp := wq3.2.2.2.2.2.2.2.2.2.2.2.2.2.2.2.1 hs3_15
      refine am_tabC 15 dL_law_32 hs3_15 (by decide) (by decide) rfl (tgt := 543) rfl ?_
      exact am_R.forget wp ⟨rfl, ⟨rfl, ⟨rfl, ⟨rfl, trivial⟩⟩⟩⟩
    by_cases hs3_16 : ((E.2 j2) &&& 31) = 16
    · have wp := wq3.2.2.2.2.2.2.2.2.2.2.2.2.2.2.2.2.1 hs3_16
      refine am_tabC 16 dL_law_32 hs3_16 (by decide) (by decide) rfl (tgt := 556) rfl ?_
      exact am_R.forget wp ⟨rfl, ⟨rfl, ⟨rfl, ⟨rfl, trivial⟩⟩⟩⟩
    by_cases hs3_17 : ((E.2 j2) &&& 31) = 17
    · have wp := wq3.2.2.2.2.2.2.2.2.2.2.2.2.2.2.2.2.2.1 hs3_17
      refine am_tabC 17 dL_law_32 hs3_17 (by decide) (by decide) rfl (tgt := 599) rfl ?_
      exact am_R.forget wp ⟨rfl, ⟨rfl, ⟨rfl, ⟨rfl, trivial⟩⟩⟩⟩
    by_cases hs3_18 : ((E.2 j2) &&& 31) = 18
    · have wp := wq3.2.2.2.2.2.2.2.2.2.2.2.2.2.2.2.2.2.2.1 hs3_18
      refine am_tabC 18 dL_law_32 hs3_18 (by decide) (by decide) rfl (tgt := 652) rfl ?_
      exact am_R.forget wp ⟨rfl, ⟨rfl, ⟨rfl, ⟨rfl, trivial⟩⟩⟩⟩
    by_cases hs3_19 : ((E.2 j2) &&& 31) = 19
    · have wp := wq3.2.2.2.2.2.2.2.2.2.2.2.2.2.2.2.2.2.2.2.1 hs3_19
      refine am_tabC 19 dL_law_32 hs3_19 (by decide) (by decide) rfl (tgt := 675) rfl ?_
      exact am_R.forget wp ⟨rfl, ⟨rfl, ⟨rfl, ⟨rfl, trivial⟩⟩⟩⟩
    by_cases hs3_20 : ((E.2 j2) &&& 31) = 20
    · have wp := wq3.2.2.2.2.2.2.2.2.2.2.2.2.2.2.2.2.2.2.2.2.1 hs3_20
      refine am_tabC 20 dL_law_32 hs3_20 (by decide) (by decide) rfl (tgt := 708) rfl ?_
      exact am_R.forget wp ⟨rfl, ⟨rfl, ⟨rfl, ⟨rfl, trivial⟩⟩⟩⟩
    by_cases hs3_21 : ((E.2 j2) &&& 31) = 21
    · have wp := wq3.2.2.2.2.2.2.2.2.2.2.2.2.2.2.2.2.2.2.2.2.2.1 hs3_21
      refine am_tabC 21 dL_law_32 hs3_21 (by decide) (by decide) rfl (tgt := 752) rfl ?_
      exact am_R.forget wp ⟨rfl, ⟨rfl, ⟨rfl, ⟨rfl, trivial⟩⟩⟩⟩
    by_cases hs3_22 : ((E.2 j2) &&& 31) = 22
    · have wp := wq3.2.2.2.2.2.2.2.2.2.2.2.2.2.2.2.2.2.2.2.2.2.2.1 hs3_22
      refine am_tabC 22 dL_law_32 hs3_22 (by decide) (by decide) rfl (tgt := 775) rfl ?_
      exact am_R.forget wp ⟨rfl, ⟨rfl, ⟨rfl, ⟨rfl, trivial⟩⟩⟩⟩
    by_cases hs3_23 : ((E.2 j2) &&& 31) = 23
    · have wp := wq3.2.2.2.2.2.2.2.2.2.2.2.2.2.2.2.2.2.2.2.2.2.2.2.1 hs3_23
      refine am_tabC 23 dL_law_32 hs3_23 (by decide) (by decide) rfl (tgt := 798) rfl ?_
      exact am_R.forget wp ⟨rfl, ⟨rfl, ⟨rfl, ⟨rfl, trivial⟩⟩⟩⟩
    by_cases hs3_24 : ((E.2 j2) &&& 31) = 24
    · have wp := wq3.2.2.2.2.2.2.2.2.2.2.2.2.2.2.2.2.2.2.2.2.2.2.2.2.1 hs3_24
      refine am_tabC 24 dL_law_32 hs3_24 (by decide) (by decide) rfl (tgt := 821) rfl ?_
      exact am_R.forget wp ⟨rfl, ⟨rfl, ⟨rfl, ⟨rfl, trivial⟩⟩⟩⟩
    have wp := wq3.2.2.2.2.2.2.2.2.2.2.2.2.2.2.2.2.2.2.2.2.2.2.2.2.2 hs3_0 hs3_1 hs3_2 hs3_3 hs3_4 hs3_5 hs3_6 hs3_7 hs3_8 hs3_9 hs3_10 hs3_11 hs3_12 hs3_13 hs3_14 hs3_15 hs3_16 hs3_17 hs3_18 hs3_19 hs3_20 hs3_21 hs3_22 hs3_23 hs3_24
    have hz3_0 : ((E.2 j2) &&& 31).toInt ≠ 0 := am_ne hs3_0
    have hz3_1 : ((E.2 j2) &&& 31).toInt ≠ 1 := am_ne hs3_1
    have hz3_2 : ((E.2 j2) &&& 31).toInt ≠ 2 := am_ne hs3_2
    have hz3_3 : ((E.2 j2) &&& 31).toInt ≠ 3 := am_ne hs3_3
    have hz3_4 : ((E.2 j2) &&& 31).toInt ≠ 4 := am_ne hs3_4
    have hz3_5 : ((E.2 j2) &&& 31).toInt ≠ 5 := am_ne hs3_5
    have hz3_6 : ((E.2 j2) &&& 31).toInt ≠ 6 := am_ne hs3_6
    have hz3_7 : ((E.2 j2) &&& 31).toInt ≠ 7 := am_ne hs3_7
    have hz3_8 : ((E.2 j2) &&& 31).toInt ≠ 8 := am_ne hs3_8
    have hz3_9 : ((E.2 j2) &&& 31).toInt ≠ 9 := am_ne hs3_9
    have hz3_10 : ((E.2 j2) &&& 31).toInt ≠ 10 := am_ne hs3_10
    have hz3_11 : ((E.2 j2) &&& 31).toInt ≠ 11 := am_ne hs3_11
    have hz3_12 : ((E.2 j2) &&& 31).toInt ≠ 12 := am_ne hs3_12
    have hz3_13 : ((E.2 j2) &&& 31).toInt ≠ 13 := am_ne hs3_13
    have hz3_14 : ((E.2 j2) &&& 31).toInt ≠ 14 := am_ne hs3_14
    have hz3_15 : ((E.2 j2) &&& 31).toInt ≠ 15 := am_ne hs3_15
    have hz3_16 : ((E.2 j2) &&& 31).toInt ≠ 16 := am_ne hs3_16
    have hz3_17 : ((E.2 j2) &&& 31).toInt ≠ 17 := am_ne hs3_17
    have hz3_18 : ((E.2 j2) &&& 31).toInt ≠ 18 := am_ne hs3_18
    have hz3_19 : ((E.2 j2) &&& 31).toInt ≠ 19 := am_ne hs3_19
    have hz3_20 : ((E.2 j2) &&& 31).toInt ≠ 20 := am_ne hs3_20
    have hz3_21 : ((E.2 j2) &&& 31).toInt ≠ 21 := am_ne hs3_21
    have hz3_22 : ((E.2 j2) &&& 31).toInt ≠ 22 := am_ne hs3_22
    have hz3_23 : ((E.2 j2) &&& 31).toInt ≠ 23 := am_ne hs3_23
    have hz3_24 : ((E.2 j2) &&& 31).toInt ≠ 24 := am_ne hs3_24
    show am_R E mL_law 32 [some (.ref 1002), some (.ref 0), some (.ref 48), some (.int a3)] [.int ((E.2 j2) &&& 31)] (hp I J b) 64 64 Q
    refine am_tabOut dL_law_32 (by omega) (tgt := 844) rfl ?_
    exact am_R.forget wp ⟨rfl, ⟨rfl, ⟨rfl, ⟨rfl, trivial⟩⟩⟩⟩
theorem bL_law_148 {E : Nat × (Nat → Int32)} {I : Nat → Nat → Int32} {J : Nat → Nat → Int64} {b : Bool} {a3 : Int32} {Q : Option Value → am_H → Prop} (hE : E.1 ≤ 320) (wp : ∃ j1, (a3 + 1) = nI j1 ∧ j1 < E.1 ∧ ∃ j2, (a3 + 2) = nI j2 ∧ j2 < E.1 ∧ ∃ j3, (a3 + 3) = nI j3 ∧ j3 < E.1 ∧ am_R E mX9_write 0 [some (.ref 0), some (.long (((Int32.toInt64 (E.2 j1)) <<< (Int32.toInt64 32 &&& 63)) ||| ((Int32.toInt64 (E.2 j2)) &&& 4294967295))), none, some (.int (E.2 j3)), none] [] (hp I J b) 64 64 (fun r h' => am_R E mL_law 177 [some (.ref 1002), some (.ref 0), some (.ref 48), some (.int a3)] (r.toList ++ []) h' 64 64 Q)) : am_R E mL_law 148 [some (.ref 1002), some (.ref 0), some (.ref 48), some (.int a3)] [] (hp I J b) 64 64 Q := by
  refine am_aload_n rfl rfl dL_law_148 ?_
  refine am_aload_n rfl rfl dL_law_149 ?_
  refine am_iload_n rfl rfl dL_law_150 ?_
  refine am_iconst 1 rfl dL_law_151 ?_
  refine am_iadd dL_law_152 ?_
  obtain ⟨j1, e1, w1, wp⟩ := wp
  refine am_ildXN (j := j1) dL_law_153 e1 w1 hE ?_
  refine am_i2l dL_law_154 ?_
  refine am_bipush 32 rfl dL_law_155 ?_
  refine am_lshl dL_law_157 ?_
  refine am_aload_n rfl rfl dL_law_158 ?_
  refine am_iload_n rfl rfl dL_law_159 ?_
  refine am_iconst 2 rfl dL_law_160 ?_
  refine am_iadd dL_law_161 ?_
  obtain ⟨j2, e2, w2, wp⟩ := wp
  refine am_ildXN (j := j2) dL_law_162 e2 w2 hE ?_
  refine am_i2l dL_law_163 ?_
  refine am_ldc2 4294967295 kcL_13 dL_law_164 ?_
  refine am_land dL_law_167 ?_
  refine am_lor dL_law_168 ?_
  refine am_aload_n rfl rfl dL_law_169 ?_
  refine am_iload_n rfl rfl dL_law_170 ?_
  refine am_iconst 3 rfl dL_law_171 ?_
  refine am_iadd dL_law_172 ?_
  obtain ⟨j3, e3, w3, wp⟩ := wp
  refine am_ildXN (j := j3) dL_law_173 e3 w3 hE ?_
  refine am_invV (ci := 7) (As := [.long (((Int32.toInt64 (E.2 j1)) <<< (Int32.toInt64 32 &&& 63)) ||| ((Int32.toInt64 (E.2 j2)) &&& 4294967295)), .int (E.2 j3)]) (lsZ := [some (.ref 0), some (.long (((Int32.toInt64 (E.2 j1)) <<< (Int32.toInt64 32 &&& 63)) ||| ((Int32.toInt64 (E.2 j2)) &&& 4294967295))), none, some (.int (E.2 j3)), none]) (st := []) dL_law_174 hX9_write lkL_15 ⟨by decide, by decide⟩ (by decide) rfl (by decide) rfl rfl rfl (Nat.le_of_ble_eq_true rfl) rfl (Nat.le_of_ble_eq_true rfl) ⟨Nat.le_refl _, Nat.le_refl _⟩ (am_R.mono wp (fun r h' q => am_R.forget q ⟨rfl, ⟨rfl, ⟨rfl, ⟨rfl, trivial⟩⟩⟩⟩))
theorem bL_law_177 {E : Nat × (Nat → Int32)} {I : Nat → Nat → Int32} {J : Nat → Nat → Int64} {b : Bool} {a3 : Int32} {x0 : Int32} {Q : Option Value → am_H → Prop} (hE : E.1 ≤ 320) (wp : ∃ j1, (a3 + 1) = nI j1 ∧ j1 < E.1 ∧ ∃ j2, (a3 + 2) = nI j2 ∧ j2 < E.1 ∧ ∃ j3, (a3 + 3) = nI j3 ∧ j3 < E.1 ∧ am_R E mX10_write 0 [some (.ref 48), some (.long (((Int32.toInt64 (E.2 j1)) <<< (Int32.toInt64 32 &&& 63)) ||| ((Int32.toInt64 (E.2 j2)) &&& 4294967295))), none, some (.int (E.2 j3)), none] [] (hp I J b) 64 64 (fun r h' => am_R E mL_law 206 [some (.ref 1002), some (.ref 0), some (.ref 48), some (.int a3)] (r.toList ++ [.int x0]) h' 64 64 Q)) : am_R E mL_law 177 [some (.ref 1002), some (.ref 0), some (.ref 48), some (.int a3)] [.int x0] (hp I J b) 64 64 Q := by
  refine am_aload_n rfl rfl dL_law_177 ?_
  refine am_aload_n rfl rfl dL_law_178 ?_
  refine am_iload_n rfl rfl dL_law_179 ?_
  refine am_iconst 1 rfl dL_law_180 ?_
  refine am_iadd dL_law_181 ?_
  obtain ⟨j1, e1, w1, wp⟩ := wp
  refine am_ildXN (j := j1) dL_law_182 e1 w1 hE ?_
  refine am_i2l dL_law_183 ?_
  refine am_bipush 32 rfl dL_law_184 ?_
  refine am_lshl dL_law_186 ?_
  refine am_aload_n rfl rfl dL_law_187 ?_
  refine am_iload_n rfl rfl dL_law_188 ?_
  refine am_iconst 2 rfl dL_law_189 ?_
  refine am_iadd dL_law_190 ?_
  obtain ⟨j2, e2, w2, wp⟩ := wp
  refine am_ildXN (j := j2) dL_law_191 e2 w2 hE ?_
  refine am_i2l dL_law_192 ?_
  refine am_ldc2 4294967295 kcL_13 dL_law_193 ?_
  refine am_land dL_law_196 ?_
  refine am_lor dL_law_197 ?_
  refine am_aload_n rfl rfl dL_law_198 ?_
  refine am_iload_n rfl rfl dL_law_199 ?_
  refine am_iconst 3 rfl dL_law_200 ?_
  refine am_iadd dL_law_201 ?_
  obtain ⟨j3, e3, w3, wp⟩ := wp
  refine am_ildXN (j := j3) dL_law_202 e3 w3 hE ?_
  refine am_invV (ci := 8) (As := [.long (((Int32.toInt64 (E.2 j1)) <<< (Int32.toInt64 32 &&& 63)) ||| ((Int32.toInt64 (E.2 j2)) &&& 4294967295)), .int (E.2 j3)]) (lsZ := [some (.ref 48), some (.long (((Int32.toInt64 (E.2 j1)) <<< (Int32.toInt64 32 &&& 63)) ||| ((Int32.toInt64 (E.2 j2)) &&& 4294967295))), none, some (.int (E.2 j3)), none]) (st := [.int x0]) dL_law_203 hX10_write lkL_19 ⟨by decide, by decide⟩ (by decide) rfl (by decide) rfl rfl rfl (Nat.le_of_ble_eq_true rfl) rfl (Nat.le_of_ble_eq_true rfl) ⟨Nat.le_refl _, Nat.le_refl _⟩ (am_R.mono wp (fun r h' q => am_R.forget q ⟨rfl, ⟨rfl, ⟨rfl, ⟨rfl, trivial⟩⟩⟩⟩))
theorem bL_law_206 {E : Nat × (Nat → Int32)} {I : Nat → Nat → Int32} {J : Nat → Nat → Int64} {b : Bool} {a3 : Int32} {x0 : Int32} {x1 : Int32} {Q : Option Value → am_H → Prop} (hE : E.1 ≤ 320) (wp : ((x1 = x0 → am_R E mL_law 844 [some (.ref 1002), some (.ref 0), some (.ref 48), some (.int a3)] [] (hp I J b) 64 64 Q) ∧ (¬ x1 = x0 → Q (some (.int 0)) (hp I J b)))) : am_R E mL_law 206 [some (.ref 1002), some (.ref 0), some (.ref 48), some (.int a3)] [.int x0, .int x1] (hp I J b) 64 64 Q := by
  refine am_icmp_eq dL_law_206 (tgt := 844) rfl (fun hc1 => ?_) (fun hc1 => ?_)
  · have wp := wp.1 hc1
    exact am_R.forget wp ⟨rfl, ⟨rfl, ⟨rfl, ⟨rfl, trivial⟩⟩⟩⟩
  · have wp := wp.2 hc1
    refine am_iconst 0 rfl dL_law_209 ?_
    exact am_iret dL_law_210 rfl (by decide) wp
theorem bL_law_211 {E : Nat × (Nat → Int32)} {I : Nat → Nat → Int32} {J : Nat → Nat → Int64} {b : Bool} {a3 : Int32} {Q : Option Value → am_H → Prop} (hE : E.1 ≤ 320) (wp : am_R E mX9_erase 0 [some (.ref 0), none] [] (hp I J b) 64 64 (fun r h' => am_R E mL_law 215 [some (.ref 1002), some (.ref 0), some (.ref 48), some (.int a3)] (r.toList ++ []) h' 64 64 Q)) : am_R E mL_law 211 [some (.ref 1002), some (.ref 0), some (.ref 48), some (.int a3)] [] (hp I J b) 64 64 Q := by
  refine am_aload_n rfl rfl dL_law_211 ?_
  refine am_invV (ci := 7) (As := []) (lsZ := [some (.ref 0), none]) (st := []) dL_law_212 hX9_erase lkL_20 ⟨by decide, by decide⟩ (by decide) rfl (by decide) rfl rfl rfl (Nat.le_of_ble_eq_true rfl) rfl (Nat.le_of_ble_eq_true rfl) ⟨Nat.le_refl _, Nat.le_refl _⟩ (am_R.mono wp (fun r h' q => am_R.forget q ⟨rfl, ⟨rfl, ⟨rfl, ⟨rfl, trivial⟩⟩⟩⟩))
theorem bL_law_215 {E : Nat × (Nat → Int32)} {I : Nat → Nat → Int32} {J : Nat → Nat → Int64} {b : Bool} {a3 : Int32} {x0 : Int32} {Q : Option Value → am_H → Prop} (hE : E.1 ≤ 320) (wp : am_R E mX10_erase 0 [some (.ref 48), none] [] (hp I J b) 64 64 (fun r h' => am_R E mL_law 219 [some (.ref 1002), some (.ref 0), some (.ref 48), some (.int a3)] (r.toList ++ [.int x0]) h' 64 64 Q)) : am_R E mL_law 215 [some (.ref 1002), some (.ref 0), some (.ref 48), some (.int a3)] [.int x0] (hp I J b) 64 64 Q := by
  refine am_aload_n rfl rfl dL_law_215 ?_
  refine am_invV (ci := 8) (As := []) (lsZ := [some (.ref 48), none]) (st := [.int x0]) dL_law_216 hX10_erase lkL_24 ⟨by decide, by decide⟩ (by decide) rfl (by decide) rfl rfl rfl (Nat.le_of_ble_eq_true rfl) rfl (Nat.le_of_ble_eq_true rfl) ⟨Nat.le_refl _, Nat.le_refl _⟩ (am_R.mono wp (fun r h' q => am_R.forget q ⟨rfl, ⟨rfl, ⟨rfl, ⟨rfl, trivial⟩⟩⟩⟩))
theorem bL_law_219 {E : Nat × (Nat → Int32)} {I : Nat → Nat → Int32} {J : Nat → Nat → Int64} {b : Bool} {a3 : Int32} {x0 : Int32} {x1 : Int32} {Q : Option Value → am_H → Prop} (hE : E.1 ≤ 320) (wp : ((x1 = x0 → am_R E mL_law 844 [some (.ref 1002), some (.ref 0), some (.ref 48), some (.int a3)] [] (hp I J b) 64 64 Q) ∧ (¬ x1 = x0 → Q (some (.int 0)) (hp I J b)))) : am_R E mL_law 219 [some (.ref 1002), some (.ref 0), some (.ref 48), some (.int a3)] [.int x0, .int x1] (hp I J b) 64 64 Q := by
  refine am_icmp_eq dL_law_219 (tgt := 844) rfl (fun hc1 => ?_) (fun hc1 => ?_)
  · have wp := wp.1 hc1
    exact am_R.forget wp ⟨rfl, ⟨rfl, ⟨rfl, ⟨rfl, trivial⟩⟩⟩⟩
  · have wp := wp.2 hc1
    refine am_iconst 0 rfl dL_law_222 ?_
    exact am_iret dL_law_223 rfl (by decide) wp
theorem bL_law_224 {E : Nat × (Nat → Int32)} {I : Nat → Nat → Int32} {J : Nat → Nat → Int64} {b : Bool} {a3 : Int32} {Q : Option Value → am_H → Prop} (hE : E.1 ≤ 320) (wp : am_R E mX9_fault 0 [some (.ref 0)] [] (hp I J b) 64 64 (fun r h' => am_R E mL_law 228 [some (.ref 1002), some (.ref 0), some (.ref 48), some (.int a3)] (r.toList ++ []) h' 64 64 Q)) : am_R E mL_law 224 [some (.ref 1002), some (.ref 0), some (.ref 48), some (.int a3)] [] (hp I J b) 64 64 Q := by
  refine am_aload_n rfl rfl dL_law_224 ?_
  refine am_invV (ci := 7) (As := []) (lsZ := [some (.ref 0)]) (st := []) dL_law_225 hX9_fault lkL_25 ⟨by decide, by decide⟩ (by decide) rfl (by decide) rfl rfl rfl (Nat.le_of_ble_eq_true rfl) rfl (Nat.le_of_ble_eq_true rfl) ⟨Nat.le_refl _, Nat.le_refl _⟩ (am_R.mono wp (fun r h' q => am_R.forget q ⟨rfl, ⟨rfl, ⟨rfl, ⟨rfl, trivial⟩⟩⟩⟩))
theorem bL_law_228 {E : Nat × (Nat → Int32)} {I : Nat → Nat → Int32} {J : Nat → Nat → Int64} {b : Bool} {a3 : Int32} {x0 : Int32} {Q : Option Value → am_H → Prop} (hE : E.1 ≤ 320) (wp : am_R E mX10_fault 0 [some (.ref 48)] [] (hp I J b) 64 64 (fun r h' => am_R E mL_law 232 [some (.ref 1002), some (.ref 0), some (.ref 48), some (.int a3)] (r.toList ++ [.int x0]) h' 64 64 Q)) : am_R E mL_law 228 [some (.ref 1002), some (.ref 0), some (.ref 48), some (.int a3)] [.int x0] (hp I J b) 64 64 Q := by
  refine am_aload_n rfl rfl dL_law_228 ?_
  refine am_invV (ci := 8) (As := []) (lsZ := [some (.ref 48)]) (st := [.int x0]) dL_law_229 hX10_fault lkL_28 ⟨by decide, by decide⟩ (by decide) rfl (by decide) rfl rfl rfl (Nat.le_of_ble_eq_true rfl) rfl (Nat.le_of_ble_eq_true rfl) ⟨Nat.le_refl _, Nat.le_refl _⟩ (am_R.mono wp (fun r h' q => am_R.forget q ⟨rfl, ⟨rfl, ⟨rfl, ⟨rfl, trivial⟩⟩⟩⟩))
theorem bL_law_232 {E : Nat × (Nat → Int32)} {I : Nat → Nat → Int32} {J : Nat → Nat → Int64} {b : Bool} {a3 : Int32} {x0 : Int32} {x1 : Int32} {Q : Option Value → am_H → Prop} (hE : E.1 ≤ 320) (wp : ((x1 = x0 → am_R E mL_law 844 [some (.ref 1002), some (.ref 0), some (.ref 48), some (.int a3)] [] (hp I J b) 64 64 Q) ∧ (¬ x1 = x0 → Q (some (.int 0)) (hp I J b)))) : am_R E mL_law 232 [some (.ref 1002), some (.ref 0), some (.ref 48), some (.int a3)] [.int x0, .int x1] (hp I J b) 64 64 Q := by
  refine am_icmp_eq dL_law_232 (tgt := 844) rfl (fun hc1 => ?_) (fun hc1 => ?_)
  · have wp := wp.1 hc1
    exact am_R.forget wp ⟨rfl, ⟨rfl, ⟨rfl, ⟨rfl, trivial⟩⟩⟩⟩
  · have wp := wp.2 hc1
    refine am_iconst 0 rfl dL_law_235 ?_
    exact am_iret dL_law_236 rfl (by decide) wp
theorem bL_law_237 {E : Nat × (Nat → Int32)} {I : Nat → Nat → Int32} {J : Nat → Nat → Int64} {b : Bool} {a3 : Int32} {Q : Option Value → am_H → Prop} (hE : E.1 ≤ 320) (wp : am_R E mX9_hall 0 [some (.ref 0), none] [] (hp I J b) 64 64 (fun r h' => am_R E mL_law 241 [some (.ref 1002), some (.ref 0), some (.ref 48), some (.int a3)] (r.toList ++ []) h' 64 64 Q)) : am_R E mL_law 237 [some (.ref 1002), some (.ref 0), some (.ref 48), some (.int a3)] [] (hp I J b) 64 64 Q := by
  refine am_aload_n rfl rfl dL_law_237 ?_
  refine am_invV (ci := 7) (As := []) (lsZ := [some (.ref 0), none]) (st := []) dL_law_238 hX9_hall lkL_29 ⟨by decide, by decide⟩ (by decide) rfl (by decide) rfl rfl rfl (Nat.le_of_ble_eq_true rfl) rfl (Nat.le_of_ble_eq_true rfl) ⟨Nat.le_refl _, Nat.le_refl _⟩ (am_R.mono wp (fun r h' q => am_R.forget q ⟨rfl, ⟨rfl, ⟨rfl, ⟨rfl, trivial⟩⟩⟩⟩))
theorem bL_law_241 {E : Nat × (Nat → Int32)} {I : Nat → Nat → Int32} {J : Nat → Nat → Int64} {b : Bool} {a3 : Int32} {x0 : Int32} {Q : Option Value → am_H → Prop} (hE : E.1 ≤ 320) (wp : am_R E mX10_hall 0 [some (.ref 48), none] [] (hp I J b) 64 64 (fun r h' => am_R E mL_law 245 [some (.ref 1002), some (.ref 0), some (.ref 48), some (.int a3)] (r.toList ++ [.int x0]) h' 64 64 Q)) : am_R E mL_law 241 [some (.ref 1002), some (.ref 0), some (.ref 48), some (.int a3)] [.int x0] (hp I J b) 64 64 Q := by
  refine am_aload_n rfl rfl dL_law_241 ?_
  refine am_invV (ci := 8) (As := []) (lsZ := [some (.ref 48), none]) (st := [.int x0]) dL_law_242 hX10_hall lkL_32 ⟨by decide, by decide⟩ (by decide) rfl (by decide) rfl rfl rfl (Nat.le_of_ble_eq_true rfl) rfl (Nat.le_of_ble_eq_true rfl) ⟨Nat.le_refl _, Nat.le_refl _⟩ (am_R.mono wp (fun r h' q => am_R.forget q ⟨rfl, ⟨rfl, ⟨rfl, ⟨rfl, trivial⟩⟩⟩⟩))
theorem bL_law_245 {E : Nat × (Nat → Int32)} {I : Nat → Nat → Int32} {J : Nat → Nat → Int64} {b : Bool} {a3 : Int32} {x0 : Int32} {x1 : Int32} {Q : Option Value → am_H → Prop} (hE : E.1 ≤ 320) (wp : ((x1 = x0 → am_R E mL_law 844 [some (.ref 1002), some (.ref 0), some (.ref 48), some (.int a3)] [] (hp I J b) 64 64 Q) ∧ (¬ x1 = x0 → Q (some (.int 0)) (hp I J b)))) : am_R E mL_law 245 [some (.ref 1002), some (.ref 0), some (.ref 48), some (.int a3)] [.int x0, .int x1] (hp I J b) 64 64 Q := by
  refine am_icmp_eq dL_law_245 (tgt := 844) rfl (fun hc1 => ?_) (fun hc1 => ?_)
  · have wp := wp.1 hc1
    exact am_R.forget wp ⟨rfl, ⟨rfl, ⟨rfl, ⟨rfl, trivial⟩⟩⟩⟩
  · have wp := wp.2 hc1
    refine am_iconst 0 rfl dL_law_248 ?_
    exact am_iret dL_law_249 rfl (by decide) wp
theorem bL_law_250 {E : Nat × (Nat → Int32)} {I : Nat → Nat → Int32} {J : Nat → Nat → Int64} {b : Bool} {a3 : Int32} {Q : Option Value → am_H → Prop} (hE : E.1 ≤ 320) (wp : ∃ j1, (a3 + 1) = nI j1 ∧ j1 < E.1 ∧ ∃ j2, (a3 + 2) = nI j2 ∧ j2 < E.1 ∧ ∃ j3, (a3 + 3) = nI j3 ∧ j3 < E.1 ∧ am_R E mX9_monk 0 [some (.ref 0), some (.int (E.2 j1)), some (.int (E.2 j2)), some (.int (E.2 j3))] [] (hp I J b) 64 64 (fun r h' => am_R E mL_law 269 [some (.ref 1002), some (.ref 0), some (.ref 48), some (.int a3)] (r.toList ++ []) h' 64 64 Q)) : am_R E mL_law 250 [some (.ref 1002), some (.ref 0), some (.ref 48), some (.int a3)] [] (hp I J b) 64 64 Q := by
  refine am_aload_n rfl rfl dL_law_250 ?_
  refine am_aload_n rfl rfl dL_law_251 ?_
  refine am_iload_n rfl rfl dL_law_252 ?_
  refine am_iconst 1 rfl dL_law_253 ?_
  refine am_iadd dL_law_254 ?_
  obtain ⟨j1, e1, w1, wp⟩ := wp
  refine am_ildXN (j := j1) dL_law_255 e1 w1 hE ?_
  refine am_aload_n rfl rfl dL_law_256 ?_
  refine am_iload_n rfl rfl dL_law_257 ?_
  refine am_iconst 2 rfl dL_law_258 ?_
  refine am_iadd dL_law_259 ?_
  obtain ⟨j2, e2, w2, wp⟩ := wp
  refine am_ildXN (j := j2) dL_law_260 e2 w2 hE ?_
  refine am_aload_n rfl rfl dL_law_261 ?_
  refine am_iload_n rfl rfl dL_law_262 ?_
  refine am_iconst 3 rfl dL_law_263 ?_
  refine am_iadd dL_law_264 ?_
  obtain ⟨j3, e3, w3, wp⟩ := wp
  refine am_ildXN (j := j3) dL_law_265 e3 w3 hE ?_
  refine am_invV (ci := 7) (As := [.int (E.2 j1), .int (E.2 j2), .int (E.2 j3)]) (lsZ := [some (.ref 0), some (.int (E.2 j1)), some (.int (E.2 j2)), some (.int (E.2 j3))]) (st := []) dL_law_266 hX9_monk lkL_33 ⟨by decide, by decide⟩ (by decide) rfl (by decide) rfl rfl rfl (Nat.le_of_ble_eq_true rfl) rfl (Nat.le_of_ble_eq_true rfl) ⟨Nat.le_refl _, Nat.le_refl _⟩ (am_R.mono wp (fun r h' q => am_R.forget q ⟨rfl, ⟨rfl, ⟨rfl, ⟨rfl, trivial⟩⟩⟩⟩))
theorem bL_law_269 {E : Nat × (Nat → Int32)} {I : Nat → Nat → Int32} {J : Nat → Nat → Int64} {b : Bool} {a3 : Int32} {x0 : Int32} {Q : Option Value → am_H → Prop} (hE : E.1 ≤ 320) (wp : ∃ j1, (a3 + 1) = nI j1 ∧ j1 < E.1 ∧ ∃ j2, (a3 + 2) = nI j2 ∧ j2 < E.1 ∧ ∃ j3, (a3 + 3) = nI j3 ∧ j3 < E.1 ∧ am_R E mX10_monk 0 [some (.ref 48), some (.int (E.2 j1)), some (.int (E.2 j2)), some (.int (E.2 j3))] [] (hp I J b) 64 64 (fun r h' => am_R E mL_law 288 [some (.ref 1002), some (.ref 0), some (.ref 48), some (.int a3)] (r.toList ++ [.int x0]) h' 64 64 Q)) : am_R E mL_law 269 [some (.ref 1002), some (.ref 0), some (.ref 48), some (.int a3)] [.int x0] (hp I J b) 64 64 Q := by
  refine am_aload_n rfl rfl dL_law_269 ?_
  refine am_aload_n rfl rfl dL_law_270 ?_
  refine am_iload_n rfl rfl dL_law_271 ?_
  refine am_iconst 1 rfl dL_law_272 ?_
  refine am_iadd dL_law_273 ?_
  obtain ⟨j1, e1, w1, wp⟩ := wp
  refine am_ildXN (j := j1) dL_law_274 e1 w1 hE ?_
  refine am_aload_n rfl rfl dL_law_275 ?_
  refine am_iload_n rfl rfl dL_law_276 ?_
  refine am_iconst 2 rfl dL_law_277 ?_
  refine am_iadd dL_law_278 ?_
  obtain ⟨j2, e2, w2, wp⟩ := wp
  refine am_ildXN (j := j2) dL_law_279 e2 w2 hE ?_
  refine am_aload_n rfl rfl dL_law_280 ?_
  refine am_iload_n rfl rfl dL_law_281 ?_
  refine am_iconst 3 rfl dL_law_282 ?_
  refine am_iadd dL_law_283 ?_
  obtain ⟨j3, e3, w3, wp⟩ := wp
  refine am_ildXN (j := j3) dL_law_284 e3 w3 hE ?_
  refine am_invV (ci := 8) (As := [.int (E.2 j1), .int (E.2 j2), .int (E.2 j3)]) (lsZ := [some (.ref 48), some (.int (E.2 j1)), some (.int (E.2 j2)), some (.int (E.2 j3))]) (st := [.int x0]) dL_law_285 hX10_monk lkL_37 ⟨by decide, by decide⟩ (by decide) rfl (by decide) rfl rfl rfl (Nat.le_of_ble_eq_true rfl) rfl (Nat.le_of_ble_eq_true rfl) ⟨Nat.le_refl _, Nat.le_refl _⟩ (am_R.mono wp (fun r h' q => am_R.forget q ⟨rfl, ⟨rfl, ⟨rfl, ⟨rfl, trivial⟩⟩⟩⟩))
theorem bL_law_288 {E : Nat × (Nat → Int32)} {I : Nat → Nat → Int32} {J : Nat → Nat → Int64} {b : Bool} {a3 : Int32} {x0 : Int32} {x1 : Int32} {Q : Option Value → am_H → Prop} (hE : E.1 ≤ 320) (wp : ((x1 = x0 → am_R E mL_law 844 [some (.ref 1002), some (.ref 0), some (.ref 48), some (.int a3)] [] (hp I J b) 64 64 Q) ∧ (¬ x1 = x0 → Q (some (.int 0)) (hp I J b)))) : am_R E mL_law 288 [some (.ref 1002), some (.ref 0), some (.ref 48), some (.int a3)] [.int x0, .int x1] (hp I J b) 64 64 Q := by
  refine am_icmp_eq dL_law_288 (tgt := 844) rfl (fun hc1 => ?_) (fun hc1 => ?_)
  · have wp := wp.1 hc1
    exact am_R.forget wp ⟨rfl, ⟨rfl, ⟨rfl, ⟨rfl, trivial⟩⟩⟩⟩
  · have wp := wp.2 hc1
    refine am_iconst 0 rfl dL_law_291 ?_
    exact am_iret dL_law_292 rfl (by decide) wp
theorem bL_law_293 {E : Nat × (Nat → Int32)} {I : Nat → Nat → Int32} {J : Nat → Nat → Int64} {b : Bool} {a3 : Int32} {Q : Option Value → am_H → Prop} (hE : E.1 ≤ 320) (wp : ∃ j1, (a3 + 1) = nI j1 ∧ j1 < E.1 ∧ ∃ j2, (a3 + 2) = nI j2 ∧ j2 < E.1 ∧ am_R E mX9_as 0 [some (.ref 0), some (.int (E.2 j1)), some (.int (E.2 j2)), none, none] [] (hp I J b) 64 64 (fun r h' => am_R E mL_law 307 [some (.ref 1002), some (.ref 0), some (.ref 48), some (.int a3)] (r.toList ++ []) h' 64 64 Q)) : am_R E mL_law 293 [some (.ref 1002), some (.ref 0), some (.ref 48), some (.int a3)] [] (hp I J b) 64 64 Q := by
  refine am_aload_n rfl rfl dL_law_293 ?_
  refine am_aload_n rfl rfl dL_law_294 ?_
  refine am_iload_n rfl rfl dL_law_295 ?_
  refine am_iconst 1 rfl dL_law_296 ?_
  refine am_iadd dL_law_297 ?_
  obtain ⟨j1, e1, w1, wp⟩ := wp
  refine am_ildXN (j := j1) dL_law_298 e1 w1 hE ?_
  refine am_aload_n rfl rfl dL_law_299 ?_
  refine am_iload_n rfl rfl dL_law_300 ?_
  refine am_iconst 2 rfl dL_law_301 ?_
  refine am_iadd dL_law_302 ?_
  obtain ⟨j2, e2, w2, wp⟩ := wp
  refine am_ildXN (j := j2) dL_law_303 e2 w2 hE ?_
  refine am_invV (ci := 7) (As := [.int (E.2 j1), .int (E.2 j2)]) (lsZ := [some (.ref 0), some (.int (E.2 j1)), some (.int (E.2 j2)), none, none]) (st := []) dL_law_304 hX9_as lkL_38 ⟨by decide, by decide⟩ (by decide) rfl (by decide) rfl rfl rfl (Nat.le_of_ble_eq_true rfl) rfl (Nat.le_of_ble_eq_true rfl) ⟨Nat.le_refl _, Nat.le_refl _⟩ (am_R.mono wp (fun r h' q => am_R.forget q ⟨rfl, ⟨rfl, ⟨rfl, ⟨rfl, trivial⟩⟩⟩⟩))
theorem bL_law_307 {E : Nat × (Nat → Int32)} {I : Nat → Nat → Int32} {J : Nat → Nat → Int64} {b : Bool} {a3 : Int32} {x0 : Int32} {Q : Option Value → am_H → Prop} (hE : E.1 ≤ 320) (wp : ∃ j1, (a3 + 1) = nI j1 ∧ j1 < E.1 ∧ ∃ j2, (a3 + 2) = nI j2 ∧ j2 < E.1 ∧ am_R E mX10_as 0 [some (.ref 48), some (.int (E.2 j1)), some (.int (E.2 j2)), none, none, none] [] (hp I J b) 64 64 (fun r h' => am_R E mL_law 321 [some (.ref 1002), some (.ref 0), some (.ref 48), some (.int a3)] (r.toList ++ [.int x0]) h' 64 64 Q)) : am_R E mL_law 307 [some (.ref 1002), some (.ref 0), some (.ref 48), some (.int a3)] [.int x0] (hp I J b) 64 64 Q := by
  refine am_aload_n rfl rfl dL_law_307 ?_
  refine am_aload_n rfl rfl dL_law_308 ?_
  refine am_iload_n rfl rfl dL_law_309 ?_
  refine am_iconst 1 rfl dL_law_310 ?_
  refine am_iadd dL_law_311 ?_
  obtain ⟨j1, e1, w1, wp⟩ := wp
  refine am_ildXN (j := j1) dL_law_312 e1 w1 hE ?_
  refine am_aload_n rfl rfl dL_law_313 ?_
  refine am_iload_n rfl rfl dL_law_314 ?_
  refine am_iconst 2 rfl dL_law_315 ?_
  refine am_iadd dL_law_316 ?_
  obtain ⟨j2, e2, w2, wp⟩ := wp
  refine am_ildXN (j := j2) dL_law_317 e2 w2 hE ?_
  refine am_invV (ci := 8) (As := [.int (E.2 j1), .int (E.2 j2)]) (lsZ := [some (.ref 48), some (.int (E.2 j1)), some (.int (E.2 j2)), none, none, none]) (st := [.int x0]) dL_law_318 hX10_as lkL_42 ⟨by decide, by decide⟩ (by decide) rfl (by decide) rfl rfl rfl (Nat.le_of_ble_eq_true rfl) rfl (Nat.le_of_ble_eq_true rfl) ⟨Nat.le_refl _, Nat.le_refl _⟩ (am_R.mono wp (fun r h' q => am_R.forget q ⟨rfl, ⟨rfl, ⟨rfl, ⟨rfl, trivial⟩⟩⟩⟩))
theorem bL_law_321 {E : Nat × (Nat → Int32)} {I : Nat → Nat → Int32} {J : Nat → Nat → Int64} {b : Bool} {a3 : Int32} {x0 : Int32} {x1 : Int32} {Q : Option Value → am_H → Prop} (hE : E.1 ≤ 320) (wp : ((x1 = x0 → am_R E mL_law 844 [some (.ref 1002), some (.ref 0), some (.ref 48), some (.int a3)] [] (hp I J b) 64 64 Q) ∧ (¬ x1 = x0 → Q (some (.int 0)) (hp I J b)))) : am_R E mL_law 321 [some (.ref 1002), some (.ref 0), some (.ref 48), some (.int a3)] [.int x0, .int x1] (hp I J b) 64 64 Q := by
  refine am_icmp_eq dL_law_321 (tgt := 844) rfl (fun hc1 => ?_) (fun hc1 => ?_)
  · have wp := wp.1 hc1
    exact am_R.forget wp ⟨rfl, ⟨rfl, ⟨rfl, ⟨rfl, trivial⟩⟩⟩⟩
  · have wp := wp.2 hc1
    refine am_iconst 0 rfl dL_law_324 ?_
    exact am_iret dL_law_325 rfl (by decide) wp
theorem bL_law_326 {E : Nat × (Nat → Int32)} {I : Nat → Nat → Int32} {J : Nat → Nat → Int64} {b : Bool} {a3 : Int32} {Q : Option Value → am_H → Prop} (hE : E.1 ≤ 320) (wp : ∃ j1, (a3 + 1) = nI j1 ∧ j1 < E.1 ∧ am_R E mX9_lay 0 [some (.ref 0), some (.int (E.2 j1))] [] (hp I J b) 64 64 (fun r h' => am_R E mL_law 335 [some (.ref 1002), some (.ref 0), some (.ref 48), some (.int a3)] (r.toList ++ []) h' 64 64 Q)) : am_R E mL_law 326 [some (.ref 1002), some (.ref 0), some (.ref 48), some (.int a3)] [] (hp I J b) 64 64 Q := by
  refine am_aload_n rfl rfl dL_law_326 ?_
  refine am_aload_n rfl rfl dL_law_327 ?_
  refine am_iload_n rfl rfl dL_law_328 ?_
  refine am_iconst 1 rfl dL_law_329 ?_
  refine am_iadd dL_law_330 ?_
  obtain ⟨j1, e1, w1, wp⟩ := wp
  refine am_ildXN (j := j1) dL_law_331 e1 w1 hE ?_
  refine am_invV (ci := 7) (As := [.int (E.2 j1)]) (lsZ := [some (.ref 0), some (.int (E.2 j1))]) (st := []) dL_law_332 hX9_lay lkL_43 ⟨by decide, by decide⟩ (by decide) rfl (by decide) rfl rfl rfl (Nat.le_of_ble_eq_true rfl) rfl (Nat.le_of_ble_eq_true rfl) ⟨Nat.le_refl _, Nat.le_refl _⟩ (am_R.mono wp (fun r h' q => am_R.forget q ⟨rfl, ⟨rfl, ⟨rfl, ⟨rfl, trivial⟩⟩⟩⟩))
theorem bL_law_335 {E : Nat × (Nat → Int32)} {I : Nat → Nat → Int32} {J : Nat → Nat → Int64} {b : Bool} {a3 : Int32} {x0 : Int32} {Q : Option Value → am_H → Prop} (hE : E.1 ≤ 320) (wp : ∃ j1, (a3 + 1) = nI j1 ∧ j1 < E.1 ∧ am_R E mX10_lay 0 [some (.ref 48), some (.int (E.2 j1))] [] (hp I J b) 64 64 (fun r h' => am_R E mL_law 344 [some (.ref 1002), some (.ref 0), some (.ref 48), some (.int a3)] (r.toList ++ [.int x0]) h' 64 64 Q)) : am_R E mL_law 335 [some (.ref 1002), some (.ref 0), some (.ref 48), some (.int a3)] [.int x0] (hp I J b) 64 64 Q := by
  refine am_aload_n rfl rfl dL_law_335 ?_
  refine am_aload_n rfl rfl dL_law_336 ?_
  refine am_iload_n rfl rfl dL_law_337 ?_
  refine am_iconst 1 rfl dL_law_338 ?_
  refine am_iadd dL_law_339 ?_
  obtain ⟨j1, e1, w1, wp⟩ := wp
  refine am_ildXN (j := j1) dL_law_340 e1 w1 hE ?_
  refine am_invV (ci := 8) (As := [.int (E.2 j1)]) (lsZ := [some (.ref 48), some (.int (E.2 j1))]) (st := [.int x0]) dL_law_341 hX10_lay lkL_47 ⟨by decide, by decide⟩ (by decide) rfl (by decide) rfl rfl rfl (Nat.le_of_ble_eq_true rfl) rfl (Nat.le_of_ble_eq_true rfl) ⟨Nat.le_refl _, Nat.le_refl _⟩ (am_R.mono wp (fun r h' q => am_R.forget q ⟨rfl, ⟨rfl, ⟨rfl, ⟨rfl, trivial⟩⟩⟩⟩))
theorem bL_law_344 {E : Nat × (Nat → Int32)} {I : Nat → Nat → Int32} {J : Nat → Nat → Int64} {b : Bool} {a3 : Int32} {x0 : Int32} {x1 : Int32} {Q : Option Value → am_H → Prop} (hE : E.1 ≤ 320) (wp : ((x1 = x0 → am_R E mL_law 844 [some (.ref 1002), some (.ref 0), some (.ref 48), some (.int a3)] [] (hp I J b) 64 64 Q) ∧ (¬ x1 = x0 → Q (some (.int 0)) (hp I J b)))) : am_R E mL_law 344 [some (.ref 1002), some (.ref 0), some (.ref 48), some (.int a3)] [.int x0, .int x1] (hp I J b) 64 64 Q := by
  refine am_icmp_eq dL_law_344 (tgt := 844) rfl (fun hc1 => ?_) (fun hc1 => ?_)
  · have wp := wp.1 hc1
    exact am_R.forget wp ⟨rfl, ⟨rfl, ⟨rfl, ⟨rfl, trivial⟩⟩⟩⟩
  · have wp := wp.2 hc1
    refine am_iconst 0 rfl dL_law_347 ?_
    exact am_iret dL_law_348 rfl (by decide) wp
theorem bL_law_349 {E : Nat × (Nat → Int32)} {I : Nat → Nat → Int32} {J : Nat → Nat → Int64} {b : Bool} {a3 : Int32} {Q : Option Value → am_H → Prop} (hE : E.1 ≤ 320) (wp : ∃ j1, (a3 + 1) = nI j1 ∧ j1 < E.1 ∧ am_R E mX9_draw 0 [some (.ref 0), some (.int (E.2 j1)), none, none] [] (hp I J b) 64 64 (fun r h' => am_R E mL_law 358 [some (.ref 1002), some (.ref 0), some (.ref 48), some (.int a3)] (r.toList ++ []) h' 64 64 Q)) : am_R E mL_law 349 [some (.ref 1002), some (.ref 0), some (.ref 48), some (.int a3)] [] (hp I J b) 64 64 Q := by
  refine am_aload_n rfl rfl dL_law_349 ?_
  refine am_aload_n rfl rfl dL_law_350 ?_
  refine am_iload_n rfl rfl dL_law_351 ?_
  refine am_iconst 1 rfl dL_law_352 ?_
  refine am_iadd dL_law_353 ?_
  obtain ⟨j1, e1, w1, wp⟩ := wp
  refine am_ildXN (j := j1) dL_law_354 e1 w1 hE ?_
  refine am_invV (ci := 7) (As := [.int (E.2 j1)]) (lsZ := [some (.ref 0), some (.int (E.2 j1)), none, none]) (st := []) dL_law_355 hX9_draw lkL_48 ⟨by decide, by decide⟩ (by decide) rfl (by decide) rfl rfl rfl (Nat.le_of_ble_eq_true rfl) rfl (Nat.le_of_ble_eq_true rfl) ⟨Nat.le_refl _, Nat.le_refl _⟩ (am_R.mono wp (fun r h' q => am_R.forget q ⟨rfl, ⟨rfl, ⟨rfl, ⟨rfl, trivial⟩⟩⟩⟩))
theorem bL_law_358 {E : Nat × (Nat → Int32)} {I : Nat → Nat → Int32} {J : Nat → Nat → Int64} {b : Bool} {a3 : Int32} {x0 : Int32} {Q : Option Value → am_H → Prop} (hE : E.1 ≤ 320) (wp : ∃ j1, (a3 + 1) = nI j1 ∧ j1 < E.1 ∧ am_R E mX10_draw 0 [some (.ref 48), some (.int (E.2 j1)), none, none, none, none] [] (hp I J b) 64 64 (fun r h' => am_R E mL_law 367 [some (.ref 1002), some (.ref 0), some (.ref 48), some (.int a3)] (r.toList ++ [.int x0]) h' 64 64 Q)) : am_R E mL_law 358 [some (.ref 1002), some (.ref 0), some (.ref 48), some (.int a3)] [.int x0] (hp I J b) 64 64 Q := by
  refine am_aload_n rfl rfl dL_law_358 ?_
  refine am_aload_n rfl rfl dL_law_359 ?_
  refine am_iload_n rfl rfl dL_law_360 ?_
  refine am_iconst 1 rfl dL_law_361 ?_
  refine am_iadd dL_law_362 ?_
  obtain ⟨j1, e1, w1, wp⟩ := wp
  refine am_ildXN (j := j1) dL_law_363 e1 w1 hE ?_
  refine am_invV (ci := 8) (As := [.int (E.2 j1)]) (lsZ := [some (.ref 48), some (.int (E.2 j1)), none, none, none, none]) (st := [.int x0]) dL_law_364 hX10_draw lkL_51 ⟨by decide, by decide⟩ (by decide) rfl (by decide) rfl rfl rfl (Nat.le_of_ble_eq_true rfl) rfl (Nat.le_of_ble_eq_true rfl) ⟨Nat.le_refl _, Nat.le_refl _⟩ (am_R.mono wp (fun r h' q => am_R.forget q ⟨rfl, ⟨rfl, ⟨rfl, ⟨rfl, trivial⟩⟩⟩⟩))
theorem bL_law_367 {E : Nat × (Nat → Int32)} {I : Nat → Nat → Int32} {J : Nat → Nat → Int64} {b : Bool} {a3 : Int32} {x0 : Int32} {x1 : Int32} {Q : Option Value → am_H → Prop} (hE : E.1 ≤ 320) (wp : ((x1 = x0 → am_R E mL_law 844 [some (.ref 1002), some (.ref 0), some (.ref 48), some (.int a3)] [] (hp I J b) 64 64 Q) ∧ (¬ x1 = x0 → Q (some (.int 0)) (hp I J b)))) : am_R E mL_law 367 [some (.ref 1002), some (.ref 0), some (.ref 48), some (.int a3)] [.int x0, .int x1] (hp I J b) 64 64 Q := by
  refine am_icmp_eq dL_law_367 (tgt := 844) rfl (fun hc1 => ?_) (fun hc1 => ?_)
  · have wp := wp.1 hc1
    exact am_R.forget wp ⟨rfl, ⟨rfl, ⟨rfl, ⟨rfl, trivial⟩⟩⟩⟩
  · have wp := wp.2 hc1
    refine am_iconst 0 rfl dL_law_370 ?_
    exact am_iret dL_law_371 rfl (by decide) wp
theorem bL_law_372 {E : Nat × (Nat → Int32)} {I : Nat → Nat → Int32} {J : Nat → Nat → Int64} {b : Bool} {a3 : Int32} {Q : Option Value → am_H → Prop} (hE : E.1 ≤ 320) (wp : ∃ j1, (a3 + 1) = nI j1 ∧ j1 < E.1 ∧ ∃ j2, (a3 + 2) = nI j2 ∧ j2 < E.1 ∧ am_R E mX9_has 0 [some (.ref 0), some (.int (E.2 j1)), some (.int (E.2 j2))] [] (hp I J b) 64 64 (fun r h' => am_R E mL_law 386 [some (.ref 1002), some (.ref 0), some (.ref 48), some (.int a3)] (r.toList ++ []) h' 64 64 Q)) : am_R E mL_law 372 [some (.ref 1002), some (.ref 0), some (.ref 48), some (.int a3)] [] (hp I J b) 64 64 Q := by
  refine am_aload_n rfl rfl dL_law_372 ?_
  refine am_aload_n rfl rfl dL_law_373 ?_
  refine am_iload_n rfl rfl dL_law_374 ?_
  refine am_iconst 1 rfl dL_law_375 ?_
  refine am_iadd dL_law_376 ?_
  obtain ⟨j1, e1, w1, wp⟩ := wp
  refine am_ildXN (j := j1) dL_law_377 e1 w1 hE ?_
  refine am_aload_n rfl rfl dL_law_378 ?_
  refine am_iload_n rfl rfl dL_law_379 ?_
  refine am_iconst 2 rfl dL_law_380 ?_
  refine am_iadd dL_law_381 ?_
  obtain ⟨j2, e2, w2, wp⟩ := wp
  refine am_ildXN (j := j2) dL_law_382 e2 w2 hE ?_
  refine am_invV (ci := 7) (As := [.int (E.2 j1), .int (E.2 j2)]) (lsZ := [some (.ref 0), some (.int (E.2 j1)), some (.int (E.2 j2))]) (st := []) dL_law_383 hX9_has lkL_52 ⟨by decide, by decide⟩ (by decide) rfl (by decide) rfl rfl rfl (Nat.le_of_ble_eq_true rfl) rfl (Nat.le_of_ble_eq_true rfl) ⟨Nat.le_refl _, Nat.le_refl _⟩ (am_R.mono wp (fun r h' q => am_R.forget q ⟨rfl, ⟨rfl, ⟨rfl, ⟨rfl, trivial⟩⟩⟩⟩))
theorem bL_law_386 {E : Nat × (Nat → Int32)} {I : Nat → Nat → Int32} {J : Nat → Nat → Int64} {b : Bool} {a3 : Int32} {x0 : Int32} {Q : Option Value → am_H → Prop} (hE : E.1 ≤ 320) (wp : ∃ j1, (a3 + 1) = nI j1 ∧ j1 < E.1 ∧ ∃ j2, (a3 + 2) = nI j2 ∧ j2 < E.1 ∧ am_R E mX10_has 0 [some (.ref 48), some (.int (E.2 j1)), some (.int (E.2 j2))] [] (hp I J b) 64 64 (fun r h' => am_R E mL_law 400 [some (.ref 1002), some (.ref 0), some (.ref 48), some (.int a3)] (r.toList ++ [.int x0]) h' 64 64 Q)) : am_R E mL_law 386 [some (.ref 1002), some (.ref 0), some (.ref 48), some (.int a3)] [.int x0] (hp I J b) 64 64 Q := by
  refine am_aload_n rfl rfl dL_law_386 ?_
  refine am_aload_n rfl rfl dL_law_387 ?_
  refine am_iload_n rfl rfl dL_law_388 ?_
  refine am_iconst 1 rfl dL_law_389 ?_
  refine am_iadd dL_law_390 ?_
  obtain ⟨j1, e1, w1, wp⟩ := wp
  refine am_ildXN (j := j1) dL_law_391 e1 w1 hE ?_
  refine am_aload_n rfl rfl dL_law_392 ?_
  refine am_iload_n rfl rfl dL_law_393 ?_
  refine am_iconst 2 rfl dL_law_394 ?_
  refine am_iadd dL_law_395 ?_
  obtain ⟨j2, e2, w2, wp⟩ := wp
  refine am_ildXN (j := j2) dL_law_396 e2 w2 hE ?_
  refine am_invV (ci := 8) (As := [.int (E.2 j1), .int (E.2 j2)]) (lsZ := [some (.ref 48), some (.int (E.2 j1)), some (.int (E.2 j2))]) (st := [.int x0]) dL_law_397 hX10_has lkL_55 ⟨by decide, by decide⟩ (by decide) rfl (by decide) rfl rfl rfl (Nat.le_of_ble_eq_true rfl) rfl (Nat.le_of_ble_eq_true rfl) ⟨Nat.le_refl _, Nat.le_refl _⟩ (am_R.mono wp (fun r h' q => am_R.forget q ⟨rfl, ⟨rfl, ⟨rfl, ⟨rfl, trivial⟩⟩⟩⟩))
theorem bL_law_400 {E : Nat × (Nat → Int32)} {I : Nat → Nat → Int32} {J : Nat → Nat → Int64} {b : Bool} {a3 : Int32} {x0 : Int32} {x1 : Int32} {Q : Option Value → am_H → Prop} (hE : E.1 ≤ 320) (wp : ((x1 = x0 → am_R E mL_law 844 [some (.ref 1002), some (.ref 0), some (.ref 48), some (.int a3)] [] (hp I J b) 64 64 Q) ∧ (¬ x1 = x0 → Q (some (.int 0)) (hp I J b)))) : am_R E mL_law 400 [some (.ref 1002), some (.ref 0), some (.ref 48), some (.int a3)] [.int x0, .int x1] (hp I J b) 64 64 Q := by
  refine am_icmp_eq dL_law_400 (tgt := 844) rfl (fun hc1 => ?_) (fun hc1 => ?_)
  · have wp := wp.1 hc1
    exact am_R.forget wp ⟨rfl, ⟨rfl, ⟨rfl, ⟨rfl, trivial⟩⟩⟩⟩
  · have wp := wp.2 hc1
    refine am_iconst 0 rfl dL_law_403 ?_
    exact am_iret dL_law_404 rfl (by decide) wp
theorem bL_law_405 {E : Nat × (Nat → Int32)} {I : Nat → Nat → Int32} {J : Nat → Nat → Int64} {b : Bool} {a3 : Int32} {Q : Option Value → am_H → Prop} (hE : E.1 ≤ 320) (wp : ∃ j1, (a3 + 1) = nI j1 ∧ j1 < E.1 ∧ ∃ j2, (a3 + 2) = nI j2 ∧ j2 < E.1 ∧ ∃ j3, (a3 + 3) = nI j3 ∧ j3 < E.1 ∧ am_R E mX9_trade 0 [some (.ref 0), some (.int (E.2 j1)), some (.int (E.2 j2)), some (.int (E.2 j3))] [] (hp I J b) 64 64 (fun r h' => am_R E mL_law 424 [some (.ref 1002), some (.ref 0), some (.ref 48), some (.int a3)] (r.toList ++ []) h' 64 64 Q)) : am_R E mL_law 405 [some (.ref 1002), some (.ref 0), some (.ref 48), some (.int a3)] [] (hp I J b) 64 64 Q := by
  refine am_aload_n rfl rfl dL_law_405 ?_
  refine am_aload_n rfl rfl dL_law_406 ?_
  refine am_iload_n rfl rfl dL_law_407 ?_
  refine am_iconst 1 rfl dL_law_408 ?_
  refine am_iadd dL_law_409 ?_
  obtain ⟨j1, e1, w1, wp⟩ := wp
  refine am_ildXN (j := j1) dL_law_410 e1 w1 hE ?_
  refine am_aload_n rfl rfl dL_law_411 ?_
  refine am_iload_n rfl rfl dL_law_412 ?_
  refine am_iconst 2 rfl dL_law_413 ?_
  refine am_iadd dL_law_414 ?_
  obtain ⟨j2, e2, w2, wp⟩ := wp
  refine am_ildXN (j := j2) dL_law_415 e2 w2 hE ?_
  refine am_aload_n rfl rfl dL_law_416 ?_
  refine am_iload_n rfl rfl dL_law_417 ?_
  refine am_iconst 3 rfl dL_law_418 ?_
  refine am_iadd dL_law_419 ?_
  obtain ⟨j3, e3, w3, wp⟩ := wp
  refine am_ildXN (j := j3) dL_law_420 e3 w3 hE ?_
  refine am_invV (ci := 7) (As := [.int (E.2 j1), .int (E.2 j2), .int (E.2 j3)]) (lsZ := [some (.ref 0), some (.int (E.2 j1)), some (.int (E.2 j2)), some (.int (E.2 j3))]) (st := []) dL_law_421 hX9_trade lkL_56 ⟨by decide, by decide⟩ (by decide) rfl (by decide) rfl rfl rfl (Nat.le_of_ble_eq_true rfl) rfl (Nat.le_of_ble_eq_true rfl) ⟨Nat.le_refl _, Nat.le_refl _⟩ (am_R.mono wp (fun r h' q => am_R.forget q ⟨rfl, ⟨rfl, ⟨rfl, ⟨rfl, trivial⟩⟩⟩⟩))
theorem bL_law_424 {E : Nat × (Nat → Int32)} {I : Nat → Nat → Int32} {J : Nat → Nat → Int64} {b : Bool} {a3 : Int32} {x0 : Int32} {Q : Option Value → am_H → Prop} (hE : E.1 ≤ 320) (wp : ∃ j1, (a3 + 1) = nI j1 ∧ j1 < E.1 ∧ ∃ j2, (a3 + 2) = nI j2 ∧ j2 < E.1 ∧ ∃ j3, (a3 + 3) = nI j3 ∧ j3 < E.1 ∧ am_R E mX10_trade 0 [some (.ref 48), some (.int (E.2 j1)), some (.int (E.2 j2)), some (.int (E.2 j3))] [] (hp I J b) 64 64 (fun r h' => am_R E mL_law 443 [some (.ref 1002), some (.ref 0), some (.ref 48), some (.int a3)] (r.toList ++ [.int x0]) h' 64 64 Q)) : am_R E mL_law 424 [some (.ref 1002), some (.ref 0), some (.ref 48), some (.int a3)] [.int x0] (hp I J b) 64 64 Q := by
  refine am_aload_n rfl rfl dL_law_424 ?_
  refine am_aload_n rfl rfl dL_law_425 ?_
  refine am_iload_n rfl rfl dL_law_426 ?_
  refine am_iconst 1 rfl dL_law_427 ?_
  refine am_iadd dL_law_428 ?_
  obtain ⟨j1, e1, w1, wp⟩ := wp
  refine am_ildXN (j := j1) dL_law_429 e1 w1 hE ?_
  refine am_aload_n rfl rfl dL_law_430 ?_
  refine am_iload_n rfl rfl dL_law_431 ?_
  refine am_iconst 2 rfl dL_law_432 ?_
  refine am_iadd dL_law_433 ?_
  obtain ⟨j2, e2, w2, wp⟩ := wp
  refine am_ildXN (j := j2) dL_law_434 e2 w2 hE ?_
  refine am_aload_n rfl rfl dL_law_435 ?_
  refine am_iload_n rfl rfl dL_law_436 ?_
  refine am_iconst 3 rfl dL_law_437 ?_
  refine am_iadd dL_law_438 ?_
  obtain ⟨j3, e3, w3, wp⟩ := wp
  refine am_ildXN (j := j3) dL_law_439 e3 w3 hE ?_
  refine am_invV (ci := 8) (As := [.int (E.2 j1), .int (E.2 j2), .int (E.2 j3)]) (lsZ := [some (.ref 48), some (.int (E.2 j1)), some (.int (E.2 j2)), some (.int (E.2 j3))]) (st := [.int x0]) dL_law_440 hX10_trade lkL_59 ⟨by decide, by decide⟩ (by decide) rfl (by decide) rfl rfl rfl (Nat.le_of_ble_eq_true rfl) rfl (Nat.le_of_ble_eq_true rfl) ⟨Nat.le_refl _, Nat.le_refl _⟩ (am_R.mono wp (fun r h' q => am_R.forget q ⟨rfl, ⟨rfl, ⟨rfl, ⟨rfl, trivial⟩⟩⟩⟩))
theorem bL_law_443 {E : Nat × (Nat → Int32)} {I : Nat → Nat → Int32} {J : Nat → Nat → Int64} {b : Bool} {a3 : Int32} {x0 : Int32} {x1 : Int32} {Q : Option Value → am_H → Prop} (hE : E.1 ≤ 320) (wp : ((x1 = x0 → am_R E mL_law 844 [some (.ref 1002), some (.ref 0), some (.ref 48), some (.int a3)] [] (hp I J b) 64 64 Q) ∧ (¬ x1 = x0 → Q (some (.int 0)) (hp I J b)))) : am_R E mL_law 443 [some (.ref 1002), some (.ref 0), some (.ref 48), some (.int a3)] [.int x0, .int x1] (hp I J b) 64 64 Q := by
  refine am_icmp_eq dL_law_443 (tgt := 844) rfl (fun hc1 => ?_) (fun hc1 => ?_)
  · have wp := wp.1 hc1
    exact am_R.forget wp ⟨rfl, ⟨rfl, ⟨rfl, ⟨rfl, trivial⟩⟩⟩⟩
  · have wp := wp.2 hc1
    refine am_iconst 0 rfl dL_law_446 ?_
    exact am_iret dL_law_447 rfl (by decide) wp
theorem bL_law_448 {E : Nat × (Nat → Int32)} {I : Nat → Nat → Int32} {J : Nat → Nat → Int64} {b : Bool} {a3 : Int32} {Q : Option Value → am_H → Prop} (hE : E.1 ≤ 320) (wp : am_R E mX9_settle 0 [some (.ref 0)] [] (hp I J b) 64 64 (fun r h' => am_R E mL_law 452 [some (.ref 1002), some (.ref 0), some (.ref 48), some (.int a3)] (r.toList ++ []) h' 64 64 Q)) : am_R E mL_law 448 [some (.ref 1002), some (.ref 0), some (.ref 48), some (.int a3)] [] (hp I J b) 64 64 Q := by
  refine am_aload_n rfl rfl dL_law_448 ?_
  refine am_invV (ci := 7) (As := []) (lsZ := [some (.ref 0)]) (st := []) dL_law_449 hX9_settle lkL_60 ⟨by decide, by decide⟩ (by decide) rfl (by decide) rfl rfl rfl (Nat.le_of_ble_eq_true rfl) rfl (Nat.le_of_ble_eq_true rfl) ⟨Nat.le_refl _, Nat.le_refl _⟩ (am_R.mono wp (fun r h' q => am_R.forget q ⟨rfl, ⟨rfl, ⟨rfl, ⟨rfl, trivial⟩⟩⟩⟩))
theorem bL_law_452 {E : Nat × (Nat → Int32)} {I : Nat → Nat → Int32} {J : Nat → Nat → Int64} {b : Bool} {a3 : Int32} {x0 : Int32} {Q : Option Value → am_H → Prop} (hE : E.1 ≤ 320) (wp : am_R E mX10_settle 0 [some (.ref 48), none] [] (hp I J b) 64 64 (fun r h' => am_R E mL_law 456 [some (.ref 1002), some (.ref 0), some (.ref 48), some (.int a3)] (r.toList ++ [.int x0]) h' 64 64 Q)) : am_R E mL_law 452 [some (.ref 1002), some (.ref 0), some (.ref 48), some (.int a3)] [.int x0] (hp I J b) 64 64 Q := by
  refine am_aload_n rfl rfl dL_law_452 ?_
  refine am_invV (ci := 8) (As := []) (lsZ := [some (.ref 48), none]) (st := [.int x0]) dL_law_453 hX10_settle lkL_63 ⟨by decide, by decide⟩ (by decide) rfl (by decide) rfl rfl rfl (Nat.le_of_ble_eq_true rfl) rfl (Nat.le_of_ble_eq_true rfl) ⟨Nat.le_refl _, Nat.le_refl _⟩ (am_R.mono wp (fun r h' q => am_R.forget q ⟨rfl, ⟨rfl, ⟨rfl, ⟨rfl, trivial⟩⟩⟩⟩))
theorem bL_law_456 {E : Nat × (Nat → Int32)} {I : Nat → Nat → Int32} {J : Nat → Nat → Int64} {b : Bool} {a3 : Int32} {x0 : Int32} {x1 : Int32} {Q : Option Value → am_H → Prop} (hE : E.1 ≤ 320) (wp : ((x1 = x0 → am_R E mL_law 844 [some (.ref 1002), some (.ref 0), some (.ref 48), some (.int a3)] [] (hp I J b) 64 64 Q) ∧ (¬ x1 = x0 → Q (some (.int 0)) (hp I J b)))) : am_R E mL_law 456 [some (.ref 1002), some (.ref 0), some (.ref 48), some (.int a3)] [.int x0, .int x1] (hp I J b) 64 64 Q := by
  refine am_icmp_eq dL_law_456 (tgt := 844) rfl (fun hc1 => ?_) (fun hc1 => ?_)
  · have wp := wp.1 hc1
    exact am_R.forget wp ⟨rfl, ⟨rfl, ⟨rfl, ⟨rfl, trivial⟩⟩⟩⟩
  · have wp := wp.2 hc1
    refine am_iconst 0 rfl dL_law_459 ?_
    exact am_iret dL_law_460 rfl (by decide) wp
theorem bL_law_461 {E : Nat × (Nat → Int32)} {I : Nat → Nat → Int32} {J : Nat → Nat → Int64} {b : Bool} {a3 : Int32} {Q : Option Value → am_H → Prop} (hE : E.1 ≤ 320) (wp : am_R E mX9_dawn 0 [some (.ref 0)] [] (hp I J b) 64 64 (fun r h' => am_R E mL_law 465 [some (.ref 1002), some (.ref 0), some (.ref 48), some (.int a3)] (r.toList ++ []) h' 64 64 Q)) : am_R E mL_law 461 [some (.ref 1002), some (.ref 0), some (.ref 48), some (.int a3)] [] (hp I J b) 64 64 Q := by
  refine am_aload_n rfl rfl dL_law_461 ?_
  refine am_invV (ci := 7) (As := []) (lsZ := [some (.ref 0)]) (st := []) dL_law_462 hX9_dawn lkL_64 ⟨by decide, by decide⟩ (by decide) rfl (by decide) rfl rfl rfl (Nat.le_of_ble_eq_true rfl) rfl (Nat.le_of_ble_eq_true rfl) ⟨Nat.le_refl _, Nat.le_refl _⟩ (am_R.mono wp (fun r h' q => am_R.forget q ⟨rfl, ⟨rfl, ⟨rfl, ⟨rfl, trivial⟩⟩⟩⟩))
theorem bL_law_465 {E : Nat × (Nat → Int32)} {I : Nat → Nat → Int32} {J : Nat → Nat → Int64} {b : Bool} {a3 : Int32} {x0 : Int32} {Q : Option Value → am_H → Prop} (hE : E.1 ≤ 320) (wp : am_R E mX10_dawn 0 [some (.ref 48), none] [] (hp I J b) 64 64 (fun r h' => am_R E mL_law 469 [some (.ref 1002), some (.ref 0), some (.ref 48), some (.int a3)] (r.toList ++ [.int x0]) h' 64 64 Q)) : am_R E mL_law 465 [some (.ref 1002), some (.ref 0), some (.ref 48), some (.int a3)] [.int x0] (hp I J b) 64 64 Q := by
  refine am_aload_n rfl rfl dL_law_465 ?_
  refine am_invV (ci := 8) (As := []) (lsZ := [some (.ref 48), none]) (st := [.int x0]) dL_law_466 hX10_dawn lkL_67 ⟨by decide, by decide⟩ (by decide) rfl (by decide) rfl rfl rfl (Nat.le_of_ble_eq_true rfl) rfl (Nat.le_of_ble_eq_true rfl) ⟨Nat.le_refl _, Nat.le_refl _⟩ (am_R.mono wp (fun r h' q => am_R.forget q ⟨rfl, ⟨rfl, ⟨rfl, ⟨rfl, trivial⟩⟩⟩⟩))
theorem bL_law_469 {E : Nat × (Nat → Int32)} {I : Nat → Nat → Int32} {J : Nat → Nat → Int64} {b : Bool} {a3 : Int32} {x0 : Int32} {x1 : Int32} {Q : Option Value → am_H → Prop} (hE : E.1 ≤ 320) (wp : ((x1 = x0 → am_R E mL_law 844 [some (.ref 1002), some (.ref 0), some (.ref 48), some (.int a3)] [] (hp I J b) 64 64 Q) ∧ (¬ x1 = x0 → Q (some (.int 0)) (hp I J b)))) : am_R E mL_law 469 [some (.ref 1002), some (.ref 0), some (.ref 48), some (.int a3)] [.int x0, .int x1] (hp I J b) 64 64 Q := by
  refine am_icmp_eq dL_law_469 (tgt := 844) rfl (fun hc1 => ?_) (fun hc1 => ?_)
  · have wp := wp.1 hc1
    exact am_R.forget wp ⟨rfl, ⟨rfl, ⟨rfl, ⟨rfl, trivial⟩⟩⟩⟩
  · have wp := wp.2 hc1
    refine am_iconst 0 rfl dL_law_472 ?_
    exact am_iret dL_law_473 rfl (by decide) wp
theorem bL_law_474 {E : Nat × (Nat → Int32)} {I : Nat → Nat → Int32} {J : Nat → Nat → Int64} {b : Bool} {a3 : Int32} {Q : Option Value → am_H → Prop} (hE : E.1 ≤ 320) (wp : ∃ j1, (a3 + 1) = nI j1 ∧ j1 < E.1 ∧ am_R E mX9_today 0 [some (.ref 0), some (.int (E.2 j1))] [] (hp I J b) 64 64 (fun r h' => am_R E mL_law 483 [some (.ref 1002), some (.ref 0), some (.ref 48), some (.int a3)] (r.toList ++ []) h' 64 64 Q)) : am_R E mL_law 474 [some (.ref 1002), some (.ref 0), some (.ref 48), some (.int a3)] [] (hp I J b) 64 64 Q := by
  refine am_aload_n rfl rfl dL_law_474 ?_
  refine am_aload_n rfl rfl dL_law_475 ?_
  refine am_iload_n rfl rfl dL_law_476 ?_
  refine am_iconst 1 rfl dL_law_477 ?_
  refine am_iadd dL_law_478 ?_
  obtain ⟨j1, e1, w1, wp⟩ := wp
  refine am_ildXN (j := j1) dL_law_479 e1 w1 hE ?_
  refine am_invV (ci := 7) (As := [.int (E.2 j1)]) (lsZ := [some (.ref 0), some (.int (E.2 j1))]) (st := []) dL_law_480 hX9_today lkL_68 ⟨by decide, by decide⟩ (by decide) rfl (by decide) rfl rfl rfl (Nat.le_of_ble_eq_true rfl) rfl (Nat.le_of_ble_eq_true rfl) ⟨Nat.le_refl _, Nat.le_refl _⟩ (am_R.mono wp (fun r h' q => am_R.forget q ⟨rfl, ⟨rfl, ⟨rfl, ⟨rfl, trivial⟩⟩⟩⟩))
theorem bL_law_483 {E : Nat × (Nat → Int32)} {I : Nat → Nat → Int32} {J : Nat → Nat → Int64} {b : Bool} {a3 : Int32} {x0 : Int32} {Q : Option Value → am_H → Prop} (hE : E.1 ≤ 320) (wp : ∃ j1, (a3 + 1) = nI j1 ∧ j1 < E.1 ∧ am_R E mX10_today 0 [some (.ref 48), some (.int (E.2 j1))] [] (hp I J b) 64 64 (fun r h' => am_R E mL_law 492 [some (.ref 1002), some (.ref 0), some (.ref 48), some (.int a3)] (r.toList ++ [.int x0]) h' 64 64 Q)) : am_R E mL_law 483 [some (.ref 1002), some (.ref 0), some (.ref 48), some (.int a3)] [.int x0] (hp I J b) 64 64 Q := by
  refine am_aload_n rfl rfl dL_law_483 ?_
  refine am_aload_n rfl rfl dL_law_484 ?_
  refine am_iload_n rfl rfl dL_law_485 ?_
  refine am_iconst 1 rfl dL_law_486 ?_
  refine am_iadd dL_law_487 ?_
  obtain ⟨j1, e1, w1, wp⟩ := wp
  refine am_ildXN (j := j1) dL_law_488 e1 w1 hE ?_
  refine am_invV (ci := 8) (As := [.int (E.2 j1)]) (lsZ := [some (.ref 48), some (.int (E.2 j1))]) (st := [.int x0]) dL_law_489 hX10_today lkL_71 ⟨by decide, by decide⟩ (by decide) rfl (by decide) rfl rfl rfl (Nat.le_of_ble_eq_true rfl) rfl (Nat.le_of_ble_eq_true rfl) ⟨Nat.le_refl _, Nat.le_refl _⟩ (am_R.mono wp (fun r h' q => am_R.forget q ⟨rfl, ⟨rfl, ⟨rfl, ⟨rfl, trivial⟩⟩⟩⟩))
theorem bL_law_492 {E : Nat × (Nat → Int32)} {I : Nat → Nat → Int32} {J : Nat → Nat → Int64} {b : Bool} {a3 : Int32} {x0 : Int32} {x1 : Int32} {Q : Option Value → am_H → Prop} (hE : E.1 ≤ 320) (wp : ((x1 = x0 → am_R E mL_law 844 [some (.ref 1002), some (.ref 0), some (.ref 48), some (.int a3)] [] (hp I J b) 64 64 Q) ∧ (¬ x1 = x0 → Q (some (.int 0)) (hp I J b)))) : am_R E mL_law 492 [some (.ref 1002), some (.ref 0), some (.ref 48), some (.int a3)] [.int x0, .int x1] (hp I J b) 64 64 Q := by
  refine am_icmp_eq dL_law_492 (tgt := 844) rfl (fun hc1 => ?_) (fun hc1 => ?_)
  · have wp := wp.1 hc1
    exact am_R.forget wp ⟨rfl, ⟨rfl, ⟨rfl, ⟨rfl, trivial⟩⟩⟩⟩
  · have wp := wp.2 hc1
    refine am_iconst 0 rfl dL_law_495 ?_
    exact am_iret dL_law_496 rfl (by decide) wp
theorem bL_law_497 {E : Nat × (Nat → Int32)} {I : Nat → Nat → Int32} {J : Nat → Nat → Int64} {b : Bool} {a3 : Int32} {Q : Option Value → am_H → Prop} (hE : E.1 ≤ 320) (wp : ∃ j1, (a3 + 1) = nI j1 ∧ j1 < E.1 ∧ am_R E mX9_ends 0 [some (.ref 0), some (.int (E.2 j1))] [] (hp I J b) 64 64 (fun r h' => am_R E mL_law 506 [some (.ref 1002), some (.ref 0), some (.ref 48), some (.int a3)] (r.toList ++ []) h' 64 64 Q)) : am_R E mL_law 497 [some (.ref 1002), some (.ref 0), some (.ref 48), some (.int a3)] [] (hp I J b) 64 64 Q := by
  refine am_aload_n rfl rfl dL_law_497 ?_
  refine am_aload_n rfl rfl dL_law_498 ?_
  refine am_iload_n rfl rfl dL_law_499 ?_
  refine am_iconst 1 rfl dL_law_500 ?_
  refine am_iadd dL_law_501 ?_
  obtain ⟨j1, e1, w1, wp⟩ := wp
  refine am_ildXN (j := j1) dL_law_502 e1 w1 hE ?_
  refine am_invV (ci := 7) (As := [.int (E.2 j1)]) (lsZ := [some (.ref 0), some (.int (E.2 j1))]) (st := []) dL_law_503 hX9_ends lkL_72 ⟨by decide, by decide⟩ (by decide) rfl (by decide) rfl rfl rfl (Nat.le_of_ble_eq_true rfl) rfl (Nat.le_of_ble_eq_true rfl) ⟨Nat.le_refl _, Nat.le_refl _⟩ (am_R.mono wp (fun r h' q => am_R.forget q ⟨rfl, ⟨rfl, ⟨rfl, ⟨rfl, trivial⟩⟩⟩⟩))
theorem bL_law_506 {E : Nat × (Nat → Int32)} {I : Nat → Nat → Int32} {J : Nat → Nat → Int64} {b : Bool} {a3 : Int32} {x0 : Int32} {Q : Option Value → am_H → Prop} (hE : E.1 ≤ 320) (wp : ∃ j1, (a3 + 1) = nI j1 ∧ j1 < E.1 ∧ am_R E mX10_ends 0 [some (.ref 48), some (.int (E.2 j1)), none, none, none, none, none, none, none] [] (hp I J b) 64 64 (fun r h' => am_R E mL_law 515 [some (.ref 1002), some (.ref 0), some (.ref 48), some (.int a3)] (r.toList ++ [.int x0]) h' 64 64 Q)) : am_R E mL_law 506 [some (.ref 1002), some (.ref 0), some (.ref 48), some (.int a3)] [.int x0] (hp I J b) 64 64 Q := by
  refine am_aload_n rfl rfl dL_law_506 ?_
  refine am_aload_n rfl rfl dL_law_507 ?_
  refine am_iload_n rfl rfl dL_law_508 ?_
  refine am_iconst 1 rfl dL_law_509 ?_
  refine am_iadd dL_law_510 ?_
  obtain ⟨j1, e1, w1, wp⟩ := wp
  refine am_ildXN (j := j1) dL_law_511 e1 w1 hE ?_
  refine am_invV (ci := 8) (As := [.int (E.2 j1)]) (lsZ := [some (.ref 48), some (.int (E.2 j1)), none, none, none, none, none, none, none]) (st := [.int x0]) dL_law_512 hX10_ends lkL_75 ⟨by decide, by decide⟩ (by decide) rfl (by decide) rfl rfl rfl (Nat.le_of_ble_eq_true rfl) rfl (Nat.le_of_ble_eq_true rfl) ⟨Nat.le_refl _, Nat.le_refl _⟩ (am_R.mono wp (fun r h' q => am_R.forget q ⟨rfl, ⟨rfl, ⟨rfl, ⟨rfl, trivial⟩⟩⟩⟩))
theorem bL_law_515 {E : Nat × (Nat → Int32)} {I : Nat → Nat → Int32} {J : Nat → Nat → Int64} {b : Bool} {a3 : Int32} {x0 : Int32} {x1 : Int32} {Q : Option Value → am_H → Prop} (hE : E.1 ≤ 320) (wp : ((x1 = x0 → am_R E mL_law 844 [some (.ref 1002), some (.ref 0), some (.ref 48), some (.int a3)] [] (hp I J b) 64 64 Q) ∧ (¬ x1 = x0 → Q (some (.int 0)) (hp I J b)))) : am_R E mL_law 515 [some (.ref 1002), some (.ref 0), some (.ref 48), some (.int a3)] [.int x0, .int x1] (hp I J b) 64 64 Q := by
  refine am_icmp_eq dL_law_515 (tgt := 844) rfl (fun hc1 => ?_) (fun hc1 => ?_)
  · have wp := wp.1 hc1
    exact am_R.forget wp ⟨rfl, ⟨rfl, ⟨rfl, ⟨rfl, trivial⟩⟩⟩⟩
  · have wp := wp.2 hc1
    refine am_iconst 0 rfl dL_law_518 ?_
    exact am_iret dL_law_519 rfl (by decide) wp
theorem bL_law_520 {E : Nat × (Nat → Int32)} {I : Nat → Nat → Int32} {J : Nat → Nat → Int64} {b : Bool} {a3 : Int32} {Q : Option Value → am_H → Prop} (hE : E.1 ≤ 320) (wp : ∃ j1, (a3 + 1) = nI j1 ∧ j1 < E.1 ∧ am_R E mX9_hint 0 [some (.ref 0), some (.int (E.2 j1))] [] (hp I J b) 64 64 (fun r h' => am_R E mL_law 529 [some (.ref 1002), some (.ref 0), some (.ref 48), some (.int a3)] (r.toList ++ []) h' 64 64 Q)) : am_R E mL_law 520 [some (.ref 1002), some (.ref 0), some (.ref 48), some (.int a3)] [] (hp I J b) 64 64 Q := by
  refine am_aload_n rfl rfl dL_law_520 ?_
  refine am_aload_n rfl rfl dL_law_521 ?_
  refine am_iload_n rfl rfl dL_law_522 ?_
  refine am_iconst 1 rfl dL_law_523 ?_
  refine am_iadd dL_law_524 ?_
  obtain ⟨j1, e1, w1, wp⟩ := wp
  refine am_ildXN (j := j1) dL_law_525 e1 w1 hE ?_
  refine am_invV (ci := 7) (As := [.int (E.2 j1)]) (lsZ := [some (.ref 0), some (.int (E.2 j1))]) (st := []) dL_law_526 hX9_hint lkL_76 ⟨by decide, by decide⟩ (by decide) rfl (by decide) rfl rfl rfl (Nat.le_of_ble_eq_true rfl) rfl (Nat.le_of_ble_eq_true rfl) ⟨Nat.le_refl _, Nat.le_refl _⟩ (am_R.mono wp (fun r h' q => am_R.forget q ⟨rfl, ⟨rfl, ⟨rfl, ⟨rfl, trivial⟩⟩⟩⟩))
theorem bL_law_529 {E : Nat × (Nat → Int32)} {I : Nat → Nat → Int32} {J : Nat → Nat → Int64} {b : Bool} {a3 : Int32} {x0 : Int32} {Q : Option Value → am_H → Prop} (hE : E.1 ≤ 320) (wp : ∃ j1, (a3 + 1) = nI j1 ∧ j1 < E.1 ∧ am_R E mX10_hint 0 [some (.ref 48), some (.int (E.2 j1)), none, none, none, none, none] [] (hp I J b) 64 64 (fun r h' => am_R E mL_law 538 [some (.ref 1002), some (.ref 0), some (.ref 48), some (.int a3)] (r.toList ++ [.int x0]) h' 64 64 Q)) : am_R E mL_law 529 [some (.ref 1002), some (.ref 0), some (.ref 48), some (.int a3)] [.int x0] (hp I J b) 64 64 Q := by
  refine am_aload_n rfl rfl dL_law_529 ?_
  refine am_aload_n rfl rfl dL_law_530 ?_
  refine am_iload_n rfl rfl dL_law_531 ?_
  refine am_iconst 1 rfl dL_law_532 ?_
  refine am_iadd dL_law_533 ?_
  obtain ⟨j1, e1, w1, wp⟩ := wp
  refine am_ildXN (j := j1) dL_law_534 e1 w1 hE ?_
  refine am_invV (ci := 8) (As := [.int (E.2 j1)]) (lsZ := [some (.ref 48), some (.int (E.2 j1)), none, none, none, none, none]) (st := [.int x0]) dL_law_535 hX10_hint lkL_79 ⟨by decide, by decide⟩ (by decide) rfl (by decide) rfl rfl rfl (Nat.le_of_ble_eq_true rfl) rfl (Nat.le_of_ble_eq_true rfl) ⟨Nat.le_refl _, Nat.le_refl _⟩ (am_R.mono wp (fun r h' q => am_R.forget q ⟨rfl, ⟨rfl, ⟨rfl, ⟨rfl, trivial⟩⟩⟩⟩))
theorem bL_law_538 {E : Nat × (Nat → Int32)} {I : Nat → Nat → Int32} {J : Nat → Nat → Int64} {b : Bool} {a3 : Int32} {x0 : Int32} {x1 : Int32} {Q : Option Value → am_H → Prop} (hE : E.1 ≤ 320) (wp : ((x1 = x0 → am_R E mL_law 844 [some (.ref 1002), some (.ref 0), some (.ref 48), some (.int a3)] [] (hp I J b) 64 64 Q) ∧ (¬ x1 = x0 → Q (some (.int 0)) (hp I J b)))) : am_R E mL_law 538 [some (.ref 1002), some (.ref 0), some (.ref 48), some (.int a3)] [.int x0, .int x1] (hp I J b) 64 64 Q := by
  refine am_icmp_eq dL_law_538 (tgt := 844) rfl (fun hc1 => ?_) (fun hc1 => ?_)
  · have wp := wp.1 hc1
    exact am_R.forget wp ⟨rfl, ⟨rfl, ⟨rfl, ⟨rfl, trivial⟩⟩⟩⟩
  · have wp := wp.2 hc1
    refine am_iconst 0 rfl dL_law_541 ?_
    exact am_iret dL_law_542 rfl (by decide) wp
theorem bL_law_543 {E : Nat × (Nat → Int32)} {I : Nat → Nat → Int32} {J : Nat → Nat → Int64} {b : Bool} {a3 : Int32} {Q : Option Value → am_H → Prop} (hE : E.1 ≤ 320) (wp : am_R E mX9_lawful 0 [some (.ref 0)] [] (hp I J b) 64 64 (fun r h' => am_R E mL_law 547 [some (.ref 1002), some (.ref 0), some (.ref 48), some (.int a3)] (r.toList ++ []) h' 64 64 Q)) : am_R E mL_law 543 [some (.ref 1002), some (.ref 0), some (.ref 48), some (.int a3)] [] (hp I J b) 64 64 Q := by
  refine am_aload_n rfl rfl dL_law_543 ?_
  refine am_invV (ci := 7) (As := []) (lsZ := [some (.ref 0)]) (st := []) dL_law_544 hX9_lawful lkL_80 ⟨by decide, by decide⟩ (by decide) rfl (by decide) rfl rfl rfl (Nat.le_of_ble_eq_true rfl) rfl (Nat.le_of_ble_eq_true rfl) ⟨Nat.le_refl _, Nat.le_refl _⟩ (am_R.mono wp (fun r h' q => am_R.forget q ⟨rfl, ⟨rfl, ⟨rfl, ⟨rfl, trivial⟩⟩⟩⟩))
theorem bL_law_547 {E : Nat × (Nat → Int32)} {I : Nat → Nat → Int32} {J : Nat → Nat → Int64} {b : Bool} {a3 : Int32} {x0 : Int32} {Q : Option Value → am_H → Prop} (hE : E.1 ≤ 320) (wp : am_R E mX10_lawful 0 [some (.ref 48), none, none] [] (hp I J b) 64 64 (fun r h' => am_R E mL_law 551 [some (.ref 1002), some (.ref 0), some (.ref 48), some (.int a3)] (r.toList ++ [.int x0]) h' 64 64 Q)) : am_R E mL_law 547 [some (.ref 1002), some (.ref 0), some (.ref 48), some (.int a3)] [.int x0] (hp I J b) 64 64 Q := by
  refine am_aload_n rfl rfl dL_law_547 ?_
  refine am_invV (ci := 8) (As := []) (lsZ := [some (.ref 48), none, none]) (st := [.int x0]) dL_law_548 hX10_lawful lkL_83 ⟨by decide, by decide⟩ (by decide) rfl (by decide) rfl rfl rfl (Nat.le_of_ble_eq_true rfl) rfl (Nat.le_of_ble_eq_true rfl) ⟨Nat.le_refl _, Nat.le_refl _⟩ (am_R.mono wp (fun r h' q => am_R.forget q ⟨rfl, ⟨rfl, ⟨rfl, ⟨rfl, trivial⟩⟩⟩⟩))
theorem bL_law_551 {E : Nat × (Nat → Int32)} {I : Nat → Nat → Int32} {J : Nat → Nat → Int64} {b : Bool} {a3 : Int32} {x0 : Int32} {x1 : Int32} {Q : Option Value → am_H → Prop} (hE : E.1 ≤ 320) (wp : ((x1 = x0 → am_R E mL_law 844 [some (.ref 1002), some (.ref 0), some (.ref 48), some (.int a3)] [] (hp I J b) 64 64 Q) ∧ (¬ x1 = x0 → Q (some (.int 0)) (hp I J b)))) : am_R E mL_law 551 [some (.ref 1002), some (.ref 0), some (.ref 48), some (.int a3)] [.int x0, .int x1] (hp I J b) 64 64 Q := by
  refine am_icmp_eq dL_law_551 (tgt := 844) rfl (fun hc1 => ?_) (fun hc1 => ?_)
  · have wp := wp.1 hc1
    exact am_R.forget wp ⟨rfl, ⟨rfl, ⟨rfl, ⟨rfl, trivial⟩⟩⟩⟩
  · have wp := wp.2 hc1
    refine am_iconst 0 rfl dL_law_554 ?_
    exact am_iret dL_law_555 rfl (by decide) wp
theorem bL_law_556 {E : Nat × (Nat → Int32)} {I : Nat → Nat → Int32} {J : Nat → Nat → Int64} {b : Bool} {a3 : Int32} {Q : Option Value → am_H → Prop} (hE : E.1 ≤ 320) (wp : ∃ j1, (a3 + 1) = nI j1 ∧ j1 < E.1 ∧ ∃ j2, (a3 + 2) = nI j2 ∧ j2 < E.1 ∧ ∃ j3, (a3 + 3) = nI j3 ∧ j3 < E.1 ∧ am_R E mX9_mean 0 [some (.ref 0), some (.int (E.2 j1)), some (.int (E.2 j2)), some (.int (E.2 j3)), none] [] (hp I J b) 64 64 (fun r h' => am_R E mL_law 575 [some (.ref 1002), some (.ref 0), some (.ref 48), some (.int a3)] (r.toList ++ []) h' 64 64 Q)) : am_R E mL_law 556 [some (.ref 1002), some (.ref 0), some (.ref 48), some (.int a3)] [] (hp I J b) 64 64 Q := by
  refine am_aload_n rfl rfl dL_law_556 ?_
  refine am_aload_n rfl rfl dL_law_557 ?_
  refine am_iload_n rfl rfl dL_law_558 ?_
  refine am_iconst 1 rfl dL_law_559 ?_
  refine am_iadd dL_law_560 ?_
  obtain ⟨j1, e1, w1, wp⟩ := wp
  refine am_ildXN (j := j1) dL_law_561 e1 w1 hE ?_
  refine am_aload_n rfl rfl dL_law_562 ?_
  refine am_iload_n rfl rfl dL_law_563 ?_
  refine am_iconst 2 rfl dL_law_564 ?_
  refine am_iadd dL_law_565 ?_
  obtain ⟨j2, e2, w2, wp⟩ := wp
  refine am_ildXN (j := j2) dL_law_566 e2 w2 hE ?_
  refine am_aload_n rfl rfl dL_law_567 ?_
  refine am_iload_n rfl rfl dL_law_568 ?_
  refine am_iconst 3 rfl dL_law_569 ?_
  refine am_iadd dL_law_570 ?_
  obtain ⟨j3, e3, w3, wp⟩ := wp
  refine am_ildXN (j := j3) dL_law_571 e3 w3 hE ?_
  refine am_invV (ci := 7) (As := [.int (E.2 j1), .int (E.2 j2), .int (E.2 j3)]) (lsZ := [some (.ref 0), some (.int (E.2 j1)), some (.int (E.2 j2)), some (.int (E.2 j3)), none]) (st := []) dL_law_572 hX9_mean lkL_84 ⟨by decide, by decide⟩ (by decide) rfl (by decide) rfl rfl rfl (Nat.le_of_ble_eq_true rfl) rfl (Nat.le_of_ble_eq_true rfl) ⟨Nat.le_refl _, Nat.le_refl _⟩ (am_R.mono wp (fun r h' q => am_R.forget q ⟨rfl, ⟨rfl, ⟨rfl, ⟨rfl, trivial⟩⟩⟩⟩))
theorem bL_law_575 {E : Nat × (Nat → Int32)} {I : Nat → Nat → Int32} {J : Nat → Nat → Int64} {b : Bool} {a3 : Int32} {x0 : Int32} {Q : Option Value → am_H → Prop} (hE : E.1 ≤ 320) (wp : ∃ j1, (a3 + 1) = nI j1 ∧ j1 < E.1 ∧ ∃ j2, (a3 + 2) = nI j2 ∧ j2 < E.1 ∧ ∃ j3, (a3 + 3) = nI j3 ∧ j3 < E.1 ∧ am_R E mX10_mean 0 [some (.ref 48), some (.int (E.2 j1)), some (.int (E.2 j2)), some (.int (E.2 j3)), none, none, none] [] (hp I J b) 64 64 (fun r h' => am_R E mL_law 594 [some (.ref 1002), some (.ref 0), some (.ref 48), some (.int a3)] (r.toList ++ [.int x0]) h' 64 64 Q)) : am_R E mL_law 575 [some (.ref 1002), some (.ref 0), some (.ref 48), some (.int a3)] [.int x0] (hp I J b) 64 64 Q := by
  refine am_aload_n rfl rfl dL_law_575 ?_
  refine am_aload_n rfl rfl dL_law_576 ?_
  refine am_iload_n rfl rfl dL_law_577 ?_
  refine am_iconst 1 rfl dL_law_578 ?_
  refine am_iadd dL_law_579 ?_
  obtain ⟨j1, e1, w1, wp⟩ := wp
  refine am_ildXN (j := j1) dL_law_580 e1 w1 hE ?_
  refine am_aload_n rfl rfl dL_law_581 ?_
  refine am_iload_n rfl rfl dL_law_582 ?_
  refine am_iconst 2 rfl dL_law_583 ?_
  refine am_iadd dL_law_584 ?_
  obtain ⟨j2, e2, w2, wp⟩ := wp
  refine am_ildXN (j := j2) dL_law_585 e2 w2 hE ?_
  refine am_aload_n rfl rfl dL_law_586 ?_
  refine am_iload_n rfl rfl dL_law_587 ?_
  refine am_iconst 3 rfl dL_law_588 ?_
  refine am_iadd dL_law_589 ?_
  obtain ⟨j3, e3, w3, wp⟩ := wp
  refine am_ildXN (j := j3) dL_law_590 e3 w3 hE ?_
  refine am_invV (ci := 8) (As := [.int (E.2 j1), .int (E.2 j2), .int (E.2 j3)]) (lsZ := [some (.ref 48), some (.int (E.2 j1)), some (.int (E.2 j2)), some (.int (E.2 j3)), none, none, none]) (st := [.int x0]) dL_law_591 hX10_mean lkL_87 ⟨by decide, by decide⟩ (by decide) rfl (by decide) rfl rfl rfl (Nat.le_of_ble_eq_true rfl) rfl (Nat.le_of_ble_eq_true rfl) ⟨Nat.le_refl _, Nat.le_refl _⟩ (am_R.mono wp (fun r h' q => am_R.forget q ⟨rfl, ⟨rfl, ⟨rfl, ⟨rfl, trivial⟩⟩⟩⟩))
theorem bL_law_594 {E : Nat × (Nat → Int32)} {I : Nat → Nat → Int32} {J : Nat → Nat → Int64} {b : Bool} {a3 : Int32} {x0 : Int32} {x1 : Int32} {Q : Option Value → am_H → Prop} (hE : E.1 ≤ 320) (wp : ((x1 = x0 → am_R E mL_law 844 [some (.ref 1002), some (.ref 0), some (.ref 48), some (.int a3)] [] (hp I J b) 64 64 Q) ∧ (¬ x1 = x0 → Q (some (.int 0)) (hp I J b)))) : am_R E mL_law 594 [some (.ref 1002), some (.ref 0), some (.ref 48), some (.int a3)] [.int x0, .int x1] (hp I J b) 64 64 Q := by
  refine am_icmp_eq dL_law_594 (tgt := 844) rfl (fun hc1 => ?_) (fun hc1 => ?_)
  · have wp := wp.1 hc1
    exact am_R.forget wp ⟨rfl, ⟨rfl, ⟨rfl, ⟨rfl, trivial⟩⟩⟩⟩
  · have wp := wp.2 hc1
    refine am_iconst 0 rfl dL_law_597 ?_
    exact am_iret dL_law_598 rfl (by decide) wp
theorem bL_law_599 {E : Nat × (Nat → Int32)} {I : Nat → Nat → Int32} {J : Nat → Nat → Int64} {b : Bool} {a3 : Int32} {Q : Option Value → am_H → Prop} (hE : E.1 ≤ 320) (wp : ∃ j1, (a3 + 1) = nI j1 ∧ j1 < E.1 ∧ ∃ j2, (a3 + 2) = nI j2 ∧ j2 < E.1 ∧ ∃ j3, (a3 + 3) = nI j3 ∧ j3 < E.1 ∧ ∃ j4, (a3 + 4) = nI j4 ∧ j4 < E.1 ∧ am_R E mX9_odds 0 [some (.ref 0), some (.int (E.2 j1)), some (.int (E.2 j2)), some (.int (E.2 j3)), some (.int (E.2 j4)), none] [] (hp I J b) 64 64 (fun r h' => am_R E mL_law 623 [some (.ref 1002), some (.ref 0), some (.ref 48), some (.int a3)] (r.toList ++ []) h' 64 64 Q)) : am_R E mL_law 599 [some (.ref 1002), some (.ref 0), some (.ref 48), some (.int a3)] [] (hp I J b) 64 64 Q := by
  refine am_aload_n rfl rfl dL_law_599 ?_
  refine am_aload_n rfl rfl dL_law_600 ?_
  refine am_iload_n rfl rfl dL_law_601 ?_
  refine am_iconst 1 rfl dL_law_602 ?_
  refine am_iadd dL_law_603 ?_
  obtain ⟨j1, e1, w1, wp⟩ := wp
  refine am_ildXN (j := j1) dL_law_604 e1 w1 hE ?_
  refine am_aload_n rfl rfl dL_law_605 ?_
  refine am_iload_n rfl rfl dL_law_606 ?_
  refine am_iconst 2 rfl dL_law_607 ?_
  refine am_iadd dL_law_608 ?_
  obtain ⟨j2, e2, w2, wp⟩ := wp
  refine am_ildXN (j := j2) dL_law_609 e2 w2 hE ?_
  refine am_aload_n rfl rfl dL_law_610 ?_
  refine am_iload_n rfl rfl dL_law_611 ?_
  refine am_iconst 3 rfl dL_law_612 ?_
  refine am_iadd dL_law_613 ?_
  obtain ⟨j3, e3, w3, wp⟩ := wp
  refine am_ildXN (j := j3) dL_law_614 e3 w3 hE ?_
  refine am_aload_n rfl rfl dL_law_615 ?_
  refine am_iload_n rfl rfl dL_law_616 ?_
  refine am_iconst 4 rfl dL_law_617 ?_
  refine am_iadd dL_law_618 ?_
  obtain ⟨j4, e4, w4, wp⟩ := wp
  refine am_ildXN (j := j4) dL_law_619 e4 w4 hE ?_
  refine am_invV (ci := 7) (As := [.int (E.2 j1), .int (E.2 j2), .int (E.2 j3), .int (E.2 j4)]) (lsZ := [some (.ref 0), some (.int (E.2 j1)), some (.int (E.2 j2)), some (.int (E.2 j3)), some (.int (E.2 j4)), none]) (st := []) dL_law_620 hX9_odds lkL_88 ⟨by decide, by decide⟩ (by decide) rfl (by decide) rfl rfl rfl (Nat.le_of_ble_eq_true rfl) rfl (Nat.le_of_ble_eq_true rfl) ⟨Nat.le_refl _, Nat.le_refl _⟩ (am_R.mono wp (fun r h' q => am_R.forget q ⟨rfl, ⟨rfl, ⟨rfl, ⟨rfl, trivial⟩⟩⟩⟩))
theorem bL_law_623 {E : Nat × (Nat → Int32)} {I : Nat → Nat → Int32} {J : Nat → Nat → Int64} {b : Bool} {a3 : Int32} {x0 : Int32} {Q : Option Value → am_H → Prop} (hE : E.1 ≤ 320) (wp : ∃ j1, (a3 + 1) = nI j1 ∧ j1 < E.1 ∧ ∃ j2, (a3 + 2) = nI j2 ∧ j2 < E.1 ∧ ∃ j3, (a3 + 3) = nI j3 ∧ j3 < E.1 ∧ ∃ j4, (a3 + 4) = nI j4 ∧ j4 < E.1 ∧ am_R E mX10_odds 0 [some (.ref 48), some (.int (E.2 j1)), some (.int (E.2 j2)), some (.int (E.2 j3)), some (.int (E.2 j4)), none, none, none] [] (hp I J b) 64 64 (fun r h' => am_R E mL_law 647 [some (.ref 1002), some (.ref 0), some (.ref 48), some (.int a3)] (r.toList ++ [.int x0]) h' 64 64 Q)) : am_R E mL_law 623 [some (.ref 1002), some (.ref 0), some (.ref 48), some (.int a3)] [.int x0] (hp I J b) 64 64 Q := by
  refine am_aload_n rfl rfl dL_law_623 ?_
  refine am_aload_n rfl rfl dL_law_624 ?_
  refine am_iload_n rfl rfl dL_law_625 ?_
  refine am_iconst 1 rfl dL_law_626 ?_
  refine am_iadd dL_law_627 ?_
  obtain ⟨j1, e1, w1, wp⟩ := wp
  refine am_ildXN (j := j1) dL_law_628 e1 w1 hE ?_
  refine am_aload_n rfl rfl dL_law_629 ?_
  refine am_iload_n rfl rfl dL_law_630 ?_
  refine am_iconst 2 rfl dL_law_631 ?_
  refine am_iadd dL_law_632 ?_
  obtain ⟨j2, e2, w2, wp⟩ := wp
  refine am_ildXN (j := j2) dL_law_633 e2 w2 hE ?_
  refine am_aload_n rfl rfl dL_law_634 ?_
  refine am_iload_n rfl rfl dL_law_635 ?_
  refine am_iconst 3 rfl dL_law_636 ?_
  refine am_iadd dL_law_637 ?_
  obtain ⟨j3, e3, w3, wp⟩ := wp
  refine am_ildXN (j := j3) dL_law_638 e3 w3 hE ?_
  refine am_aload_n rfl rfl dL_law_639 ?_
  refine am_iload_n rfl rfl dL_law_640 ?_
  refine am_iconst 4 rfl dL_law_641 ?_
  refine am_iadd dL_law_642 ?_
  obtain ⟨j4, e4, w4, wp⟩ := wp
  refine am_ildXN (j := j4) dL_law_643 e4 w4 hE ?_
  refine am_invV (ci := 8) (As := [.int (E.2 j1), .int (E.2 j2), .int (E.2 j3), .int (E.2 j4)]) (lsZ := [some (.ref 48), some (.int (E.2 j1)), some (.int (E.2 j2)), some (.int (E.2 j3)), some (.int (E.2 j4)), none, none, none]) (st := [.int x0]) dL_law_644 hX10_odds lkL_92 ⟨by decide, by decide⟩ (by decide) rfl (by decide) rfl rfl rfl (Nat.le_of_ble_eq_true rfl) rfl (Nat.le_of_ble_eq_true rfl) ⟨Nat.le_refl _, Nat.le_refl _⟩ (am_R.mono wp (fun r h' q => am_R.forget q ⟨rfl, ⟨rfl, ⟨rfl, ⟨rfl, trivial⟩⟩⟩⟩))
theorem bL_law_647 {E : Nat × (Nat → Int32)} {I : Nat → Nat → Int32} {J : Nat → Nat → Int64} {b : Bool} {a3 : Int32} {x0 : Int32} {x1 : Int32} {Q : Option Value → am_H → Prop} (hE : E.1 ≤ 320) (wp : ((x1 = x0 → am_R E mL_law 844 [some (.ref 1002), some (.ref 0), some (.ref 48), some (.int a3)] [] (hp I J b) 64 64 Q) ∧ (¬ x1 = x0 → Q (some (.int 0)) (hp I J b)))) : am_R E mL_law 647 [some (.ref 1002), some (.ref 0), some (.ref 48), some (.int a3)] [.int x0, .int x1] (hp I J b) 64 64 Q := by
  refine am_icmp_eq dL_law_647 (tgt := 844) rfl (fun hc1 => ?_) (fun hc1 => ?_)
  · have wp := wp.1 hc1
    exact am_R.forget wp ⟨rfl, ⟨rfl, ⟨rfl, ⟨rfl, trivial⟩⟩⟩⟩
  · have wp := wp.2 hc1
    refine am_iconst 0 rfl dL_law_650 ?_
    exact am_iret dL_law_651 rfl (by decide) wp
theorem bL_law_652 {E : Nat × (Nat → Int32)} {I : Nat → Nat → Int32} {J : Nat → Nat → Int64} {b : Bool} {a3 : Int32} {Q : Option Value → am_H → Prop} (hE : E.1 ≤ 320) (wp : ∃ j1, (a3 + 1) = nI j1 ∧ j1 < E.1 ∧ am_R E mX9_week 0 [some (.ref 0), some (.int (E.2 j1))] [] (hp I J b) 64 64 (fun r h' => am_R E mL_law 661 [some (.ref 1002), some (.ref 0), some (.ref 48), some (.int a3)] (r.toList ++ []) h' 64 64 Q)) : am_R E mL_law 652 [some (.ref 1002), some (.ref 0), some (.ref 48), some (.int a3)] [] (hp I J b) 64 64 Q := by
  refine am_aload_n rfl rfl dL_law_652 ?_
  refine am_aload_n rfl rfl dL_law_653 ?_
  refine am_iload_n rfl rfl dL_law_654 ?_
  refine am_iconst 1 rfl dL_law_655 ?_
  refine am_iadd dL_law_656 ?_
  obtain ⟨j1, e1, w1, wp⟩ := wp
  refine am_ildXN (j := j1) dL_law_657 e1 w1 hE ?_
  refine am_invV (ci := 7) (As := [.int (E.2 j1)]) (lsZ := [some (.ref 0), some (.int (E.2 j1))]) (st := []) dL_law_658 hX9_week lkL_93 ⟨by decide, by decide⟩ (by decide) rfl (by decide) rfl rfl rfl (Nat.le_of_ble_eq_true rfl) rfl (Nat.le_of_ble_eq_true rfl) ⟨Nat.le_refl _, Nat.le_refl _⟩ (am_R.mono wp (fun r h' q => am_R.forget q ⟨rfl, ⟨rfl, ⟨rfl, ⟨rfl, trivial⟩⟩⟩⟩))
theorem bL_law_661 {E : Nat × (Nat → Int32)} {I : Nat → Nat → Int32} {J : Nat → Nat → Int64} {b : Bool} {a3 : Int32} {x0 : Int32} {Q : Option Value → am_H → Prop} (hE : E.1 ≤ 320) (wp : ∃ j1, (a3 + 1) = nI j1 ∧ j1 < E.1 ∧ am_R E mX10_week 0 [some (.ref 48), some (.int (E.2 j1)), none, none, none, none, none] [] (hp I J b) 64 64 (fun r h' => am_R E mL_law 670 [some (.ref 1002), some (.ref 0), some (.ref 48), some (.int a3)] (r.toList ++ [.int x0]) h' 64 64 Q)) : am_R E mL_law 661 [some (.ref 1002), some (.ref 0), some (.ref 48), some (.int a3)] [.int x0] (hp I J b) 64 64 Q := by
  refine am_aload_n rfl rfl dL_law_661 ?_
  refine am_aload_n rfl rfl dL_law_662 ?_
  refine am_iload_n rfl rfl dL_law_663 ?_
  refine am_iconst 1 rfl dL_law_664 ?_
  refine am_iadd dL_law_665 ?_
  obtain ⟨j1, e1, w1, wp⟩ := wp
  refine am_ildXN (j := j1) dL_law_666 e1 w1 hE ?_
  refine am_invV (ci := 8) (As := [.int (E.2 j1)]) (lsZ := [some (.ref 48), some (.int (E.2 j1)), none, none, none, none, none]) (st := [.int x0]) dL_law_667 hX10_week lkL_96 ⟨by decide, by decide⟩ (by decide) rfl (by decide) rfl rfl rfl (Nat.le_of_ble_eq_true rfl) rfl (Nat.le_of_ble_eq_true rfl) ⟨Nat.le_refl _, Nat.le_refl _⟩ (am_R.mono wp (fun r h' q => am_R.forget q ⟨rfl, ⟨rfl, ⟨rfl, ⟨rfl, trivial⟩⟩⟩⟩))
theorem bL_law_670 {E : Nat × (Nat → Int32)} {I : Nat → Nat → Int32} {J : Nat → Nat → Int64} {b : Bool} {a3 : Int32} {x0 : Int32} {x1 : Int32} {Q : Option Value → am_H → Prop} (hE : E.1 ≤ 320) (wp : ((x1 = x0 → am_R E mL_law 844 [some (.ref 1002), some (.ref 0), some (.ref 48), some (.int a3)] [] (hp I J b) 64 64 Q) ∧ (¬ x1 = x0 → Q (some (.int 0)) (hp I J b)))) : am_R E mL_law 670 [some (.ref 1002), some (.ref 0), some (.ref 48), some (.int a3)] [.int x0, .int x1] (hp I J b) 64 64 Q := by
  refine am_icmp_eq dL_law_670 (tgt := 844) rfl (fun hc1 => ?_) (fun hc1 => ?_)
  · have wp := wp.1 hc1
    exact am_R.forget wp ⟨rfl, ⟨rfl, ⟨rfl, ⟨rfl, trivial⟩⟩⟩⟩
  · have wp := wp.2 hc1
    refine am_iconst 0 rfl dL_law_673 ?_
    exact am_iret dL_law_674 rfl (by decide) wp
theorem bL_law_675 {E : Nat × (Nat → Int32)} {I : Nat → Nat → Int32} {J : Nat → Nat → Int64} {b : Bool} {a3 : Int32} {Q : Option Value → am_H → Prop} (hE : E.1 ≤ 320) (wp : ∃ j1, (a3 + 1) = nI j1 ∧ j1 < E.1 ∧ ∃ j2, (a3 + 2) = nI j2 ∧ j2 < E.1 ∧ am_R E mX9_often 0 [some (.ref 0), some (.int (E.2 j1)), some (.int (E.2 j2))] [] (hp I J b) 64 64 (fun r h' => am_R E mL_law 689 [some (.ref 1002), some (.ref 0), some (.ref 48), some (.int a3)] (r.toList ++ []) h' 64 64 Q)) : am_R E mL_law 675 [some (.ref 1002), some (.ref 0), some (.ref 48), some (.int a3)] [] (hp I J b) 64 64 Q := by
  refine am_aload_n rfl rfl dL_law_675 ?_
  refine am_aload_n rfl rfl dL_law_676 ?_
  refine am_iload_n rfl rfl dL_law_677 ?_
  refine am_iconst 1 rfl dL_law_678 ?_
  refine am_iadd dL_law_679 ?_
  obtain ⟨j1, e1, w1, wp⟩ := wp
  refine am_ildXN (j := j1) dL_law_680 e1 w1 hE ?_
  refine am_aload_n rfl rfl dL_law_681 ?_
  refine am_iload_n rfl rfl dL_law_682 ?_
  refine am_iconst 2 rfl dL_law_683 ?_
  refine am_iadd dL_law_684 ?_
  obtain ⟨j2, e2, w2, wp⟩ := wp
  refine am_ildXN (j := j2) dL_law_685 e2 w2 hE ?_
  refine am_invV (ci := 7) (As := [.int (E.2 j1), .int (E.2 j2)]) (lsZ := [some (.ref 0), some (.int (E.2 j1)), some (.int (E.2 j2))]) (st := []) dL_law_686 hX9_often lkL_97 ⟨by decide, by decide⟩ (by decide) rfl (by decide) rfl rfl rfl (Nat.le_of_ble_eq_true rfl) rfl (Nat.le_of_ble_eq_true rfl) ⟨Nat.le_refl _, Nat.le_refl _⟩ (am_R.mono wp (fun r h' q => am_R.forget q ⟨rfl, ⟨rfl, ⟨rfl, ⟨rfl, trivial⟩⟩⟩⟩))
theorem bL_law_689 {E : Nat × (Nat → Int32)} {I : Nat → Nat → Int32} {J : Nat → Nat → Int64} {b : Bool} {a3 : Int32} {x0 : Int32} {Q : Option Value → am_H → Prop} (hE : E.1 ≤ 320) (wp : ∃ j1, (a3 + 1) = nI j1 ∧ j1 < E.1 ∧ ∃ j2, (a3 + 2) = nI j2 ∧ j2 < E.1 ∧ am_R E mX10_often 0 [some (.ref 48), some (.int (E.2 j1)), some (.int (E.2 j2))] [] (hp I J b) 64 64 (fun r h' => am_R E mL_law 703 [some (.ref 1002), some (.ref 0), some (.ref 48), some (.int a3)] (r.toList ++ [.int x0]) h' 64 64 Q)) : am_R E mL_law 689 [some (.ref 1002), some (.ref 0), some (.ref 48), some (.int a3)] [.int x0] (hp I J b) 64 64 Q := by
  refine am_aload_n rfl rfl dL_law_689 ?_
  refine am_aload_n rfl rfl dL_law_690 ?_
  refine am_iload_n rfl rfl dL_law_691 ?_
  refine am_iconst 1 rfl dL_law_692 ?_
  refine am_iadd dL_law_693 ?_
  obtain ⟨j1, e1, w1, wp⟩ := wp
  refine am_ildXN (j := j1) dL_law_694 e1 w1 hE ?_
  refine am_aload_n rfl rfl dL_law_695 ?_
  refine am_iload_n rfl rfl dL_law_696 ?_
  refine am_iconst 2 rfl dL_law_697 ?_
  refine am_iadd dL_law_698 ?_
  obtain ⟨j2, e2, w2, wp⟩ := wp
  refine am_ildXN (j := j2) dL_law_699 e2 w2 hE ?_
  refine am_invV (ci := 8) (As := [.int (E.2 j1), .int (E.2 j2)]) (lsZ := [some (.ref 48), some (.int (E.2 j1)), some (.int (E.2 j2))]) (st := [.int x0]) dL_law_700 hX10_often lkL_100 ⟨by decide, by decide⟩ (by decide) rfl (by decide) rfl rfl rfl (Nat.le_of_ble_eq_true rfl) rfl (Nat.le_of_ble_eq_true rfl) ⟨Nat.le_refl _, Nat.le_refl _⟩ (am_R.mono wp (fun r h' q => am_R.forget q ⟨rfl, ⟨rfl, ⟨rfl, ⟨rfl, trivial⟩⟩⟩⟩))
theorem bL_law_703 {E : Nat × (Nat → Int32)} {I : Nat → Nat → Int32} {J : Nat → Nat → Int64} {b : Bool} {a3 : Int32} {x0 : Int32} {x1 : Int32} {Q : Option Value → am_H → Prop} (hE : E.1 ≤ 320) (wp : ((x1 = x0 → am_R E mL_law 844 [some (.ref 1002), some (.ref 0), some (.ref 48), some (.int a3)] [] (hp I J b) 64 64 Q) ∧ (¬ x1 = x0 → Q (some (.int 0)) (hp I J b)))) : am_R E mL_law 703 [some (.ref 1002), some (.ref 0), some (.ref 48), some (.int a3)] [.int x0, .int x1] (hp I J b) 64 64 Q := by
  refine am_icmp_eq dL_law_703 (tgt := 844) rfl (fun hc1 => ?_) (fun hc1 => ?_)
  · have wp := wp.1 hc1
    exact am_R.forget wp ⟨rfl, ⟨rfl, ⟨rfl, ⟨rfl, trivial⟩⟩⟩⟩
  · have wp := wp.2 hc1
    refine am_iconst 0 rfl dL_law_706 ?_
    exact am_iret dL_law_707 rfl (by decide) wp
theorem bL_law_708 {E : Nat × (Nat → Int32)} {I : Nat → Nat → Int32} {J : Nat → Nat → Int64} {b : Bool} {a3 : Int32} {Q : Option Value → am_H → Prop} (hE : E.1 ≤ 320) (wp : ∃ j1, (a3 + 1) = nI j1 ∧ j1 < E.1 ∧ ∃ j2, (a3 + 2) = nI j2 ∧ j2 < E.1 ∧ ∃ j3, (a3 + 3) = nI j3 ∧ j3 < E.1 ∧ am_R E mX9_tail 0 [some (.ref 0), some (.int (E.2 j1)), some (.int (E.2 j2)), some (.int (E.2 j3)), none, none] [] (hp I J b) 64 64 (fun r h' => am_R E mL_law 727 [some (.ref 1002), some (.ref 0), some (.ref 48), some (.int a3)] (r.toList ++ []) h' 64 64 Q)) : am_R E mL_law 708 [some (.ref 1002), some (.ref 0), some (.ref 48), some (.int a3)] [] (hp I J b) 64 64 Q := by
  refine am_aload_n rfl rfl dL_law_708 ?_
  refine am_aload_n rfl rfl dL_law_709 ?_
  refine am_iload_n rfl rfl dL_law_710 ?_
  refine am_iconst 1 rfl dL_law_711 ?_
  refine am_iadd dL_law_712 ?_
  obtain ⟨j1, e1, w1, wp⟩ := wp
  refine am_ildXN (j := j1) dL_law_713 e1 w1 hE ?_
  refine am_aload_n rfl rfl dL_law_714 ?_
  refine am_iload_n rfl rfl dL_law_715 ?_
  refine am_iconst 2 rfl dL_law_716 ?_
  refine am_iadd dL_law_717 ?_
  obtain ⟨j2, e2, w2, wp⟩ := wp
  refine am_ildXN (j := j2) dL_law_718 e2 w2 hE ?_
  refine am_aload_n rfl rfl dL_law_719 ?_
  refine am_iload_n rfl rfl dL_law_720 ?_
  refine am_iconst 3 rfl dL_law_721 ?_
  refine am_iadd dL_law_722 ?_
  obtain ⟨j3, e3, w3, wp⟩ := wp
  refine am_ildXN (j := j3) dL_law_723 e3 w3 hE ?_
  refine am_invV (ci := 7) (As := [.int (E.2 j1), .int (E.2 j2), .int (E.2 j3)]) (lsZ := [some (.ref 0), some (.int (E.2 j1)), some (.int (E.2 j2)), some (.int (E.2 j3)), none, none]) (st := []) dL_law_724 hX9_tail lkL_101 ⟨by decide, by decide⟩ (by decide) rfl (by decide) rfl rfl rfl (Nat.le_of_ble_eq_true rfl) rfl (Nat.le_of_ble_eq_true rfl) ⟨Nat.le_refl _, Nat.le_refl _⟩ (am_R.mono wp (fun r h' q => am_R.forget q ⟨rfl, ⟨rfl, ⟨rfl, ⟨rfl, trivial⟩⟩⟩⟩))
theorem bL_law_727 {E : Nat × (Nat → Int32)} {I : Nat → Nat → Int32} {J : Nat → Nat → Int64} {b : Bool} {a3 : Int32} {x0 : Int64} {Q : Option Value → am_H → Prop} (hE : E.1 ≤ 320) (wp : ∃ j1, (a3 + 1) = nI j1 ∧ j1 < E.1 ∧ ∃ j2, (a3 + 2) = nI j2 ∧ j2 < E.1 ∧ ∃ j3, (a3 + 3) = nI j3 ∧ j3 < E.1 ∧ am_R E mX10_tail 0 [some (.ref 48), some (.int (E.2 j1)), some (.int (E.2 j2)), some (.int (E.2 j3)), none, none, none, none, none, none, none, none] [] (hp I J b) 64 64 (fun r h' => am_R E mL_law 746 [some (.ref 1002), some (.ref 0), some (.ref 48), some (.int a3)] (r.toList ++ [.long x0]) h' 64 64 Q)) : am_R E mL_law 727 [some (.ref 1002), some (.ref 0), some (.ref 48), some (.int a3)] [.long x0] (hp I J b) 64 64 Q := by
  refine am_aload_n rfl rfl dL_law_727 ?_
  refine am_aload_n rfl rfl dL_law_728 ?_
  refine am_iload_n rfl rfl dL_law_729 ?_
  refine am_iconst 1 rfl dL_law_730 ?_
  refine am_iadd dL_law_731 ?_
  obtain ⟨j1, e1, w1, wp⟩ := wp
  refine am_ildXN (j := j1) dL_law_732 e1 w1 hE ?_
  refine am_aload_n rfl rfl dL_law_733 ?_
  refine am_iload_n rfl rfl dL_law_734 ?_
  refine am_iconst 2 rfl dL_law_735 ?_
  refine am_iadd dL_law_736 ?_
  obtain ⟨j2, e2, w2, wp⟩ := wp
  refine am_ildXN (j := j2) dL_law_737 e2 w2 hE ?_
  refine am_aload_n rfl rfl dL_law_738 ?_
  refine am_iload_n rfl rfl dL_law_739 ?_
  refine am_iconst 3 rfl dL_law_740 ?_
  refine am_iadd dL_law_741 ?_
  obtain ⟨j3, e3, w3, wp⟩ := wp
  refine am_ildXN (j := j3) dL_law_742 e3 w3 hE ?_
  refine am_invV (ci := 8) (As := [.int (E.2 j1), .int (E.2 j2), .int (E.2 j3)]) (lsZ := [some (.ref 48), some (.int (E.2 j1)), some (.int (E.2 j2)), some (.int (E.2 j3)), none, none, none, none, none, none, none, none]) (st := [.long x0]) dL_law_743 hX10_tail lkL_105 ⟨by decide, by decide⟩ (by decide) rfl (by decide) rfl rfl rfl (Nat.le_of_ble_eq_true rfl) rfl (Nat.le_of_ble_eq_true rfl) ⟨Nat.le_refl _, Nat.le_refl _⟩ (am_R.mono wp (fun r h' q => am_R.forget q ⟨rfl, ⟨rfl, ⟨rfl, ⟨rfl, trivial⟩⟩⟩⟩))
theorem bL_law_746 {E : Nat × (Nat → Int32)} {I : Nat → Nat → Int32} {J : Nat → Nat → Int64} {b : Bool} {a3 : Int32} {x0 : Int64} {x1 : Int64} {Q : Option Value → am_H → Prop} (hE : E.1 ≤ 320) (wp : (((lg_cmp x1 x0) = 0 → am_R E mL_law 844 [some (.ref 1002), some (.ref 0), some (.ref 48), some (.int a3)] [] (hp I J b) 64 64 Q) ∧ (¬ (lg_cmp x1 x0) = 0 → Q (some (.int 0)) (hp I J b)))) : am_R E mL_law 746 [some (.ref 1002), some (.ref 0), some (.ref 48), some (.int a3)] [.long x0, .long x1] (hp I J b) 64 64 Q := by
  refine am_lcmp dL_law_746 ?_
  refine am_if_eq dL_law_747 (tgt := 844) rfl (fun hc1 => ?_) (fun hc1 => ?_)
  · have wp := wp.1 hc1
    exact am_R.forget wp ⟨rfl, ⟨rfl, ⟨rfl, ⟨rfl, trivial⟩⟩⟩⟩
  · have wp := wp.2 hc1
    refine am_iconst 0 rfl dL_law_750 ?_
    exact am_iret dL_law_751 rfl (by decide) wp
theorem bL_law_752 {E : Nat × (Nat → Int32)} {I : Nat → Nat → Int32} {J : Nat → Nat → Int64} {b : Bool} {a3 : Int32} {Q : Option Value → am_H → Prop} (hE : E.1 ≤ 320) (wp : ∃ j1, (a3 + 1) = nI j1 ∧ j1 < E.1 ∧ am_R E mX9_named 0 [some (.ref 0), some (.int (E.2 j1)), none, none, none, none, none, none] [] (hp I J b) 64 64 (fun r h' => am_R E mL_law 761 [some (.ref 1002), some (.ref 0), some (.ref 48), some (.int a3)] (r.toList ++ []) h' 64 64 Q)) : am_R E mL_law 752 [some (.ref 1002), some (.ref 0), some (.ref 48), some (.int a3)] [] (hp I J b) 64 64 Q := by
  refine am_aload_n rfl rfl dL_law_752 ?_
  refine am_aload_n rfl rfl dL_law_753 ?_
  refine am_iload_n rfl rfl dL_law_754 ?_
  refine am_iconst 1 rfl dL_law_755 ?_
  refine am_iadd dL_law_756 ?_
  obtain ⟨j1, e1, w1, wp⟩ := wp
  refine am_ildXN (j := j1) dL_law_757 e1 w1 hE ?_
  refine am_invV (ci := 7) (As := [.int (E.2 j1)]) (lsZ := [some (.ref 0), some (.int (E.2 j1)), none, none, none, none, none, none]) (st := []) dL_law_758 hX9_named lkL_106 ⟨by decide, by decide⟩ (by decide) rfl (by decide) rfl rfl rfl (Nat.le_of_ble_eq_true rfl) rfl (Nat.le_of_ble_eq_true rfl) ⟨Nat.le_refl _, Nat.le_refl _⟩ (am_R.mono wp (fun r h' q => am_R.forget q ⟨rfl, ⟨rfl, ⟨rfl, ⟨rfl, trivial⟩⟩⟩⟩))
theorem bL_law_761 {E : Nat × (Nat → Int32)} {I : Nat → Nat → Int32} {J : Nat → Nat → Int64} {b : Bool} {a3 : Int32} {x0 : Int32} {Q : Option Value → am_H → Prop} (hE : E.1 ≤ 320) (wp : ∃ j1, (a3 + 1) = nI j1 ∧ j1 < E.1 ∧ am_R E mX10_named 0 [some (.ref 48), some (.int (E.2 j1)), none, none] [] (hp I J b) 64 64 (fun r h' => am_R E mL_law 770 [some (.ref 1002), some (.ref 0), some (.ref 48), some (.int a3)] (r.toList ++ [.int x0]) h' 64 64 Q)) : am_R E mL_law 761 [some (.ref 1002), some (.ref 0), some (.ref 48), some (.int a3)] [.int x0] (hp I J b) 64 64 Q := by
  refine am_aload_n rfl rfl dL_law_761 ?_
  refine am_aload_n rfl rfl dL_law_762 ?_
  refine am_iload_n rfl rfl dL_law_763 ?_
  refine am_iconst 1 rfl dL_law_764 ?_
  refine am_iadd dL_law_765 ?_
  obtain ⟨j1, e1, w1, wp⟩ := wp
  refine am_ildXN (j := j1) dL_law_766 e1 w1 hE ?_
  refine am_invV (ci := 8) (As := [.int (E.2 j1)]) (lsZ := [some (.ref 48), some (.int (E.2 j1)), none, none]) (st := [.int x0]) dL_law_767 hX10_named lkL_109 ⟨by decide, by decide⟩ (by decide) rfl (by decide) rfl rfl rfl (Nat.le_of_ble_eq_true rfl) rfl (Nat.le_of_ble_eq_true rfl) ⟨Nat.le_refl _, Nat.le_refl _⟩ (am_R.mono wp (fun r h' q => am_R.forget q ⟨rfl, ⟨rfl, ⟨rfl, ⟨rfl, trivial⟩⟩⟩⟩))
theorem bL_law_770 {E : Nat × (Nat → Int32)} {I : Nat → Nat → Int32} {J : Nat → Nat → Int64} {b : Bool} {a3 : Int32} {x0 : Int32} {x1 : Int32} {Q : Option Value → am_H → Prop} (hE : E.1 ≤ 320) (wp : ((x1 = x0 → am_R E mL_law 844 [some (.ref 1002), some (.ref 0), some (.ref 48), some (.int a3)] [] (hp I J b) 64 64 Q) ∧ (¬ x1 = x0 → Q (some (.int 0)) (hp I J b)))) : am_R E mL_law 770 [some (.ref 1002), some (.ref 0), some (.ref 48), some (.int a3)] [.int x0, .int x1] (hp I J b) 64 64 Q := by
  refine am_icmp_eq dL_law_770 (tgt := 844) rfl (fun hc1 => ?_) (fun hc1 => ?_)
  · have wp := wp.1 hc1
    exact am_R.forget wp ⟨rfl, ⟨rfl, ⟨rfl, ⟨rfl, trivial⟩⟩⟩⟩
  · have wp := wp.2 hc1
    refine am_iconst 0 rfl dL_law_773 ?_
    exact am_iret dL_law_774 rfl (by decide) wp
theorem bL_law_775 {E : Nat × (Nat → Int32)} {I : Nat → Nat → Int32} {J : Nat → Nat → Int64} {b : Bool} {a3 : Int32} {Q : Option Value → am_H → Prop} (hE : E.1 ≤ 320) (wp : ∃ j1, (a3 + 1) = nI j1 ∧ j1 < E.1 ∧ am_R E mX9_keep 0 [some (.ref 0), some (.int (E.2 j1))] [] (hp I J b) 64 64 (fun r h' => am_R E mL_law 784 [some (.ref 1002), some (.ref 0), some (.ref 48), some (.int a3)] (r.toList ++ []) h' 64 64 Q)) : am_R E mL_law 775 [some (.ref 1002), some (.ref 0), some (.ref 48), some (.int a3)] [] (hp I J b) 64 64 Q := by
  refine am_aload_n rfl rfl dL_law_775 ?_
  refine am_aload_n rfl rfl dL_law_776 ?_
  refine am_iload_n rfl rfl dL_law_777 ?_
  refine am_iconst 1 rfl dL_law_778 ?_
  refine am_iadd dL_law_779 ?_
  obtain ⟨j1, e1, w1, wp⟩ := wp
  refine am_ildXN (j := j1) dL_law_780 e1 w1 hE ?_
  refine am_invV (ci := 7) (As := [.int (E.2 j1)]) (lsZ := [some (.ref 0), some (.int (E.2 j1))]) (st := []) dL_law_781 hX9_keep lkL_110 ⟨by decide, by decide⟩ (by decide) rfl (by decide) rfl rfl rfl (Nat.le_of_ble_eq_true rfl) rfl (Nat.le_of_ble_eq_true rfl) ⟨Nat.le_refl _, Nat.le_refl _⟩ (am_R.mono wp (fun r h' q => am_R.forget q ⟨rfl, ⟨rfl, ⟨rfl, ⟨rfl, trivial⟩⟩⟩⟩))
theorem bL_law_784 {E : Nat × (Nat → Int32)} {I : Nat → Nat → Int32} {J : Nat → Nat → Int64} {b : Bool} {a3 : Int32} {x0 : Int32} {Q : Option Value → am_H → Prop} (hE : E.1 ≤ 320) (wp : ∃ j1, (a3 + 1) = nI j1 ∧ j1 < E.1 ∧ am_R E mX10_keep 0 [some (.ref 48), some (.int (E.2 j1))] [] (hp I J b) 64 64 (fun r h' => am_R E mL_law 793 [some (.ref 1002), some (.ref 0), some (.ref 48), some (.int a3)] (r.toList ++ [.int x0]) h' 64 64 Q)) : am_R E mL_law 784 [some (.ref 1002), some (.ref 0), some (.ref 48), some (.int a3)] [.int x0] (hp I J b) 64 64 Q := by
  refine am_aload_n rfl rfl dL_law_784 ?_
  refine am_aload_n rfl rfl dL_law_785 ?_
  refine am_iload_n rfl rfl dL_law_786 ?_
  refine am_iconst 1 rfl dL_law_787 ?_
  refine am_iadd dL_law_788 ?_
  obtain ⟨j1, e1, w1, wp⟩ := wp
  refine am_ildXN (j := j1) dL_law_789 e1 w1 hE ?_
  refine am_invV (ci := 8) (As := [.int (E.2 j1)]) (lsZ := [some (.ref 48), some (.int (E.2 j1))]) (st := [.int x0]) dL_law_790 hX10_keep lkL_113 ⟨by decide, by decide⟩ (by decide) rfl (by decide) rfl rfl rfl (Nat.le_of_ble_eq_true rfl) rfl (Nat.le_of_ble_eq_true rfl) ⟨Nat.le_refl _, Nat.le_refl _⟩ (am_R.mono wp (fun r h' q => am_R.forget q ⟨rfl, ⟨rfl, ⟨rfl, ⟨rfl, trivial⟩⟩⟩⟩))
theorem bL_law_793 {E : Nat × (Nat → Int32)} {I : Nat → Nat → Int32} {J : Nat → Nat → Int64} {b : Bool} {a3 : Int32} {x0 : Int32} {x1 : Int32} {Q : Option Value → am_H → Prop} (hE : E.1 ≤ 320) (wp : ((x1 = x0 → am_R E mL_law 844 [some (.ref 1002), some (.ref 0), some (.ref 48), some (.int a3)] [] (hp I J b) 64 64 Q) ∧ (¬ x1 = x0 → Q (some (.int 0)) (hp I J b)))) : am_R E mL_law 793 [some (.ref 1002), some (.ref 0), some (.ref 48), some (.int a3)] [.int x0, .int x1] (hp I J b) 64 64 Q := by
  refine am_icmp_eq dL_law_793 (tgt := 844) rfl (fun hc1 => ?_) (fun hc1 => ?_)
  · have wp := wp.1 hc1
    exact am_R.forget wp ⟨rfl, ⟨rfl, ⟨rfl, ⟨rfl, trivial⟩⟩⟩⟩
  · have wp := wp.2 hc1
    refine am_iconst 0 rfl dL_law_796 ?_
    exact am_iret dL_law_797 rfl (by decide) wp
theorem bL_law_798 {E : Nat × (Nat → Int32)} {I : Nat → Nat → Int32} {J : Nat → Nat → Int64} {b : Bool} {a3 : Int32} {Q : Option Value → am_H → Prop} (hE : E.1 ≤ 320) (wp : ∃ j1, (a3 + 1) = nI j1 ∧ j1 < E.1 ∧ am_R E mX9_back 0 [some (.ref 0), some (.int (E.2 j1))] [] (hp I J b) 64 64 (fun r h' => am_R E mL_law 807 [some (.ref 1002), some (.ref 0), some (.ref 48), some (.int a3)] (r.toList ++ []) h' 64 64 Q)) : am_R E mL_law 798 [some (.ref 1002), some (.ref 0), some (.ref 48), some (.int a3)] [] (hp I J b) 64 64 Q := by
  refine am_aload_n rfl rfl dL_law_798 ?_
  refine am_aload_n rfl rfl dL_law_799 ?_
  refine am_iload_n rfl rfl dL_law_800 ?_
  refine am_iconst 1 rfl dL_law_801 ?_
  refine am_iadd dL_law_802 ?_
  obtain ⟨j1, e1, w1, wp⟩ := wp
  refine am_ildXN (j := j1) dL_law_803 e1 w1 hE ?_
  refine am_invV (ci := 7) (As := [.int (E.2 j1)]) (lsZ := [some (.ref 0), some (.int (E.2 j1))]) (st := []) dL_law_804 hX9_back lkL_114 ⟨by decide, by decide⟩ (by decide) rfl (by decide) rfl rfl rfl (Nat.le_of_ble_eq_true rfl) rfl (Nat.le_of_ble_eq_true rfl) ⟨Nat.le_refl _, Nat.le_refl _⟩ (am_R.mono wp (fun r h' q => am_R.forget q ⟨rfl, ⟨rfl, ⟨rfl, ⟨rfl, trivial⟩⟩⟩⟩))
theorem bL_law_807 {E : Nat × (Nat → Int32)} {I : Nat → Nat → Int32} {J : Nat → Nat → Int64} {b : Bool} {a3 : Int32} {x0 : Int32} {Q : Option Value → am_H → Prop} (hE : E.1 ≤ 320) (wp : ∃ j1, (a3 + 1) = nI j1 ∧ j1 < E.1 ∧ am_R E mX10_back 0 [some (.ref 48), some (.int (E.2 j1))] [] (hp I J b) 64 64 (fun r h' => am_R E mL_law 816 [some (.ref 1002), some (.ref 0), some (.ref 48), some (.int a3)] (r.toList ++ [.int x0]) h' 64 64 Q)) : am_R E mL_law 807 [some (.ref 1002), some (.ref 0), some (.ref 48), some (.int a3)] [.int x0] (hp I J b) 64 64 Q := by
  refine am_aload_n rfl rfl dL_law_807 ?_
  refine am_aload_n rfl rfl dL_law_808 ?_
  refine am_iload_n rfl rfl dL_law_809 ?_
  refine am_iconst 1 rfl dL_law_810 ?_
  refine am_iadd dL_law_811 ?_
  obtain ⟨j1, e1, w1, wp⟩ := wp
  refine am_ildXN (j := j1) dL_law_812 e1 w1 hE ?_
  refine am_invV (ci := 8) (As := [.int (E.2 j1)]) (lsZ := [some (.ref 48), some (.int (E.2 j1))]) (st := [.int x0]) dL_law_813 hX10_back lkL_117 ⟨by decide, by decide⟩ (by decide) rfl (by decide) rfl rfl rfl (Nat.le_of_ble_eq_true rfl) rfl (Nat.le_of_ble_eq_true rfl) ⟨Nat.le_refl _, Nat.le_refl _⟩ (am_R.mono wp (fun r h' q => am_R.forget q ⟨rfl, ⟨rfl, ⟨rfl, ⟨rfl, trivial⟩⟩⟩⟩))
theorem bL_law_816 {E : Nat × (Nat → Int32)} {I : Nat → Nat → Int32} {J : Nat → Nat → Int64} {b : Bool} {a3 : Int32} {x0 : Int32} {x1 : Int32} {Q : Option Value → am_H → Prop} (hE : E.1 ≤ 320) (wp : ((x1 = x0 → am_R E mL_law 844 [some (.ref 1002), some (.ref 0), some (.ref 48), some (.int a3)] [] (hp I J b) 64 64 Q) ∧ (¬ x1 = x0 → Q (some (.int 0)) (hp I J b)))) : am_R E mL_law 816 [some (.ref 1002), some (.ref 0), some (.ref 48), some (.int a3)] [.int x0, .int x1] (hp I J b) 64 64 Q := by
  refine am_icmp_eq dL_law_816 (tgt := 844) rfl (fun hc1 => ?_) (fun hc1 => ?_)
  · have wp := wp.1 hc1
    exact am_R.forget wp ⟨rfl, ⟨rfl, ⟨rfl, ⟨rfl, trivial⟩⟩⟩⟩
  · have wp := wp.2 hc1
    refine am_iconst 0 rfl dL_law_819 ?_
    exact am_iret dL_law_820 rfl (by decide) wp
theorem bL_law_821 {E : Nat × (Nat → Int32)} {I : Nat → Nat → Int32} {J : Nat → Nat → Int64} {b : Bool} {a3 : Int32} {Q : Option Value → am_H → Prop} (hE : E.1 ≤ 320) (wp : ∃ j1, (a3 + 1) = nI j1 ∧ j1 < E.1 ∧ am_R E mX9_count 0 [some (.ref 0), some (.int (E.2 j1))] [] (hp I J b) 64 64 (fun r h' => am_R E mL_law 830 [some (.ref 1002), some (.ref 0), some (.ref 48), some (.int a3)] (r.toList ++ []) h' 64 64 Q)) : am_R E mL_law 821 [some (.ref 1002), some (.ref 0), some (.ref 48), some (.int a3)] [] (hp I J b) 64 64 Q := by
  refine am_aload_n rfl rfl dL_law_821 ?_
  refine am_aload_n rfl rfl dL_law_822 ?_
  refine am_iload_n rfl rfl dL_law_823 ?_
  refine am_iconst 1 rfl dL_law_824 ?_
  refine am_iadd dL_law_825 ?_
  obtain ⟨j1, e1, w1, wp⟩ := wp
  refine am_ildXN (j := j1) dL_law_826 e1 w1 hE ?_
  refine am_invV (ci := 7) (As := [.int (E.2 j1)]) (lsZ := [some (.ref 0), some (.int (E.2 j1))]) (st := []) dL_law_827 hX9_count lkL_118 ⟨by decide, by decide⟩ (by decide) rfl (by decide) rfl rfl rfl (Nat.le_of_ble_eq_true rfl) rfl (Nat.le_of_ble_eq_true rfl) ⟨Nat.le_refl _, Nat.le_refl _⟩ (am_R.mono wp (fun r h' q => am_R.forget q ⟨rfl, ⟨rfl, ⟨rfl, ⟨rfl, trivial⟩⟩⟩⟩))
theorem bL_law_830 {E : Nat × (Nat → Int32)} {I : Nat → Nat → Int32} {J : Nat → Nat → Int64} {b : Bool} {a3 : Int32} {x0 : Int32} {Q : Option Value → am_H → Prop} (hE : E.1 ≤ 320) (wp : ∃ j1, (a3 + 1) = nI j1 ∧ j1 < E.1 ∧ am_R E mX10_count 0 [some (.ref 48), some (.int (E.2 j1))] [] (hp I J b) 64 64 (fun r h' => am_R E mL_law 839 [some (.ref 1002), some (.ref 0), some (.ref 48), some (.int a3)] (r.toList ++ [.int x0]) h' 64 64 Q)) : am_R E mL_law 830 [some (.ref 1002), some (.ref 0), some (.ref 48), some (.int a3)] [.int x0] (hp I J b) 64 64 Q := by
  refine am_aload_n rfl rfl dL_law_830 ?_
  refine am_aload_n rfl rfl dL_law_831 ?_
  refine am_iload_n rfl rfl dL_law_832 ?_
  refine am_iconst 1 rfl dL_law_833 ?_
  refine am_iadd dL_law_834 ?_
  obtain ⟨j1, e1, w1, wp⟩ := wp
  refine am_ildXN (j := j1) dL_law_835 e1 w1 hE ?_
  refine am_invV (ci := 8) (As := [.int (E.2 j1)]) (lsZ := [some (.ref 48), some (.int (E.2 j1))]) (st := [.int x0]) dL_law_836 hX10_count lkL_121 ⟨by decide, by decide⟩ (by decide) rfl (by decide) rfl rfl rfl (Nat.le_of_ble_eq_true rfl) rfl (Nat.le_of_ble_eq_true rfl) ⟨Nat.le_refl _, Nat.le_refl _⟩ (am_R.mono wp (fun r h' q => am_R.forget q ⟨rfl, ⟨rfl, ⟨rfl, ⟨rfl, trivial⟩⟩⟩⟩))
theorem bL_law_839 {E : Nat × (Nat → Int32)} {I : Nat → Nat → Int32} {J : Nat → Nat → Int64} {b : Bool} {a3 : Int32} {x0 : Int32} {x1 : Int32} {Q : Option Value → am_H → Prop} (hE : E.1 ≤ 320) (wp : ((x1 = x0 → am_R E mL_law 844 [some (.ref 1002), some (.ref 0), some (.ref 48), some (.int a3)] [] (hp I J b) 64 64 Q) ∧ (¬ x1 = x0 → Q (some (.int 0)) (hp I J b)))) : am_R E mL_law 839 [some (.ref 1002), some (.ref 0), some (.ref 48), some (.int a3)] [.int x0, .int x1] (hp I J b) 64 64 Q := by
  refine am_icmp_eq dL_law_839 (tgt := 844) rfl (fun hc1 => ?_) (fun hc1 => ?_)
  · have wp := wp.1 hc1
    exact am_R.forget wp ⟨rfl, ⟨rfl, ⟨rfl, ⟨rfl, trivial⟩⟩⟩⟩
  · have wp := wp.2 hc1
    refine am_iconst 0 rfl dL_law_842 ?_
    exact am_iret dL_law_843 rfl (by decide) wp
theorem bL_law_844 {E : Nat × (Nat → Int32)} {I : Nat → Nat → Int32} {J : Nat → Nat → Int64} {b : Bool} {a3 : Int32} {Q : Option Value → am_H → Prop} (hE : E.1 ≤ 320) (wp : am_R E mL_law 18 [some (.ref 1002), some (.ref 0), some (.ref 48), some (.int (a3 + 5))] [] (hp I J b) 64 64 Q) : am_R E mL_law 844 [some (.ref 1002), some (.ref 0), some (.ref 48), some (.int a3)] [] (hp I J b) 64 64 Q := by
  refine am_iinc (ls' := [some (.ref 1002), some (.ref 0), some (.ref 48), some (.int (a3 + 5))]) (by decide) rfl rfl rfl dL_law_844 ?_
  refine am_goto dL_law_847 (tgt := 18) rfl ?_
  exact am_R.forget wp ⟨rfl, ⟨rfl, ⟨rfl, ⟨rfl, trivial⟩⟩⟩⟩
theorem sc_i {i : Nat} : nI i + 1 = nI (i + 1) ∧ nI i + 2 = nI (i + 2) ∧ nI i + 3 = nI (i + 3) ∧ nI i + 4 = nI (i + 4) ∧ nI i + 5 = nI (i + 5) := ⟨nI_add _ 1, nI_add _ 2, nI_add _ 3, nI_add _ 4, nI_add _ 5⟩
theorem lc_write {i : Nat} (hE : E.1 ≤ 320) (hI : Inv I n) (hi : i + 5 ≤ E.1) (next : ∀ I1 J1 b1 n1, Inv I1 n1 → am_R E mL_law 844 [some (.ref 1002), some (.ref 0), some (.ref 48), some (.int (nI i))] [] (hp I1 J1 b1) 64 64 Q) : am_R E mL_law 148 [some (.ref 1002), some (.ref 0), some (.ref 48), some (.int (nI i))] [] (hp I J b) 64 64 Q :=
  bL_law_148 hE ⟨i + 1, sc_i.1, by omega, i + 2, sc_i.2.1, by omega, i + 3, sc_i.2.2.1, by omega, law_pair (p_write hI _ _) rfl (fun x I1 J1 b1 h2 => bL_law_177 hE ⟨i + 1, sc_i.1, by omega, i + 2, sc_i.2.1, by omega, i + 3, sc_i.2.2.1, by omega, (h2 _ (fun I2 J2 b2 n2 hI2 => bL_law_206 hE ⟨fun _ => next I2 J2 b2 n2 hI2, fun q => absurd (rfl) q⟩))⟩)⟩
theorem lc_erase {i : Nat} (hE : E.1 ≤ 320) (hI : Inv I n) (hi : i + 5 ≤ E.1) (next : ∀ I1 J1 b1 n1, Inv I1 n1 → am_R E mL_law 844 [some (.ref 1002), some (.ref 0), some (.ref 48), some (.int (nI i))] [] (hp I1 J1 b1) 64 64 Q) : am_R E mL_law 211 [some (.ref 1002), some (.ref 0), some (.ref 48), some (.int (nI i))] [] (hp I J b) 64 64 Q :=
  bL_law_211 hE (law_pair (p_erase hI) rfl (fun x I1 J1 b1 h2 => bL_law_215 hE (h2 _ (fun I2 J2 b2 n2 hI2 => bL_law_219 hE ⟨fun _ => next I2 J2 b2 n2 hI2, fun q => absurd (rfl) q⟩))))
theorem lc_fault {i : Nat} (hE : E.1 ≤ 320) (hI : Inv I n) (hi : i + 5 ≤ E.1) (next : ∀ I1 J1 b1 n1, Inv I1 n1 → am_R E mL_law 844 [some (.ref 1002), some (.ref 0), some (.ref 48), some (.int (nI i))] [] (hp I1 J1 b1) 64 64 Q) : am_R E mL_law 224 [some (.ref 1002), some (.ref 0), some (.ref 48), some (.int (nI i))] [] (hp I J b) 64 64 Q :=
  bL_law_224 hE (law_pair (p_fault hI) rfl (fun x I1 J1 b1 h2 => bL_law_228 hE (h2 _ (fun I2 J2 b2 n2 hI2 => bL_law_232 hE ⟨fun _ => next I2 J2 b2 n2 hI2, fun q => absurd (rfl) q⟩))))
theorem lc_hall {i : Nat} (hE : E.1 ≤ 320) (hI : Inv I n) (hi : i + 5 ≤ E.1) (next : ∀ I1 J1 b1 n1, Inv I1 n1 → am_R E mL_law 844 [some (.ref 1002), some (.ref 0), some (.ref 48), some (.int (nI i))] [] (hp I1 J1 b1) 64 64 Q) : am_R E mL_law 237 [some (.ref 1002), some (.ref 0), some (.ref 48), some (.int (nI i))] [] (hp I J b) 64 64 Q :=
  bL_law_237 hE (law_pair (p_hall hI) rfl (fun x I1 J1 b1 h2 => bL_law_241 hE (h2 _ (fun I2 J2 b2 n2 hI2 => bL_law_245 hE ⟨fun _ => next I2 J2 b2 n2 hI2, fun q => absurd (rfl) q⟩))))
theorem lc_monk {i : Nat} (hE : E.1 ≤ 320) (hI : Inv I n) (hi : i + 5 ≤ E.1) (next : ∀ I1 J1 b1 n1, Inv I1 n1 → am_R E mL_law 844 [some (.ref 1002), some (.ref 0), some (.ref 48), some (.int (nI i))] [] (hp I1 J1 b1) 64 64 Q) : am_R E mL_law 250 [some (.ref 1002), some (.ref 0), some (.ref 48), some (.int (nI i))] [] (hp I J b) 64 64 Q :=
  bL_law_250 hE ⟨i + 1, sc_i.1, by omega, i + 2, sc_i.2.1, by omega, i + 3, sc_i.2.2.1, by omega, law_pair (p_monk hI _ _ _) rfl (fun x I1 J1 b1 h2 => bL_law_269 hE ⟨i + 1, sc_i.1, by omega, i + 2, sc_i.2.1, by omega, i + 3, sc_i.2.2.1, by omega, (h2 _ (fun I2 J2 b2 n2 hI2 => bL_law_288 hE ⟨fun _ => next I2 J2 b2 n2 hI2, fun q => absurd (rfl) q⟩))⟩)⟩
theorem lc_as {i : Nat} (hE : E.1 ≤ 320) (hI : Inv I n) (hi : i + 5 ≤ E.1) (next : ∀ I1 J1 b1 n1, Inv I1 n1 → am_R E mL_law 844 [some (.ref 1002), some (.ref 0), some (.ref 48), some (.int (nI i))] [] (hp I1 J1 b1) 64 64 Q) : am_R E mL_law 293 [some (.ref 1002), some (.ref 0), some (.ref 48), some (.int (nI i))] [] (hp I J b) 64 64 Q :=
  bL_law_293 hE ⟨i + 1, sc_i.1, by omega, i + 2, sc_i.2.1, by omega, law_pair (p_as hI _ _) rfl (fun x I1 J1 b1 h2 => bL_law_307 hE ⟨i + 1, sc_i.1, by omega, i + 2, sc_i.2.1, by omega, (h2 _ (fun I2 J2 b2 n2 hI2 => bL_law_321 hE ⟨fun _ => next I2 J2 b2 n2 hI2, fun q => absurd (rfl) q⟩))⟩)⟩
theorem lc_lay {i : Nat} (hE : E.1 ≤ 320) (hI : Inv I n) (hi : i + 5 ≤ E.1) (next : ∀ I1 J1 b1 n1, Inv I1 n1 → am_R E mL_law 844 [some (.ref 1002), some (.ref 0), some (.ref 48), some (.int (nI i))] [] (hp I1 J1 b1) 64 64 Q) : am_R E mL_law 326 [some (.ref 1002), some (.ref 0), some (.ref 48), some (.int (nI i))] [] (hp I J b) 64 64 Q :=
  bL_law_326 hE ⟨i + 1, sc_i.1, by omega, law_pair (p_lay hI _) rfl (fun x I1 J1 b1 h2 => bL_law_335 hE ⟨i + 1, sc_i.1, by omega, (h2 _ (fun I2 J2 b2 n2 hI2 => bL_law_344 hE ⟨fun _ => next I2 J2 b2 n2 hI2, fun q => absurd (rfl) q⟩))⟩)⟩
theorem lc_draw {i : Nat} (hE : E.1 ≤ 320) (hI : Inv I n) (hi : i + 5 ≤ E.1) (next : ∀ I1 J1 b1 n1, Inv I1 n1 → am_R E mL_law 844 [some (.ref 1002), some (.ref 0), some (.ref 48), some (.int (nI i))] [] (hp I1 J1 b1) 64 64 Q) : am_R E mL_law 349 [some (.ref 1002), some (.ref 0), some (.ref 48), some (.int (nI i))] [] (hp I J b) 64 64 Q :=
  bL_law_349 hE ⟨i + 1, sc_i.1, by omega, law_pair (p_draw hI _) rfl (fun x I1 J1 b1 h2 => bL_law_358 hE ⟨i + 1, sc_i.1, by omega, (h2 _ (fun I2 J2 b2 n2 hI2 => bL_law_367 hE ⟨fun _ => next I2 J2 b2 n2 hI2, fun q => absurd (rfl) q⟩))⟩)⟩
theorem lc_has {i : Nat} (hE : E.1 ≤ 320) (hI : Inv I n) (hi : i + 5 ≤ E.1) (next : ∀ I1 J1 b1 n1, Inv I1 n1 → am_R E mL_law 844 [some (.ref 1002), some (.ref 0), some (.ref 48), some (.int (nI i))] [] (hp I1 J1 b1) 64 64 Q) : am_R E mL_law 372 [some (.ref 1002), some (.ref 0), some (.ref 48), some (.int (nI i))] [] (hp I J b) 64 64 Q :=
  bL_law_372 hE ⟨i + 1, sc_i.1, by omega, i + 2, sc_i.2.1, by omega, law_pair (p_has hI _ _) rfl (fun x I1 J1 b1 h2 => bL_law_386 hE ⟨i + 1, sc_i.1, by omega, i + 2, sc_i.2.1, by omega, (h2 _ (fun I2 J2 b2 n2 hI2 => bL_law_400 hE ⟨fun _ => next I2 J2 b2 n2 hI2, fun q => absurd (rfl) q⟩))⟩)⟩
theorem lc_trade {i : Nat} (hE : E.1 ≤ 320) (hI : Inv I n) (hi : i + 5 ≤ E.1) (next : ∀ I1 J1 b1 n1, Inv I1 n1 → am_R E mL_law 844 [some (.ref 1002), some (.ref 0), some (.ref 48), some (.int (nI i))] [] (hp I1 J1 b1) 64 64 Q) : am_R E mL_law 405 [some (.ref 1002), some (.ref 0), some (.ref 48), some (.int (nI i))] [] (hp I J b) 64 64 Q :=
  bL_law_405 hE ⟨i + 1, sc_i.1, by omega, i + 2, sc_i.2.1, by omega, i + 3, sc_i.2.2.1, by omega, law_pair (p_trade hI _ _ _) rfl (fun x I1 J1 b1 h2 => bL_law_424 hE ⟨i + 1, sc_i.1, by omega, i + 2, sc_i.2.1, by omega, i + 3, sc_i.2.2.1, by omega, (h2 _ (fun I2 J2 b2 n2 hI2 => bL_law_443 hE ⟨fun _ => next I2 J2 b2 n2 hI2, fun q => absurd (rfl) q⟩))⟩)⟩
theorem lc_settle {i : Nat} (hE : E.1 ≤ 320) (hI : Inv I n) (hi : i + 5 ≤ E.1) (next : ∀ I1 J1 b1 n1, Inv I1 n1 → am_R E mL_law 844 [some (.ref 1002), some (.ref 0), some (.ref 48), some (.int (nI i))] [] (hp I1 J1 b1) 64 64 Q) : am_R E mL_law 448 [some (.ref 1002), some (.ref 0), some (.ref 48), some (.int (nI i))] [] (hp I J b) 64 64 Q :=
  bL_law_448 hE (law_pair (p_settle hI) rfl (fun x I1 J1 b1 h2 => bL_law_452 hE (h2 _ (fun I2 J2 b2 n2 hI2 => bL_law_456 hE ⟨fun _ => next I2 J2 b2 n2 hI2, fun q => absurd (rfl) q⟩))))
theorem lc_dawn {i : Nat} (hE : E.1 ≤ 320) (hI : Inv I n) (hi : i + 5 ≤ E.1) (next : ∀ I1 J1 b1 n1, Inv I1 n1 → am_R E mL_law 844 [some (.ref 1002), some (.ref 0), some (.ref 48), some (.int (nI i))] [] (hp I1 J1 b1) 64 64 Q) : am_R E mL_law 461 [some (.ref 1002), some (.ref 0), some (.ref 48), some (.int (nI i))] [] (hp I J b) 64 64 Q :=
  bL_law_461 hE (law_pair (p_dawn hI) rfl (fun x I1 J1 b1 h2 => bL_law_465 hE (h2 _ (fun I2 J2 b2 n2 hI2 => bL_law_469 hE ⟨fun _ => next I2 J2 b2 n2 hI2, fun q => absurd (rfl) q⟩))))
theorem lc_today {i : Nat} (hE : E.1 ≤ 320) (hI : Inv I n) (hi : i + 5 ≤ E.1) (next : ∀ I1 J1 b1 n1, Inv I1 n1 → am_R E mL_law 844 [some (.ref 1002), some (.ref 0), some (.ref 48), some (.int (nI i))] [] (hp I1 J1 b1) 64 64 Q) : am_R E mL_law 474 [some (.ref 1002), some (.ref 0), some (.ref 48), some (.int (nI i))] [] (hp I J b) 64 64 Q :=
  bL_law_474 hE ⟨i + 1, sc_i.1, by omega, law_pair (p_today hI _) rfl (fun x I1 J1 b1 h2 => bL_law_483 hE ⟨i + 1, sc_i.1, by omega, (h2 _ (fun I2 J2 b2 n2 hI2 => bL_law_492 hE ⟨fun _ => next I2 J2 b2 n2 hI2, fun q => absurd (rfl) q⟩))⟩)⟩
theorem lc_ends {i : Nat} (hE : E.1 ≤ 320) (hI : Inv I n) (hi : i + 5 ≤ E.1) (next : ∀ I1 J1 b1 n1, Inv I1 n1 → am_R E mL_law 844 [some (.ref 1002), some (.ref 0), some (.ref 48), some (.int (nI i))] [] (hp I1 J1 b1) 64 64 Q) : am_R E mL_law 497 [some (.ref 1002), some (.ref 0), some (.ref 48), some (.int (nI i))] [] (hp I J b) 64 64 Q :=
  bL_law_497 hE ⟨i + 1, sc_i.1, by omega, law_pair (p_ends hI _) rfl (fun x I1 J1 b1 h2 => bL_law_506 hE ⟨i + 1, sc_i.1, by omega, (h2 _ (fun I2 J2 b2 n2 hI2 => bL_law_515 hE ⟨fun _ => next I2 J2 b2 n2 hI2, fun q => absurd (rfl) q⟩))⟩)⟩
theorem lc_hint {i : Nat} (hE : E.1 ≤ 320) (hI : Inv I n) (hi : i + 5 ≤ E.1) (next : ∀ I1 J1 b1 n1, Inv I1 n1 → am_R E mL_law 844 [some (.ref 1002), some (.ref 0), some (.ref 48), some (.int (nI i))] [] (hp I1 J1 b1) 64 64 Q) : am_R E mL_law 520 [some (.ref 1002), some (.ref 0), some (.ref 48), some (.int (nI i))] [] (hp I J b) 64 64 Q :=
  bL_law_520 hE ⟨i + 1, sc_i.1, by omega, law_pair (p_hint hI _) rfl (fun x I1 J1 b1 h2 => bL_law_529 hE ⟨i + 1, sc_i.1, by omega, (h2 _ (fun I2 J2 b2 n2 hI2 => bL_law_538 hE ⟨fun _ => next I2 J2 b2 n2 hI2, fun q => absurd (rfl) q⟩))⟩)⟩
theorem lc_lawful {i : Nat} (hE : E.1 ≤ 320) (hI : Inv I n) (hi : i + 5 ≤ E.1) (next : ∀ I1 J1 b1 n1, Inv I1 n1 → am_R E mL_law 844 [some (.ref 1002), some (.ref 0), some (.ref 48), some (.int (nI i))] [] (hp I1 J1 b1) 64 64 Q) : am_R E mL_law 543 [some (.ref 1002), some (.ref 0), some (.ref 48), some (.int (nI i))] [] (hp I J b) 64 64 Q :=
  bL_law_543 hE (law_pair (p_lawful hI) rfl (fun x I1 J1 b1 h2 => bL_law_547 hE (h2 _ (fun I2 J2 b2 n2 hI2 => bL_law_551 hE ⟨fun _ => next I2 J2 b2 n2 hI2, fun q => absurd (rfl) q⟩))))
theorem lc_mean {i : Nat} (hE : E.1 ≤ 320) (hI : Inv I n) (hi : i + 5 ≤ E.1) (next : ∀ I1 J1 b1 n1, Inv I1 n1 → am_R E mL_law 844 [some (.ref 1002), some (.ref 0), some (.ref 48), some (.int (nI i))] [] (hp I1 J1 b1) 64 64 Q) : am_R E mL_law 556 [some (.ref 1002), some (.ref 0), some (.ref 48), some (.int (nI i))] [] (hp I J b) 64 64 Q :=
  bL_law_556 hE ⟨i + 1, sc_i.1, by omega, i + 2, sc_i.2.1, by omega, i + 3, sc_i.2.2.1, by omega, law_pair (p_mean hI _ _ _) rfl (fun x I1 J1 b1 h2 => bL_law_575 hE ⟨i + 1, sc_i.1, by omega, i + 2, sc_i.2.1, by omega, i + 3, sc_i.2.2.1, by omega, (h2 _ (fun I2 J2 b2 n2 hI2 => bL_law_594 hE ⟨fun _ => next I2 J2 b2 n2 hI2, fun q => absurd (rfl) q⟩))⟩)⟩
theorem lc_odds {i : Nat} (hE : E.1 ≤ 320) (hI : Inv I n) (hi : i + 5 ≤ E.1) (next : ∀ I1 J1 b1 n1, Inv I1 n1 → am_R E mL_law 844 [some (.ref 1002), some (.ref 0), some (.ref 48), some (.int (nI i))] [] (hp I1 J1 b1) 64 64 Q) : am_R E mL_law 599 [some (.ref 1002), some (.ref 0), some (.ref 48), some (.int (nI i))] [] (hp I J b) 64 64 Q :=
  bL_law_599 hE ⟨i + 1, sc_i.1, by omega, i + 2, sc_i.2.1, by omega, i + 3, sc_i.2.2.1, by omega, i + 4, sc_i.2.2.2.1, by omega, law_pair (p_odds hI _ _ _ _) rfl (fun x I1 J1 b1 h2 => bL_law_623 hE ⟨i + 1, sc_i.1, by omega, i + 2, sc_i.2.1, by omega, i + 3, sc_i.2.2.1, by omega, i + 4, sc_i.2.2.2.1, by omega, (h2 _ (fun I2 J2 b2 n2 hI2 => bL_law_647 hE ⟨fun _ => next I2 J2 b2 n2 hI2, fun q => absurd (rfl) q⟩))⟩)⟩
theorem lc_week {i : Nat} (hE : E.1 ≤ 320) (hI : Inv I n) (hi : i + 5 ≤ E.1) (next : ∀ I1 J1 b1 n1, Inv I1 n1 → am_R E mL_law 844 [some (.ref 1002), some (.ref 0), some (.ref 48), some (.int (nI i))] [] (hp I1 J1 b1) 64 64 Q) : am_R E mL_law 652 [some (.ref 1002), some (.ref 0), some (.ref 48), some (.int (nI i))] [] (hp I J b) 64 64 Q :=
  bL_law_652 hE ⟨i + 1, sc_i.1, by omega, law_pair (p_week hI _) rfl (fun x I1 J1 b1 h2 => bL_law_661 hE ⟨i + 1, sc_i.1, by omega, (h2 _ (fun I2 J2 b2 n2 hI2 => bL_law_670 hE ⟨fun _ => next I2 J2 b2 n2 hI2, fun q => absurd (rfl) q⟩))⟩)⟩
theorem lc_often {i : Nat} (hE : E.1 ≤ 320) (hI : Inv I n) (hi : i + 5 ≤ E.1) (next : ∀ I1 J1 b1 n1, Inv I1 n1 → am_R E mL_law 844 [some (.ref 1002), some (.ref 0), some (.ref 48), some (.int (nI i))] [] (hp I1 J1 b1) 64 64 Q) : am_R E mL_law 675 [some (.ref 1002), some (.ref 0), some (.ref 48), some (.int (nI i))] [] (hp I J b) 64 64 Q :=
  bL_law_675 hE ⟨i + 1, sc_i.1, by omega, i + 2, sc_i.2.1, by omega, law_pair (p_often hI _ _) rfl (fun x I1 J1 b1 h2 => bL_law_689 hE ⟨i + 1, sc_i.1, by omega, i + 2, sc_i.2.1, by omega, (h2 _ (fun I2 J2 b2 n2 hI2 => bL_law_703 hE ⟨fun _ => next I2 J2 b2 n2 hI2, fun q => absurd (rfl) q⟩))⟩)⟩
theorem lc_tail {i : Nat} (hE : E.1 ≤ 320) (hI : Inv I n) (hi : i + 5 ≤ E.1) (next : ∀ I1 J1 b1 n1, Inv I1 n1 → am_R E mL_law 844 [some (.ref 1002), some (.ref 0), some (.ref 48), some (.int (nI i))] [] (hp I1 J1 b1) 64 64 Q) : am_R E mL_law 708 [some (.ref 1002), some (.ref 0), some (.ref 48), some (.int (nI i))] [] (hp I J b) 64 64 Q :=
  bL_law_708 hE ⟨i + 1, sc_i.1, by omega, i + 2, sc_i.2.1, by omega, i + 3, sc_i.2.2.1, by omega, law_pairL (p_tail hI _ _ _) (fun x I1 J1 b1 h2 => bL_law_727 hE ⟨i + 1, sc_i.1, by omega, i + 2, sc_i.2.1, by omega, i + 3, sc_i.2.2.1, by omega, (h2 _ (fun I2 J2 b2 n2 hI2 => bL_law_746 hE ⟨fun _ => next I2 J2 b2 n2 hI2, fun q => absurd ((lg_cmp_eq _ _).mpr rfl) q⟩))⟩)⟩
theorem lc_named {i : Nat} (hE : E.1 ≤ 320) (hI : Inv I n) (hi : i + 5 ≤ E.1) (next : ∀ I1 J1 b1 n1, Inv I1 n1 → am_R E mL_law 844 [some (.ref 1002), some (.ref 0), some (.ref 48), some (.int (nI i))] [] (hp I1 J1 b1) 64 64 Q) : am_R E mL_law 752 [some (.ref 1002), some (.ref 0), some (.ref 48), some (.int (nI i))] [] (hp I J b) 64 64 Q :=
  bL_law_752 hE ⟨i + 1, sc_i.1, by omega, law_pair (p_named hI _) rfl (fun x I1 J1 b1 h2 => bL_law_761 hE ⟨i + 1, sc_i.1, by omega, (h2 _ (fun I2 J2 b2 n2 hI2 => bL_law_770 hE ⟨fun _ => next I2 J2 b2 n2 hI2, fun q => absurd (rfl) q⟩))⟩)⟩
theorem lc_keep {i : Nat} (hE : E.1 ≤ 320) (hI : Inv I n) (hi : i + 5 ≤ E.1) (next : ∀ I1 J1 b1 n1, Inv I1 n1 → am_R E mL_law 844 [some (.ref 1002), some (.ref 0), some (.ref 48), some (.int (nI i))] [] (hp I1 J1 b1) 64 64 Q) : am_R E mL_law 775 [some (.ref 1002), some (.ref 0), some (.ref 48), some (.int (nI i))] [] (hp I J b) 64 64 Q :=
  bL_law_775 hE ⟨i + 1, sc_i.1, by omega, law_pair (p_keep hI _) rfl (fun x I1 J1 b1 h2 => bL_law_784 hE ⟨i + 1, sc_i.1, by omega, (h2 _ (fun I2 J2 b2 n2 hI2 => bL_law_793 hE ⟨fun _ => next I2 J2 b2 n2 hI2, fun q => absurd (rfl) q⟩))⟩)⟩
theorem lc_back {i : Nat} (hE : E.1 ≤ 320) (hI : Inv I n) (hi : i + 5 ≤ E.1) (next : ∀ I1 J1 b1 n1, Inv I1 n1 → am_R E mL_law 844 [some (.ref 1002), some (.ref 0), some (.ref 48), some (.int (nI i))] [] (hp I1 J1 b1) 64 64 Q) : am_R E mL_law 798 [some (.ref 1002), some (.ref 0), some (.ref 48), some (.int (nI i))] [] (hp I J b) 64 64 Q :=
  bL_law_798 hE ⟨i + 1, sc_i.1, by omega, law_pair (p_back hI _) rfl (fun x I1 J1 b1 h2 => bL_law_807 hE ⟨i + 1, sc_i.1, by omega, (h2 _ (fun I2 J2 b2 n2 hI2 => bL_law_816 hE ⟨fun _ => next I2 J2 b2 n2 hI2, fun q => absurd (rfl) q⟩))⟩)⟩
theorem lc_count {i : Nat} (hE : E.1 ≤ 320) (hI : Inv I n) (hi : i + 5 ≤ E.1) (next : ∀ I1 J1 b1 n1, Inv I1 n1 → am_R E mL_law 844 [some (.ref 1002), some (.ref 0), some (.ref 48), some (.int (nI i))] [] (hp I1 J1 b1) 64 64 Q) : am_R E mL_law 821 [some (.ref 1002), some (.ref 0), some (.ref 48), some (.int (nI i))] [] (hp I J b) 64 64 Q :=
  bL_law_821 hE ⟨i + 1, sc_i.1, by omega, law_pair (p_count hI _) rfl (fun x I1 J1 b1 h2 => bL_law_830 hE ⟨i + 1, sc_i.1, by omega, (h2 _ (fun I2 J2 b2 n2 hI2 => bL_law_839 hE ⟨fun _ => next I2 J2 b2 n2 hI2, fun q => absurd (rfl) q⟩))⟩)⟩
theorem law_end {i : Nat} (hE : E.1 ≤ 320) (hi : i ≤ 400) (h : E.1 < i + 5) : (Int32.ofNat E.1 - 5) < nI i := by
  have h0 : (0 : Int32) ≤ nI i := (nI_leI (a := 0) (by omega) (by omega)).mpr (by omega)
  rcases Nat.lt_or_ge E.1 5 with q | q
  · have key : ∀ e, e < 5 → (Int32.ofNat e - 5) < 0 := by decide
    exact Int32.lt_of_lt_of_le (key _ q) h0
  · have e : Int32.ofNat E.1 - 5 = nI (E.1 - 5) := pk_sub (a := E.1) (b := 5) q
    rw [e]
    exact (nI_ltI (by omega) (by omega)).mpr (by omega)
theorem law_loop (hE : E.1 ≤ 320) (k : ∀ h, Q (some (.int 1)) h) : ∀ (r i : Nat) (I : Nat → Nat → Int32) (J : Nat → Nat → Int64) (b : Bool) (n : Nat), E.1 ≤ i + r → i ≤ 400 → Inv I n → am_R E mL_law 18 [some (.ref 1002), some (.ref 0), some (.ref 48), some (.int (nI i))] [] (hp I J b) 64 64 Q := by
  intro r
  induction r with
  | zero =>
    intro i I J b n hr hi hI
    refine bL_law_18 hE ⟨fun _ => k _, fun q => absurd ?_ q⟩
    exact law_end hE hi (by omega)
  | succ r ih =>
    intro i I J b n hr hi hI
    by_cases h5 : i + 5 ≤ E.1
    · have next : ∀ I1 J1 b1 n1, Inv I1 n1 → am_R E mL_law 844 [some (.ref 1002), some (.ref 0), some (.ref 48), some (.int (nI i))] [] (hp I1 J1 b1) 64 64 Q := fun I1 J1 b1 n1 hI1 => by
        refine bL_law_844 hE ?_
        rw [sc_i.2.2.2.2]
        exact ih (i + 5) I1 J1 b1 n1 (by omega) (by omega) hI1
      refine bL_law_18 hE ⟨fun _ => k _, fun _ => ⟨i, rfl, by omega, fun _ => lc_write hE hI h5 next, fun _ => lc_erase hE hI h5 next, fun _ => lc_fault hE hI h5 next, fun _ => lc_hall hE hI h5 next, fun _ => lc_monk hE hI h5 next, fun _ => lc_as hE hI h5 next, fun _ => lc_lay hE hI h5 next, fun _ => lc_draw hE hI h5 next, fun _ => lc_has hE hI h5 next, fun _ => lc_trade hE hI h5 next, fun _ => lc_settle hE hI h5 next, fun _ => lc_dawn hE hI h5 next, fun _ => lc_today hE hI h5 next, fun _ => lc_ends hE hI h5 next, fun _ => lc_hint hE hI h5 next, fun _ => lc_lawful hE hI h5 next, fun _ => lc_mean hE hI h5 next, fun _ => lc_odds hE hI h5 next, fun _ => lc_week hE hI h5 next, fun _ => lc_often hE hI h5 next, fun _ => lc_tail hE hI h5 next, fun _ => lc_named hE hI h5 next, fun _ => lc_keep hE hI h5 next, fun _ => lc_back hE hI h5 next, fun _ => lc_count hE hI h5 next, fun _ _ _ _ _ _ _ _ _ _ _ _ _ _ _ _ _ _ _ _ _ _ _ _ _ => next I J b n hI⟩⟩
    · exact bL_law_18 hE ⟨fun _ => k _, fun q => absurd (law_end hE hi (by omega)) q⟩
end P27
