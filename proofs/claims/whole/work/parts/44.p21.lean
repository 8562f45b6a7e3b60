/-! ===== lines: the class ===== -/
section P21
variable {E : Nat × (Nat → Int32)} {I I' : Nat → Nat → Int32} {J J' : Nat → Nat → Int64} {b : Bool} {n : Nat} {Q : Option Value → am_H → Prop}
variable {T : Nat → Int32} {L p : Nat}
/-- how many numbers behind a verb; does a number fit -/
def cntN (i : Nat) : Nat := if i = 1 ∨ i = 2 then 3 else if i = 8 then 2 else 1
def fitN (i t x mo : Nat) : Bool := if i = 0 then decide (2 ≤ x ∧ x ≤ 7) else if i = 7 then decide (x = 0 ∨ x = 2 ∨ x = 3) else if t = 3 then decide (x ≤ 9) else decide (x < mo)
/-- numbers t .. -/
def pN (T : Nat → Int32) (L i mo : Nat) : Nat → Nat → Nat → (Nat → Nat) → Nat ⊕ (Nat × (Nat → Nat))
  | 0, _, p, xs => .inr (p, xs)
  | r + 1, t, p, xs => match nv T L p with
    | none => .inl (ts T L p)
    | some x => if fitN i t x mo = true then pN T L i mo r (t + 1) (te T L p) (va_up xs t x) else .inl (ts T L p)
def pL (T : Nat → Int32) (L p mo : Nat) : Nat ⊕ (Nat × Nat × (Nat → Nat)) := match vi (lsT T L p) with
  | none => .inl (ts T L p)
  | some i => match pN T L i mo (cntN i) 1 (te T L p) (fun _ => 0) with
    | .inl f => .inl f
    | .inr (q, xs) => .inr (i, q, xs)
def pR (T : Nat → Int32) (L : Nat) : Nat → Nat → Nat → Nat → (Nat → Nat × (Nat → Nat)) → Nat ⊕ (Nat × (Nat → Nat × (Nat → Nat)))
  | 0, _, _, _, _ => .inl 0
  | f + 1, p, mo, c, D => match pL T L p mo with
    | .inl x => .inl x
    | .inr (i, q, xs) => if ts T L q < L then (if T (ts T L q) = 59 then (if f = 0 then .inl (ts T L q) else pR T L f (te T L q) (if i = 0 then xs 1 else mo) (c + 1) (va_up D c (i, xs))) else .inl (ts T L q)) else .inr (c + 1, va_up D c (i, xs))
theorem pN_ok {i mo : Nat} : ∀ (r t p : Nat) (xs : Nat → Nat), p ≤ L → (∀ q ys, pN T L i mo r t p xs = .inr (q, ys) → q ≤ L ∧ (∀ u, u < t → ys u = xs u) ∧ ∀ u, t ≤ u → u < t + r → fitN i u (ys u) mo = true ∧ ys u ≤ 99) ∧ (∀ x, pN T L i mo r t p xs = .inl x → x ≤ L)
  | 0, t, p, xs, hp => ⟨fun q ys h => by
      cases h
      exact ⟨hp, fun _ _ => rfl, fun u h1 h2 => by omega⟩, fun x h => by cases h⟩
  | r + 1, t, p, xs, hp => by
    have hts := ts_ok (T := T) hp
    have hte := te_ok (T := T) hp
    cases hv : nv T L p with
    | none =>
      have e : pN T L i mo (r + 1) t p xs = .inl (ts T L p) := by rw [pN, hv]
      rw [e]
      exact ⟨fun q ys h => (by cases h), fun x h => by cases h; exact hts.2⟩
    | some x =>
      have hx := nv_le hp hv
      by_cases hf : fitN i t x mo = true
      · have e : pN T L i mo (r + 1) t p xs = pN T L i mo r (t + 1) (te T L p) (va_up xs t x) := by rw [pN, hv]; exact if_pos hf
        rw [e]
        obtain ⟨h1, h2⟩ := pN_ok (i := i) (mo := mo) r (t + 1) (te T L p) (va_up xs t x) hte.2.1
        refine ⟨fun q ys h => ?_, h2⟩
        obtain ⟨k1, k2, k3⟩ := h1 q ys h
        refine ⟨k1, fun u hu => ?_, fun u hu1 hu2 => ?_⟩
        · rw [k2 u (by omega)]; exact up_n (by omega)
        · by_cases q : u = t
          · subst q; rw [k2 u (by omega), up_s]; exact ⟨hf, hx⟩
          · exact k3 u (by omega) (by omega)
      · have e : pN T L i mo (r + 1) t p xs = .inl (ts T L p) := by rw [pN, hv]; exact if_neg hf
        rw [e]
        exact ⟨fun q ys h => (by cases h), fun x h => by cases h; exact hts.2⟩
theorem pL_ok {mo : Nat} (hp : p ≤ L) : (∀ i q xs, pL T L p mo = .inr (i, q, xs) → i < 9 ∧ q ≤ L ∧ ∀ u, 1 ≤ u → u < 1 + cntN i → fitN i u (xs u) mo = true ∧ xs u ≤ 99) ∧ (∀ x, pL T L p mo = .inl x → x ≤ L) := by
  have hts := ts_ok (T := T) hp
  have hte := te_ok (T := T) hp
  unfold pL
  cases hv : vi (lsT T L p) with
  | none => exact ⟨fun i q xs h => (by cases h), fun x h => by cases h; exact hts.2⟩
  | some i =>
    obtain ⟨h1, h2⟩ := pN_ok (T := T) (L := L) (i := i) (mo := mo) (cntN i) 1 (te T L p) (fun _ => 0) hte.2.1
    simp only
    cases hn : pN T L i mo (cntN i) 1 (te T L p) (fun _ => 0) with
    | inl x => exact ⟨fun i q xs h => (by cases h), fun y h => by cases h; exact h2 x hn⟩
    | inr qx =>
      obtain ⟨q, xs⟩ := qx
      obtain ⟨k1, k2, k3⟩ := h1 q xs hn
      exact ⟨fun i' q' xs' h => by cases h; exact ⟨(vi_of hv).1, k1, k3⟩, fun y h => by cases h⟩
/-- what the class's reading may change -/
def Cs (I I1 : Nat → Nat → Int32) : Prop := (∀ a, a ≠ 1 → a ≠ 3 → I1 a = I a) ∧ I1 1 1 = I 1 1
theorem Cs.rf (I : Nat → Nat → Int32) : Cs I I := ⟨fun _ _ _ => rfl, rfl⟩
theorem Cs.u3 {j : Nat} {x : Int32} (h : Cs I I') : Cs I (u2 I' 3 j x) := ⟨fun a h1 h2 => by rw [u2_n _ _ _ h2]; exact h.1 a h1 h2, by rw [u2_n _ _ _ (by decide)]; exact h.2⟩
theorem Cs.u1' {j : Nat} {x : Int32} (h : Cs I I') (hj : j ≠ 1) : Cs I (u2 I' 1 j x) := ⟨fun a h1 h2 => by rw [u2_n _ _ _ h1]; exact h.1 a h1 h2, by rw [u2_at, if_neg (Ne.symm hj)]; exact h.2⟩
theorem bX6_numbersOf_0 {E : Nat × (Nat → Int32)} {I : Nat → Nat → Int32} {J : Nat → Nat → Int64} {b : Bool} {a0 : Int32} {Q : Option Value → am_H → Prop}  (wp : ((a0 = 5 → Q (some (.int 3)) (hp I J b)) ∧ (a0 = 6 → Q (some (.int 3)) (hp I J b)) ∧ (a0 = 7 → Q (some (.int 1)) (hp I J b)) ∧ (a0 = 8 → Q (some (.int 2)) (hp I J b)) ∧ (¬ a0 = 5 → ¬ a0 = 6 → ¬ a0 = 7 → ¬ a0 = 8 → Q (some (.int 1)) (hp I J b)))) : am_R E mX6_numbersOf 0 [some (.int a0)] [] (hp I J b) 64 64 Q := by
  refine am_iload_n rfl rfl dX6_numbersOf_0 ?_
  have wq1 := wp
  by_cases hs1_0 : a0 = 5
  · have wp := wq1.1 hs1_0
    refine am_tabC 5 dX6_numbersOf_1 hs1_0 (by decide) (by decide) rfl (tgt := 32) rfl ?_
    refine am_iconst 3 rfl dX6_numbersOf_32 ?_
    exact am_iret dX6_numbersOf_33 rfl rfl wp
  by_cases hs1_1 : a0 = 6
  · have wp := wq1.2.1 hs1_1
    refine am_tabC 6 dX6_numbersOf_1 hs1_1 (by decide) (by decide) rfl (tgt := 32) rfl ?_
    refine am_iconst 3 rfl dX6_numbersOf_32 ?_
    exact am_iret dX6_numbersOf_33 rfl rfl wp
  by_cases hs1_2 : a0 = 7
  · have wp := wq1.2.2.1 hs1_2
    refine am_tabC 7 dX6_numbersOf_1 hs1_2 (by decide) (by decide) rfl (tgt := 36) rfl ?_
    refine am_iconst 1 rfl dX6_numbersOf_36 ?_
    exact am_iret dX6_numbersOf_37 rfl rfl wp
  by_cases hs1_3 : a0 = 8
  · have wp := wq1.2.2.2.1 hs1_3
    refine am_tabC 8 dX6_numbersOf_1 hs1_3 (by decide) (by decide) rfl (tgt := 34) rfl ?_
    refine am_iconst 2 rfl dX6_numbersOf_34 ?_
    exact am_iret dX6_numbersOf_35 rfl rfl wp
  have wp := wq1.2.2.2.2 hs1_0 hs1_1 hs1_2 hs1_3
  have hz1_0 : a0.toInt ≠ 5 := am_ne hs1_0
  have hz1_1 : a0.toInt ≠ 6 := am_ne hs1_1
  have hz1_2 : a0.toInt ≠ 7 := am_ne hs1_2
  have hz1_3 : a0.toInt ≠ 8 := am_ne hs1_3
  show am_R E mX6_numbersOf 1 [some (.int a0)] [.int a0] (hp I J b) 64 64 Q
  refine am_tabOut dX6_numbersOf_1 (by omega) (tgt := 36) rfl ?_
  refine am_iconst 1 rfl dX6_numbersOf_36 ?_
  exact am_iret dX6_numbersOf_37 rfl rfl wp
theorem cvc_ok : ∀ i, i < 9 → ((cvc i = 5 ∨ cvc i = 6) ↔ cntN i = 3) ∧ (cvc i = 8 ↔ cntN i = 2) ∧ (cvc i = 0 ↔ i = 0) ∧ (cvc i = 7 ↔ i = 7) ∧ ¬ cvc i = -1 ∧ (cntN i = 1 ∨ cntN i = 2 ∨ cntN i = 3) := by decide
theorem tX6_numbersOf {i : Nat} (hi : i < 9) (k : Q (some (.int (nI (cntN i)))) (hp I J b)) : am_R E mX6_numbersOf 0 [some (.int (cvc i))] [] (hp I J b) 64 64 Q := by
  obtain ⟨h1, h2, -, h4, -, h6⟩ := cvc_ok i hi
  refine bX6_numbersOf_0 ⟨fun q => ?_, fun q => ?_, fun q => ?_, fun q => ?_, fun q1 q2 q3 q4 => ?_⟩
  · rw [h1.mp (Or.inl q)] at k; exact k
  · rw [h1.mp (Or.inr q)] at k; exact k
  · have e : cntN i = 1 := by
      rcases h6 with z | z | z
      · exact z
      · have := h2.mpr z; rw [q] at this; exact absurd this (by decide)
      · have := h1.mpr z; rw [q] at this; exact absurd this (by decide)
    rw [e] at k; exact k
  · rw [h2.mp q] at k; exact k
  · have e : cntN i = 1 := by
      rcases h6 with z | z | z
      · exact z
      · exact absurd (h2.mpr z) q4
      · rcases h1.mpr z with y | y
        · exact absurd y q1
        · exact absurd y q2
    rw [e] at k; exact k
theorem bX6_fits_0 {E : Nat × (Nat → Int32)} {I : Nat → Nat → Int32} {J : Nat → Nat → Int64} {b : Bool} {a0 : Int32} {a1 : Int32} {a2 : Int32} {a3 : Int32} {Q : Option Value → am_H → Prop}  (wp : ((¬ a0 = 0 → ((¬ a0 = 7 → ((¬ a1 = 3 → ((a2 < 0 → Q (some (.int 0)) (hp I J b)) ∧ (¬ a2 < 0 → ((a3 ≤ a2 → Q (some (.int 0)) (hp I J b)) ∧ (¬ a3 ≤ a2 → Q (some (.int 1)) (hp I J b)))))) ∧ (a1 = 3 → ((a2 < 0 → Q (some (.int 0)) (hp I J b)) ∧ (¬ a2 < 0 → ((9 < a2 → Q (some (.int 0)) (hp I J b)) ∧ (¬ 9 < a2 → Q (some (.int 1)) (hp I J b)))))))) ∧ (a0 = 7 → (((a2 = 0 ∨ a2 = 2 ∨ a2 = 3) → Q (some (.int 1)) (hp I J b)) ∧ (¬ (a2 = 0 ∨ a2 = 2 ∨ a2 = 3) → Q (some (.int 0)) (hp I J b)))))) ∧ (a0 = 0 → ((a2 < 2 → Q (some (.int 0)) (hp I J b)) ∧ (¬ a2 < 2 → ((7 < a2 → Q (some (.int 0)) (hp I J b)) ∧ (¬ 7 < a2 → Q (some (.int 1)) (hp I J b)))))))) : am_R E mX6_fits 0 [some (.int a0), some (.int a1), some (.int a2), some (.int a3)] [] (hp I J b) 64 64 Q := by
  refine am_iload_n rfl rfl dX6_fits_0 ?_
  refine am_if_ne dX6_fits_1 (tgt := 21) rfl (fun hc1 => ?_) (fun hc1 => ?_)
  · have wp := wp.1 hc1
    refine am_iload_n rfl rfl dX6_fits_21 ?_
    refine am_bipush 7 rfl dX6_fits_22 ?_
    refine am_icmp_ne dX6_fits_24 (tgt := 32) rfl (fun hc2 => ?_) (fun hc2 => ?_)
    · have wp := wp.1 hc2
      refine am_iload_n rfl rfl dX6_fits_32 ?_
      refine am_iconst 3 rfl dX6_fits_33 ?_
      refine am_icmp_ne dX6_fits_34 (tgt := 53) rfl (fun hc3 => ?_) (fun hc3 => ?_)
      · have wp := wp.1 hc3
        refine am_iload_n rfl rfl dX6_fits_53 ?_
        refine am_if_lt dX6_fits_54 (tgt := 66) rfl (fun hc4 => ?_) (fun hc4 => ?_)
        · have wp := wp.1 hc4
          refine am_iconst 0 rfl dX6_fits_66 ?_
          exact am_iret dX6_fits_67 rfl (by decide) wp
        · have wp := wp.2 hc4
          refine am_iload_n rfl rfl dX6_fits_57 ?_
          refine am_iload_n rfl rfl dX6_fits_58 ?_
          refine am_icmp_ge dX6_fits_59 (tgt := 66) rfl (fun hc5 => ?_) (fun hc5 => ?_)
          · have wp := wp.1 hc5
            refine am_iconst 0 rfl dX6_fits_66 ?_
            exact am_iret dX6_fits_67 rfl (by decide) wp
          · have wp := wp.2 hc5
            refine am_iconst 1 rfl dX6_fits_62 ?_
            refine am_goto dX6_fits_63 (tgt := 67) rfl ?_
            exact am_iret dX6_fits_67 rfl (by decide) wp
      · have wp := wp.2 hc3
        refine am_iload_n rfl rfl dX6_fits_37 ?_
        refine am_if_lt dX6_fits_38 (tgt := 51) rfl (fun hc6 => ?_) (fun hc6 => ?_)
        · have wp := wp.1 hc6
          refine am_iconst 0 rfl dX6_fits_51 ?_
          exact am_iret dX6_fits_52 rfl (by decide) wp
        · have wp := wp.2 hc6
          refine am_iload_n rfl rfl dX6_fits_41 ?_
          refine am_bipush 9 rfl dX6_fits_42 ?_
          refine am_icmp_gt dX6_fits_44 (tgt := 51) rfl (fun hc7 => ?_) (fun hc7 => ?_)
          · have wp := wp.1 hc7
            refine am_iconst 0 rfl dX6_fits_51 ?_
            exact am_iret dX6_fits_52 rfl (by decide) wp
          · have wp := wp.2 hc7
            refine am_iconst 1 rfl dX6_fits_47 ?_
            refine am_goto dX6_fits_48 (tgt := 52) rfl ?_
            exact am_iret dX6_fits_52 rfl (by decide) wp
    · have wp := wp.2 hc2
      refine am_iload_n rfl rfl dX6_fits_27 ?_
      refine am_invSN (As := [.int a2]) (lsZ := [some (.int a2)]) (st := []) dX6_fits_28 hX9_isRing (by decide +kernel) ⟨by decide, by decide⟩ rfl rfl (Nat.le_of_ble_eq_true rfl) rfl (Nat.le_of_ble_eq_true rfl) ⟨Nat.le_refl _, Nat.le_refl _⟩ (tX9_isRing  (fun hc8 => ?_) (fun hc8 => ?_))
      · have wp := wp.1 hc8
        show am_R E mX6_fits 31 [some (.int a0), some (.int a1), some (.int a2), some (.int a3)] [.int 1] (hp I J b) 64 64 Q
        exact am_iret dX6_fits_31 rfl (by decide) wp
      · have wp := wp.2 hc8
        show am_R E mX6_fits 31 [some (.int a0), some (.int a1), some (.int a2), some (.int a3)] [.int 0] (hp I J b) 64 64 Q
        exact am_iret dX6_fits_31 rfl (by decide) wp
  · have wp := wp.2 hc1
    refine am_iload_n rfl rfl dX6_fits_4 ?_
    refine am_iconst 2 rfl dX6_fits_5 ?_
    refine am_icmp_lt dX6_fits_6 (tgt := 19) rfl (fun hc9 => ?_) (fun hc9 => ?_)
    · have wp := wp.1 hc9
      refine am_iconst 0 rfl dX6_fits_19 ?_
      exact am_iret dX6_fits_20 rfl (by decide) wp
    · have wp := wp.2 hc9
      refine am_iload_n rfl rfl dX6_fits_9 ?_
      refine am_bipush 7 rfl dX6_fits_10 ?_
      refine am_icmp_gt dX6_fits_12 (tgt := 19) rfl (fun hc10 => ?_) (fun hc10 => ?_)
      · have wp := wp.1 hc10
        refine am_iconst 0 rfl dX6_fits_19 ?_
        exact am_iret dX6_fits_20 rfl (by decide) wp
      · have wp := wp.2 hc10
        refine am_iconst 1 rfl dX6_fits_15 ?_
        refine am_goto dX6_fits_16 (tgt := 20) rfl ?_
        exact am_iret dX6_fits_20 rfl (by decide) wp
theorem tX6_fits {i t mo : Nat} {a1 a2 a3 : Int32} {o : Option Nat} (hi : i < 9) (et : a1 = nI t) (ht : t ≤ 3) (eo : a2 = oI o) (ho : ∀ x, o = some x → x ≤ 99) (em : a3 = nI mo) (hm : mo ≤ 7) (k1 : ∀ x, o = some x → fitN i t x mo = true → Q (some (.int 1)) (hp I J b)) (k0 : (∀ x, o = some x → ¬ fitN i t x mo = true) → Q (some (.int 0)) (hp I J b)) : am_R E mX6_fits 0 [some (.int (cvc i)), some (.int a1), some (.int a2), some (.int a3)] [] (hp I J b) 64 64 Q := by
  subst et; subst eo; subst em
  obtain ⟨-, -, h3, h4, -, -⟩ := cvc_ok i hi
  cases o with
  | none =>
    have k0 := k0 (fun x h => by cases h)
    have e : oI (none : Option Nat) = -1 := rfl
    rw [e]
    refine bX6_fits_0 ⟨fun _ => ⟨fun _ => ⟨fun _ => ⟨fun _ => k0, fun z => absurd (by decide) z⟩, fun _ => ⟨fun _ => k0, fun z => absurd (by decide) z⟩⟩, fun _ => ⟨fun z => absurd z (by decide), fun _ => k0⟩⟩, fun _ => ⟨fun _ => k0, fun z => absurd (by decide) z⟩⟩
  | some x =>
    have hx := ho x rfl
    have e : oI (some x) = nI x := rfl
    rw [e]
    have k1 := k1 x rfl
    have k0 : ¬ fitN i t x mo = true → Q (some (.int 0)) (hp I J b) := fun z => k0 (fun y h => by cases h; exact z)
    unfold fitN at k1 k0
    have n0 : ¬ nI x < 0 := nI_pos (by omega)
    have is3 : (nI x = 0 ∨ nI x = 2 ∨ nI x = 3) ↔ (x = 0 ∨ x = 2 ∨ x = 3) := by
      rw [show (0 : Int32) = nI 0 from rfl, show (2 : Int32) = nI 2 from rfl, show (3 : Int32) = nI 3 from rfl, nI_eq (by omega) (by omega), nI_eq (by omega) (by omega), nI_eq (by omega) (by omega)]
    refine bX6_fits_0 ⟨fun q => ?_, fun q => ?_⟩
    · have q0 : ¬ i = 0 := fun z => q (h3.mpr z)
      rw [if_neg q0] at k1 k0
      refine ⟨fun q7 => ?_, fun q7 => ?_⟩
      · have q7' : ¬ i = 7 := fun z => q7 (h4.mpr z)
        rw [if_neg q7'] at k1 k0
        refine ne_br (n := t) (m := 3) rfl rfl (by omega) (by omega) (fun z => ?_) (fun z => ?_)
        · rw [if_pos z] at k1 k0
          exact ⟨fun y => absurd y n0, fun _ => lt_br (n := 9) rfl rfl (by omega) (by omega) (fun y => k0 (fun w => by have := of_decide_eq_true w; omega)) (fun y => k1 (decide_eq_true y))⟩
        · rw [if_neg z] at k1 k0
          exact ⟨fun y => absurd y n0, fun _ => le_br (n := mo) rfl rfl (by omega) (by omega) (fun y => k0 (fun w => by have := of_decide_eq_true w; omega)) (fun y => k1 (decide_eq_true y))⟩
      · rw [if_pos (h4.mp q7)] at k1 k0
        exact ⟨fun y => k1 (decide_eq_true (is3.mp y)), fun y => k0 (fun w => y (is3.mpr (of_decide_eq_true w)))⟩
    · rw [if_pos (h3.mp q)] at k1 k0
      exact lt_br (n := x) (m := 2) rfl rfl (by omega) (by omega) (fun y => k0 (fun w => by have := of_decide_eq_true w; omega)) (fun y => lt_br (n := 7) rfl rfl (by omega) (by omega) (fun y2 => k0 (fun w => by have := of_decide_eq_true w; omega)) (fun y2 => k1 (decide_eq_true ⟨y, y2⟩)))
theorem bX6_readLine_0 {E : Nat × (Nat → Int32)} {I : Nat → Nat → Int32} {J : Nat → Nat → Int64} {b : Bool} {a1 : Int32} {a2 : Int32} {Q : Option Value → am_H → Prop}  (wp : am_R E mX6_nextToken 0 [some (.ref 1), none] [] (hp I J b) 64 64 (fun r h' => am_R E mX6_readLine 4 [some (.ref 1), some (.int a1), some (.int a2), none, none, none, none] (r.toList ++ []) h' 64 64 Q)) : am_R E mX6_readLine 0 [some (.ref 1), some (.int a1), some (.int a2), none, none, none, none] [] (hp I J b) 64 64 Q := by
  refine am_aload_n rfl rfl dX6_readLine_0 ?_
  refine am_invV (ci := 4) (As := []) (lsZ := [some (.ref 1), none]) (st := []) dX6_readLine_1 hX6_nextToken lkX6_35 ⟨by decide, by decide⟩ (by decide) rfl (by decide) rfl rfl rfl (Nat.le_of_ble_eq_true rfl) rfl (Nat.le_of_ble_eq_true rfl) ⟨Nat.le_refl _, Nat.le_refl _⟩ (am_R.mono wp (fun r h' q => am_R.forget q ⟨rfl, ⟨rfl, ⟨rfl, trivial⟩⟩⟩))
theorem bX6_readLine_4 {E : Nat × (Nat → Int32)} {I : Nat → Nat → Int32} {J : Nat → Nat → Int64} {b : Bool} {a1 : Int32} {a2 : Int32} {Q : Option Value → am_H → Prop}  (wp : am_R E mX6_verbHere 0 [some (.ref 1)] [] (hp I J b) 64 64 (fun r h' => am_R E mX6_readLine 8 [some (.ref 1), some (.int a1), some (.int a2), none, none, none, none] (r.toList ++ []) h' 64 64 Q)) : am_R E mX6_readLine 4 [some (.ref 1), some (.int a1), some (.int a2), none, none, none, none] [] (hp I J b) 64 64 Q := by
  refine am_aload_n rfl rfl dX6_readLine_4 ?_
  refine am_invV (ci := 4) (As := []) (lsZ := [some (.ref 1)]) (st := []) dX6_readLine_5 hX6_verbHere lkX6_38 ⟨by decide, by decide⟩ (by decide) rfl (by decide) rfl rfl rfl (Nat.le_of_ble_eq_true rfl) rfl (Nat.le_of_ble_eq_true rfl) ⟨Nat.le_refl _, Nat.le_refl _⟩ (am_R.mono wp (fun r h' q => am_R.forget q ⟨rfl, ⟨rfl, ⟨rfl, trivial⟩⟩⟩))
theorem bX6_readLine_8 {E : Nat × (Nat → Int32)} {I : Nat → Nat → Int32} {J : Nat → Nat → Int64} {b : Bool} {a1 : Int32} {a2 : Int32} {x0 : Int32} {Q : Option Value → am_H → Prop}  (wp : ((¬ x0 = (-1) → ∃ j2, a1 = nI j2 ∧ j2 < 56 ∧ am_R E mX6_numbersOf 0 [some (.int x0)] [] (hp (u2 I 3 j2 x0) J b) 64 64 (fun r h' => am_R E mX6_readLine 27 [some (.ref 1), some (.int a1), some (.int a2), some (.int x0), none, none, none] (r.toList ++ []) h' 64 64 Q)) ∧ (x0 = (-1) → Q (some (.int 0)) (hp I J b)))) : am_R E mX6_readLine 8 [some (.ref 1), some (.int a1), some (.int a2), none, none, none, none] [.int x0] (hp I J b) 64 64 Q := by
  refine am_istore_n (ls' := [some (.ref 1), some (.int a1), some (.int a2), some (.int x0), none, none, none]) rfl (by decide) rfl rfl dX6_readLine_8 ?_
  refine am_iload_n rfl rfl dX6_readLine_9 ?_
  refine am_iconst (-1) rfl dX6_readLine_10 ?_
  refine am_icmp_ne dX6_readLine_11 (tgt := 16) rfl (fun hc1 => ?_) (fun hc1 => ?_)
  · have wp := wp.1 hc1
    refine am_aload_n rfl rfl dX6_readLine_16 ?_
    refine am_getA (r := 3) dX6_readLine_17 flX6_15 (Or.inr ⟨_, rfl⟩) rfl (by decide) rfl ?_
    refine am_iload_n rfl rfl dX6_readLine_20 ?_
    refine am_iload_n rfl rfl dX6_readLine_21 ?_
    obtain ⟨j2, e2, w2, wp⟩ := wp
    refine am_iastN (j := j2) dX6_readLine_22 rfl (by decide) e2 w2 (by decide) ?_
    refine am_iload_n rfl rfl dX6_readLine_23 ?_
    refine am_invS (As := [.int x0]) (lsZ := [some (.int x0)]) (st := []) dX6_readLine_24 hX6_numbersOf lkX6_42 ⟨by decide, by decide⟩ rfl rfl (Nat.le_of_ble_eq_true rfl) rfl (Nat.le_of_ble_eq_true rfl) ⟨Nat.le_refl _, Nat.le_refl _⟩ (am_R.mono wp (fun r h' q => am_R.forget q ⟨rfl, ⟨rfl, ⟨rfl, ⟨rfl, trivial⟩⟩⟩⟩))
  · have wp := wp.2 hc1
    refine am_iconst 0 rfl dX6_readLine_14 ?_
    exact am_iret dX6_readLine_15 rfl (by decide) wp
theorem bX6_readLine_27 {E : Nat × (Nat → Int32)} {I : Nat → Nat → Int32} {J : Nat → Nat → Int64} {b : Bool} {a1 : Int32} {a2 : Int32} {a3 : Int32} {x0 : Int32} {Q : Option Value → am_H → Prop}  (wp : am_R E mX6_readLine 32 [some (.ref 1), some (.int a1), some (.int a2), some (.int a3), some (.int x0), some (.int 1), none] [] (hp I J b) 64 64 Q) : am_R E mX6_readLine 27 [some (.ref 1), some (.int a1), some (.int a2), some (.int a3), none, none, none] [.int x0] (hp I J b) 64 64 Q := by
  refine am_istore (ls' := [some (.ref 1), some (.int a1), some (.int a2), some (.int a3), some (.int x0), none, none]) (by decide) rfl rfl dX6_readLine_27 ?_
  refine am_iconst 1 rfl dX6_readLine_29 ?_
  refine am_istore (ls' := [some (.ref 1), some (.int a1), some (.int a2), some (.int a3), some (.int x0), some (.int 1), none]) (by decide) rfl rfl dX6_readLine_30 ?_
  exact am_R.forget wp ⟨rfl, ⟨rfl, ⟨rfl, ⟨rfl, ⟨rfl, ⟨rfl, trivial⟩⟩⟩⟩⟩⟩
theorem bX6_readLine_32 {E : Nat × (Nat → Int32)} {I : Nat → Nat → Int32} {J : Nat → Nat → Int64} {b : Bool} {a1 : Int32} {a2 : Int32} {a3 : Int32} {a4 : Int32} {a5 : Int32} {Q : Option Value → am_H → Prop}  (wp : ((a4 < a5 → Q (some (.int 1)) (hp I J b)) ∧ (¬ a4 < a5 → am_R E mX6_nextToken 0 [some (.ref 1), none] [] (hp I J b) 64 64 (fun r h' => am_R E mX6_readLine 43 [some (.ref 1), some (.int a1), some (.int a2), some (.int a3), some (.int a4), some (.int a5), none] (r.toList ++ []) h' 64 64 Q)))) : am_R E mX6_readLine 32 [some (.ref 1), some (.int a1), some (.int a2), some (.int a3), some (.int a4), some (.int a5), none] [] (hp I J b) 64 64 Q := by
  refine am_iload rfl dX6_readLine_32 ?_
  refine am_iload rfl dX6_readLine_34 ?_
  refine am_icmp_gt dX6_readLine_36 (tgt := 80) rfl (fun hc1 => ?_) (fun hc1 => ?_)
  · have wp := wp.1 hc1
    refine am_iconst 1 rfl dX6_readLine_80 ?_
    exact am_iret dX6_readLine_81 rfl (by decide) wp
  · have wp := wp.2 hc1
    refine am_aload_n rfl rfl dX6_readLine_39 ?_
    refine am_invV (ci := 4) (As := []) (lsZ := [some (.ref 1), none]) (st := []) dX6_readLine_40 hX6_nextToken lkX6_35 ⟨by decide, by decide⟩ (by decide) rfl (by decide) rfl rfl rfl (Nat.le_of_ble_eq_true rfl) rfl (Nat.le_of_ble_eq_true rfl) ⟨Nat.le_refl _, Nat.le_refl _⟩ (am_R.mono wp (fun r h' q => am_R.forget q ⟨rfl, ⟨rfl, ⟨rfl, ⟨rfl, ⟨rfl, ⟨rfl, trivial⟩⟩⟩⟩⟩⟩))
theorem bX6_readLine_43 {E : Nat × (Nat → Int32)} {I : Nat → Nat → Int32} {J : Nat → Nat → Int64} {b : Bool} {a1 : Int32} {a2 : Int32} {a3 : Int32} {a4 : Int32} {a5 : Int32} {Q : Option Value → am_H → Prop}  (wp : am_R E mX6_numberHere 0 [some (.ref 1), none, none, none] [] (hp I J b) 64 64 (fun r h' => am_R E mX6_readLine 47 [some (.ref 1), some (.int a1), some (.int a2), some (.int a3), some (.int a4), some (.int a5), none] (r.toList ++ []) h' 64 64 Q)) : am_R E mX6_readLine 43 [some (.ref 1), some (.int a1), some (.int a2), some (.int a3), some (.int a4), some (.int a5), none] [] (hp I J b) 64 64 Q := by
  refine am_aload_n rfl rfl dX6_readLine_43 ?_
  refine am_invV (ci := 4) (As := []) (lsZ := [some (.ref 1), none, none, none]) (st := []) dX6_readLine_44 hX6_numberHere lkX6_46 ⟨by decide, by decide⟩ (by decide) rfl (by decide) rfl rfl rfl (Nat.le_of_ble_eq_true rfl) rfl (Nat.le_of_ble_eq_true rfl) ⟨Nat.le_refl _, Nat.le_refl _⟩ (am_R.mono wp (fun r h' q => am_R.forget q ⟨rfl, ⟨rfl, ⟨rfl, ⟨rfl, ⟨rfl, ⟨rfl, trivial⟩⟩⟩⟩⟩⟩))
theorem bX6_readLine_47 {E : Nat × (Nat → Int32)} {I : Nat → Nat → Int32} {J : Nat → Nat → Int64} {b : Bool} {a1 : Int32} {a2 : Int32} {a3 : Int32} {a4 : Int32} {a5 : Int32} {x0 : Int32} {Q : Option Value → am_H → Prop}  (wp : am_R E mX6_fits 0 [some (.int a3), some (.int a5), some (.int x0), some (.int a2)] [] (hp I J b) 64 64 (fun r h' => am_R E mX6_readLine 58 [some (.ref 1), some (.int a1), some (.int a2), some (.int a3), some (.int a4), some (.int a5), some (.int x0)] (r.toList ++ []) h' 64 64 Q)) : am_R E mX6_readLine 47 [some (.ref 1), some (.int a1), some (.int a2), some (.int a3), some (.int a4), some (.int a5), none] [.int x0] (hp I J b) 64 64 Q := by
  refine am_istore (ls' := [some (.ref 1), some (.int a1), some (.int a2), some (.int a3), some (.int a4), some (.int a5), some (.int x0)]) (by decide) rfl rfl dX6_readLine_47 ?_
  refine am_iload_n rfl rfl dX6_readLine_49 ?_
  refine am_iload rfl dX6_readLine_50 ?_
  refine am_iload rfl dX6_readLine_52 ?_
  refine am_iload_n rfl rfl dX6_readLine_54 ?_
  refine am_invS (As := [.int a3, .int a5, .int x0, .int a2]) (lsZ := [some (.int a3), some (.int a5), some (.int x0), some (.int a2)]) (st := []) dX6_readLine_55 hX6_fits lkX6_49 ⟨by decide, by decide⟩ rfl rfl (Nat.le_of_ble_eq_true rfl) rfl (Nat.le_of_ble_eq_true rfl) ⟨Nat.le_refl _, Nat.le_refl _⟩ (am_R.mono wp (fun r h' q => am_R.forget q ⟨rfl, ⟨rfl, ⟨rfl, ⟨rfl, ⟨rfl, ⟨rfl, ⟨rfl, trivial⟩⟩⟩⟩⟩⟩⟩))
theorem bX6_readLine_58 {E : Nat × (Nat → Int32)} {I : Nat → Nat → Int32} {J : Nat → Nat → Int64} {b : Bool} {a1 : Int32} {a2 : Int32} {a3 : Int32} {a4 : Int32} {a5 : Int32} {a6 : Int32} {x0 : Int32} {Q : Option Value → am_H → Prop}  (wp : ((¬ x0 = 0 → ∃ j2, (a1 + a5) = nI j2 ∧ j2 < 56 ∧ am_R E mX6_readLine 32 [some (.ref 1), some (.int a1), some (.int a2), some (.int a3), some (.int a4), some (.int (a5 + 1)), none] [] (hp (u2 I 3 j2 a6) J b) 64 64 Q) ∧ (x0 = 0 → Q (some (.int 0)) (hp I J b)))) : am_R E mX6_readLine 58 [some (.ref 1), some (.int a1), some (.int a2), some (.int a3), some (.int a4), some (.int a5), some (.int a6)] [.int x0] (hp I J b) 64 64 Q := by
  refine am_if_ne dX6_readLine_58 (tgt := 63) rfl (fun hc1 => ?_) (fun hc1 => ?_)
  · have wp := wp.1 hc1
    refine am_aload_n rfl rfl dX6_readLine_63 ?_
    refine am_getA (r := 3) dX6_readLine_64 flX6_15 (Or.inr ⟨_, rfl⟩) rfl (by decide) rfl ?_
    refine am_iload_n rfl rfl dX6_readLine_67 ?_
    refine am_iload rfl dX6_readLine_68 ?_
    refine am_iadd dX6_readLine_70 ?_
    refine am_iload rfl dX6_readLine_71 ?_
    obtain ⟨j2, e2, w2, wp⟩ := wp
    refine am_iastN (j := j2) dX6_readLine_73 rfl (by decide) e2 w2 (by decide) ?_
    refine am_iinc (ls' := [some (.ref 1), some (.int a1), some (.int a2), some (.int a3), some (.int a4), some (.int (a5 + 1)), some (.int a6)]) (by decide) rfl rfl rfl dX6_readLine_74 ?_
    refine am_goto dX6_readLine_77 (tgt := 32) rfl ?_
    exact am_R.forget wp ⟨rfl, ⟨rfl, ⟨rfl, ⟨rfl, ⟨rfl, ⟨rfl, trivial⟩⟩⟩⟩⟩⟩
  · have wp := wp.2 hc1
    refine am_iconst 0 rfl dX6_readLine_61 ?_
    exact am_iret dX6_readLine_62 rfl (by decide) wp
theorem tX6_readLine {a1 a2 : Int32} {c mo : Nat} (e1 : I 1 1 = nI L) (hL : L ≤ 200) (e5 : I 1 5 = nI p) (hp' : p ≤ L) (hT : ∀ j, j < L → I 2 j = T j) (ea : a1 = nI (4 * c)) (hc : c < 14) (em : a2 = nI mo) (hm : mo ≤ 7) (k0 : ∀ I1 x, pL T L p mo = .inl x → Cs I I1 → I1 1 4 = nI x → Q (some (.int 0)) (hp I1 J b)) (k1 : ∀ I1 i q xs, pL T L p mo = .inr (i, q, xs) → Cs I I1 → I1 1 5 = nI q → (∀ j, j < 4 * c → I1 3 j = I 3 j) → I1 3 (4 * c) = cvc i → (∀ t, 1 ≤ t → t < 1 + cntN i → I1 3 (4 * c + t) = nI (xs t)) → Q (some (.int 1)) (hp I1 J b)) : am_R E mX6_readLine 0 [some (.ref 1), some (.int a1), some (.int a2), none, none, none, none] [] (hp I J b) 64 64 Q := by
  subst ea; subst em
  obtain ⟨s1, s2⟩ := ts_ok (T := T) hp'
  obtain ⟨t1, t2, t3⟩ := te_ok (T := T) hp'
  have cs0 : Cs I (u2 (u2 I 1 4 (nI (ts T L p))) 1 5 (nI (te T L p))) := ((Cs.rf I).u1' (by decide)).u1' (by decide)
  refine bX6_readLine_0 (tX6_nextToken e1 hL e5 hp' hT (bX6_readLine_4 ?_))
  have at0 : At (u2 (u2 I 1 4 (nI (ts T L p))) 1 5 (nI (te T L p))) T L p := ⟨by rw [cs0.2]; exact e1, hL, hp', fun j hj => by rw [cs0.1 2 (by decide) (by decide)]; exact hT j hj, by rw [u2_at, if_neg (by decide), u2_at, if_pos rfl], by rw [u2_at, if_pos rfl]⟩
  refine tX6_verbHere at0 (bX6_readLine_8 ?_)
  unfold pL at k0 k1
  cases hv : vi (lsT T L p) with
  | none =>
    rw [hv] at k0
    exact ⟨fun q => absurd rfl q, fun _ => k0 _ _ rfl cs0 at0.2.2.2.2.1⟩
  | some i =>
    have hi := (vi_of hv).1
    obtain ⟨-, -, c3, c4, c5, c6⟩ := cvc_ok i hi
    have hcn : 1 ≤ cntN i ∧ cntN i ≤ 3 := by omega
    rw [hv] at k0 k1
    simp only at k0 k1
    refine ⟨fun _ => ⟨4 * c, rfl, by omega, ?_⟩, fun q => absurd q c5⟩
    refine tX6_numbersOf hi (bX6_readLine_27 ?_)
    generalize hres : pN T L i mo (cntN i) 1 (te T L p) (fun _ => 0) = res at k0 k1
    have loop : ∀ (r t q : Nat) (xs : Nat → Nat) (I1 : Nat → Nat → Int32), r + t = 1 + cntN i → 1 ≤ t → q ≤ L → pN T L i mo r t q xs = res → Cs I I1 → I1 1 5 = nI q → (∀ j, j < 4 * c → I1 3 j = I 3 j) → I1 3 (4 * c) = cvc i → (∀ u, 1 ≤ u → u < t → I1 3 (4 * c + u) = nI (xs u)) → am_R E mX6_readLine 32 [some (.ref 1), some (.int (nI (4 * c))), some (.int (nI mo)), some (.int (cvc i)), some (.int (nI (cntN i))), some (.int (nI t)), none] [] (hp I1 J b) 64 64 Q := by
      intro r
      induction r with
      | zero =>
        intro t q xs I1 hrt ht hq he hC h5 h3 h30 h3t
        rw [pN] at he
        subst he
        refine bX6_readLine_32 (lt_br rfl rfl (by omega) (by omega) (fun _ => ?_) (fun z => by omega))
        exact k1 I1 i q xs rfl hC h5 h3 h30 (fun u h1 h2 => h3t u h1 (by omega))
      | succ r ih =>
        intro t q xs I1 hrt ht hq he hC h5 h3 h30 h3t
        obtain ⟨w1, w2⟩ := ts_ok (T := T) hq
        obtain ⟨v1, v2, v3⟩ := te_ok (T := T) hq
        have e1' : I1 1 1 = nI L := by rw [hC.2]; exact e1
        have hT' : ∀ j, j < L → I1 2 j = T j := fun j hj => by rw [hC.1 2 (by decide) (by decide)]; exact hT j hj
        have cs1 : Cs I (u2 (u2 I1 1 4 (nI (ts T L q))) 1 5 (nI (te T L q))) := (hC.u1' (by decide)).u1' (by decide)
        have at1 : At (u2 (u2 I1 1 4 (nI (ts T L q))) 1 5 (nI (te T L q))) T L q := ⟨by rw [cs1.2]; exact e1, hL, hq, fun j hj => by rw [cs1.1 2 (by decide) (by decide)]; exact hT j hj, by rw [u2_at, if_neg (by decide), u2_at, if_pos rfl], by rw [u2_at, if_pos rfl]⟩
        have g3 : u2 (u2 I1 1 4 (nI (ts T L q))) 1 5 (nI (te T L q)) 3 = I1 3 := by rw [u2_n _ _ _ (by decide), u2_n _ _ _ (by decide)]
        refine bX6_readLine_32 (lt_br rfl rfl (by omega) (by omega) (fun z => by omega) (fun _ => ?_))
        refine tX6_nextToken e1' hL h5 hq hT' (bX6_readLine_43 ?_)
        refine tX6_numberHere at1 (bX6_readLine_47 ?_)
        rw [pN] at he
        refine tX6_fits (i := i) (t := t) (mo := mo) (o := nv T L q) hi rfl (by omega) rfl (fun x hx => nv_le hq hx) rfl hm (fun x hx hf => bX6_readLine_58 ⟨fun _ => ⟨4 * c + t, nI_add _ _, by omega, ?_⟩, fun z => absurd z (by decide)⟩) (fun hf => bX6_readLine_58 ⟨fun z => absurd rfl z, fun _ => ?_⟩)
        · rw [hx] at he ⊢
          simp only [if_pos hf] at he
          rw [n1]
          refine ih (t + 1) (te T L q) (va_up xs t x) _ (by omega) (by omega) v2 he cs1.u3 ?_ (fun j hj => ?_) ?_ (fun u hu1 hu2 => ?_)
          · rw [u2_n _ _ _ (by decide)]; exact at1.2.2.2.2.2
          · rw [u2_at, if_neg (by omega), g3]; exact h3 j hj
          · rw [u2_at, if_neg (by omega), g3]; exact h30
          · rw [u2_at, g3]
            by_cases z : u = t
            · rw [if_pos (by omega), z, up_s]; rfl
            · rw [if_neg (by omega), up_n z]; exact h3t u hu1 (by omega)
        · have e : res = .inl (ts T L q) := by
            cases hn : nv T L q with
            | none => rw [hn] at he; exact he.symm
            | some x =>
              rw [hn] at he
              simp only [if_neg (hf x hn)] at he
              exact he.symm
          rw [e] at k0
          exact k0 _ _ rfl cs1 at1.2.2.2.2.1
    refine loop (cntN i) 1 (te T L p) (fun _ => 0) _ (by omega) (Nat.le_refl _) t2 hres cs0.u3 ?_ (fun j hj => ?_) ?_ (fun u h1 h2 => by omega)
    · rw [u2_n _ _ _ (by decide)]; exact at0.2.2.2.2.2
    · rw [u2_at, if_neg (by omega), u2_n _ _ _ (by decide), u2_n _ _ _ (by decide)]
    · rw [u2_at, if_pos rfl]; rfl
theorem bX6_read_0 {E : Nat × (Nat → Int32)} {I : Nat → Nat → Int32} {J : Nat → Nat → Int64} {b : Bool} {a1 : Int32} {Q : Option Value → am_H → Prop}  (wp : am_R E mX6_read 14 [some (.ref 1), none, some (.int a1), some (.int 0)] [] (hp (u2 (u2 I 1 5 0) 1 3 0) J b) 64 64 Q) : am_R E mX6_read 0 [some (.ref 1), some (.int a1), none, none] [] (hp I J b) 64 64 Q := by
  refine am_iload_n rfl rfl dX6_read_0 ?_
  refine am_istore_n (ls' := [some (.ref 1), some (.int a1), some (.int a1), none]) rfl (by decide) rfl rfl dX6_read_1 ?_
  refine am_aload_n rfl rfl dX6_read_2 ?_
  refine am_iconst 0 rfl dX6_read_3 ?_
  refine am_putI dX6_read_4 flX6_22 (Or.inl rfl) rfl rfl (by decide) ?_
  refine am_aload_n rfl rfl dX6_read_7 ?_
  refine am_iconst 0 rfl dX6_read_8 ?_
  refine am_putI dX6_read_9 flX6_25 (Or.inl rfl) rfl rfl (by decide) ?_
  refine am_iconst 0 rfl dX6_read_12 ?_
  refine am_istore_n (ls' := [some (.ref 1), some (.int a1), some (.int a1), some (.int 0)]) rfl (by decide) rfl rfl dX6_read_13 ?_
  exact am_R.forget wp ⟨rfl, ⟨rfl, ⟨rfl, trivial⟩⟩⟩
theorem bX6_read_14 {E : Nat × (Nat → Int32)} {I : Nat → Nat → Int32} {J : Nat → Nat → Int64} {b : Bool} {a2 : Int32} {a3 : Int32} {Q : Option Value → am_H → Prop}  (wp : ((14 ≤ a3 → Q (some (.int (I 1 4))) (hp I J b)) ∧ (¬ 14 ≤ a3 → am_R E mX6_readLine 0 [some (.ref 1), some (.int (a3 * 4)), some (.int a2), none, none, none, none] [] (hp I J b) 64 64 (fun r h' => am_R E mX6_read 28 [some (.ref 1), none, some (.int a2), some (.int a3)] (r.toList ++ []) h' 64 64 Q)))) : am_R E mX6_read 14 [some (.ref 1), none, some (.int a2), some (.int a3)] [] (hp I J b) 64 64 Q := by
  refine am_iload_n rfl rfl dX6_read_14 ?_
  refine am_bipush 14 rfl dX6_read_15 ?_
  refine am_icmp_ge dX6_read_17 (tgt := 107) rfl (fun hc1 => ?_) (fun hc1 => ?_)
  · have wp := wp.1 hc1
    refine am_aload_n rfl rfl dX6_read_107 ?_
    refine am_getI dX6_read_108 flX6_32 (Or.inl rfl) rfl (by decide) ?_
    exact am_iret dX6_read_111 rfl rfl wp
  · have wp := wp.2 hc1
    refine am_aload_n rfl rfl dX6_read_20 ?_
    refine am_iload_n rfl rfl dX6_read_21 ?_
    refine am_iconst 4 rfl dX6_read_22 ?_
    refine am_imul dX6_read_23 ?_
    refine am_iload_n rfl rfl dX6_read_24 ?_
    refine am_invV (ci := 4) (As := [.int (a3 * 4), .int a2]) (lsZ := [some (.ref 1), some (.int (a3 * 4)), some (.int a2), none, none, none, none]) (st := []) dX6_read_25 hX6_readLine lkX6_28 ⟨by decide, by decide⟩ (by decide) rfl (by decide) rfl rfl rfl (Nat.le_of_ble_eq_true rfl) rfl (Nat.le_of_ble_eq_true rfl) ⟨Nat.le_refl _, Nat.le_refl _⟩ (am_R.mono wp (fun r h' q => am_R.forget q ⟨rfl, ⟨rfl, ⟨rfl, trivial⟩⟩⟩))
theorem bX6_read_28 {E : Nat × (Nat → Int32)} {I : Nat → Nat → Int32} {J : Nat → Nat → Int64} {b : Bool} {a2 : Int32} {a3 : Int32} {x0 : Int32} {Q : Option Value → am_H → Prop}  (wp : ((¬ x0 = 0 → ∃ j2, (a3 * 4) = nI j2 ∧ j2 < 56 ∧ ((¬ (I 3 j2) = 0 → am_R E mX6_nextToken 0 [some (.ref 1), none] [] (hp (u2 I 1 3 (a3 + 1)) J b) 64 64 (fun r h' => am_R E mX6_read 69 [some (.ref 1), none, some (.int a2), some (.int a3)] (r.toList ++ []) h' 64 64 Q)) ∧ ((I 3 j2) = 0 → ∃ j4, ((a3 * 4) + 1) = nI j4 ∧ j4 < 56 ∧ am_R E mX6_nextToken 0 [some (.ref 1), none] [] (hp (u2 I 1 3 (a3 + 1)) J b) 64 64 (fun r h' => am_R E mX6_read 69 [some (.ref 1), none, some (.int (I 3 j4)), some (.int a3)] (r.toList ++ []) h' 64 64 Q)))) ∧ (x0 = 0 → Q (some (.int (I 1 4))) (hp I J b)))) : am_R E mX6_read 28 [some (.ref 1), none, some (.int a2), some (.int a3)] [.int x0] (hp I J b) 64 64 Q := by
  refine am_if_ne dX6_read_28 (tgt := 36) rfl (fun hc1 => ?_) (fun hc1 => ?_)
  · have wp := wp.1 hc1
    refine am_aload_n rfl rfl dX6_read_36 ?_
    refine am_iload_n rfl rfl dX6_read_37 ?_
    refine am_iconst 1 rfl dX6_read_38 ?_
    refine am_iadd dX6_read_39 ?_
    refine am_putI dX6_read_40 flX6_25 (Or.inl rfl) rfl rfl (by decide) ?_
    refine am_aload_n rfl rfl dX6_read_43 ?_
    refine am_getA (r := 3) dX6_read_44 flX6_15 (Or.inr ⟨_, rfl⟩) rfl (by decide) rfl ?_
    refine am_iload_n rfl rfl dX6_read_47 ?_
    refine am_iconst 4 rfl dX6_read_48 ?_
    refine am_imul dX6_read_49 ?_
    obtain ⟨j2, e2, w2, wp⟩ := wp
    refine am_ialdN (j := j2) dX6_read_50 rfl (by decide) e2 w2 (by decide) ?_
    show am_R E mX6_read 51 [some (.ref 1), none, some (.int a2), some (.int a3)] [.int (I 3 j2)] (hp (u2 I 1 3 (a3 + 1)) J b) 64 64 Q
    refine am_if_ne dX6_read_51 (tgt := 65) rfl (fun hc3 => ?_) (fun hc3 => ?_)
    · have wp := wp.1 hc3
      refine am_aload_n rfl rfl dX6_read_65 ?_
      refine am_invV (ci := 4) (As := []) (lsZ := [some (.ref 1), none]) (st := []) dX6_read_66 hX6_nextToken lkX6_35 ⟨by decide, by decide⟩ (by decide) rfl (by decide) rfl rfl rfl (Nat.le_of_ble_eq_true rfl) rfl (Nat.le_of_ble_eq_true rfl) ⟨Nat.le_refl _, Nat.le_refl _⟩ (am_R.mono wp (fun r h' q => am_R.forget q ⟨rfl, ⟨rfl, ⟨rfl, trivial⟩⟩⟩))
    · have wp := wp.2 hc3
      refine am_aload_n rfl rfl dX6_read_54 ?_
      refine am_getA (r := 3) dX6_read_55 flX6_15 (Or.inr ⟨_, rfl⟩) rfl (by decide) rfl ?_
      refine am_iload_n rfl rfl dX6_read_58 ?_
      refine am_iconst 4 rfl dX6_read_59 ?_
      refine am_imul dX6_read_60 ?_
      refine am_iconst 1 rfl dX6_read_61 ?_
      refine am_iadd dX6_read_62 ?_
      obtain ⟨j4, e4, w4, wp⟩ := wp
      refine am_ialdN (j := j4) dX6_read_63 rfl (by decide) e4 w4 (by decide) ?_
      show am_R E mX6_read 64 [some (.ref 1), none, some (.int a2), some (.int a3)] [.int (I 3 j4)] (hp (u2 I 1 3 (a3 + 1)) J b) 64 64 Q
      refine am_istore_n (ls' := [some (.ref 1), none, some (.int (I 3 j4)), some (.int a3)]) rfl (by decide) rfl rfl dX6_read_64 ?_
      refine am_aload_n rfl rfl dX6_read_65 ?_
      refine am_invV (ci := 4) (As := []) (lsZ := [some (.ref 1), none]) (st := []) dX6_read_66 hX6_nextToken lkX6_35 ⟨by decide, by decide⟩ (by decide) rfl (by decide) rfl rfl rfl (Nat.le_of_ble_eq_true rfl) rfl (Nat.le_of_ble_eq_true rfl) ⟨Nat.le_refl _, Nat.le_refl _⟩ (am_R.mono wp (fun r h' q => am_R.forget q ⟨rfl, ⟨rfl, ⟨rfl, trivial⟩⟩⟩))
  · have wp := wp.2 hc1
    refine am_aload_n rfl rfl dX6_read_31 ?_
    refine am_getI dX6_read_32 flX6_32 (Or.inl rfl) rfl (by decide) ?_
    exact am_iret dX6_read_35 rfl rfl wp
theorem bX6_read_69 {E : Nat × (Nat → Int32)} {I : Nat → Nat → Int32} {J : Nat → Nat → Int64} {b : Bool} {a2 : Int32} {a3 : Int32} {Q : Option Value → am_H → Prop}  (wp : (((I 1 4) < (I 1 1) → ∃ j2, (I 1 4) = nI j2 ∧ j2 < 200 ∧ (((I 2 j2) = 59 → am_R E mX6_read 14 [some (.ref 1), none, some (.int a2), some (.int (a3 + 1))] [] (hp I J b) 64 64 Q) ∧ (¬ (I 2 j2) = 59 → Q (some (.int (I 1 4))) (hp I J b)))) ∧ (¬ (I 1 4) < (I 1 1) → Q (some (.int (-1))) (hp I J b)))) : am_R E mX6_read 69 [some (.ref 1), none, some (.int a2), some (.int a3)] [] (hp I J b) 64 64 Q := by
  refine am_aload_n rfl rfl dX6_read_69 ?_
  refine am_getI dX6_read_70 flX6_32 (Or.inl rfl) rfl (by decide) ?_
  refine am_aload_n rfl rfl dX6_read_73 ?_
  refine am_getI dX6_read_74 flX6_18 (Or.inl rfl) rfl (by decide) ?_
  refine am_icmp_lt dX6_read_77 (tgt := 82) rfl (fun hc1 => ?_) (fun hc1 => ?_)
  · have wp := wp.1 hc1
    refine am_aload_n rfl rfl dX6_read_82 ?_
    refine am_getA (r := 2) dX6_read_83 flX6_9 (Or.inr ⟨_, rfl⟩) rfl (by decide) rfl ?_
    refine am_aload_n rfl rfl dX6_read_86 ?_
    refine am_getI dX6_read_87 flX6_32 (Or.inl rfl) rfl (by decide) ?_
    obtain ⟨j2, e2, w2, wp⟩ := wp
    refine am_ialdN (j := j2) dX6_read_90 rfl (by decide) e2 w2 (by decide) ?_
    refine am_bipush 59 rfl dX6_read_91 ?_
    refine am_icmp_eq dX6_read_93 (tgt := 101) rfl (fun hc3 => ?_) (fun hc3 => ?_)
    · have wp := wp.1 hc3
      refine am_iinc (ls' := [some (.ref 1), none, some (.int a2), some (.int (a3 + 1))]) (by decide) rfl rfl rfl dX6_read_101 ?_
      refine am_goto dX6_read_104 (tgt := 14) rfl ?_
      exact am_R.forget wp ⟨rfl, ⟨rfl, ⟨rfl, trivial⟩⟩⟩
    · have wp := wp.2 hc3
      refine am_aload_n rfl rfl dX6_read_96 ?_
      refine am_getI dX6_read_97 flX6_32 (Or.inl rfl) rfl (by decide) ?_
      exact am_iret dX6_read_100 rfl rfl wp
  · have wp := wp.2 hc1
    refine am_iconst (-1) rfl dX6_read_80 ?_
    exact am_iret dX6_read_81 rfl rfl wp
/-- what the class's lines hold -/
def LnC (I : Nat → Nat → Int32) (c : Nat) (D : Nat → Nat × (Nat → Nat)) : Prop := ∀ k, k < c → I 3 (4 * k) = cvc (D k).1 ∧ ∀ t, 1 ≤ t → t < 1 + cntN (D k).1 → I 3 (4 * k + t) = nI ((D k).2 t)
theorem tX6_read {a1 : Int32} {mo : Nat} (e1 : I 1 1 = nI L) (hL : L ≤ 200) (hT : ∀ j, j < L → I 2 j = T j) (em : a1 = nI mo) (hm : mo ≤ 7) (k0 : ∀ I1 x, pR T L 14 0 mo 0 (fun _ => (0, fun _ => 0)) = .inl x → Cs I I1 → Q (some (.int (nI x))) (hp I1 J b)) (k1 : ∀ I1 c D, pR T L 14 0 mo 0 (fun _ => (0, fun _ => 0)) = .inr (c, D) → Cs I I1 → I1 1 3 = nI c → LnC I1 c D → Q (some (.int (-1))) (hp I1 J b)) : am_R E mX6_read 0 [some (.ref 1), some (.int a1), none, none] [] (hp I J b) 64 64 Q := by
  subst em
  generalize hres : pR T L 14 0 mo 0 (fun _ => (0, fun _ => 0)) = res at k0 k1
  have loop : ∀ (f p m c : Nat) (D : Nat → Nat × (Nat → Nat)) (I1 : Nat → Nat → Int32), f + c = 14 → 1 ≤ f → p ≤ L → m ≤ 7 → pR T L f p m c D = res → Cs I I1 → I1 1 5 = nI p → LnC I1 c D → am_R E mX6_read 14 [some (.ref 1), none, some (.int (nI m)), some (.int (nI c))] [] (hp I1 J b) 64 64 Q := by
    intro f
    induction f with
    | zero => intro p m c D I1 hf h1 hpL hm he hC h5 hD; omega
    | succ f ih =>
      intro p m c D I1 hf h1 hpL hm he hC h5 hD
      have e1' : I1 1 1 = nI L := by rw [hC.2]; exact e1
      have hT' : ∀ j, j < L → I1 2 j = T j := fun j hj => by rw [hC.1 2 (by decide) (by decide)]; exact hT j hj
      have c4 : nI c * 4 = nI (4 * c) := by rw [show (4 : Int32) = nI 4 from rfl, pk_mul, Nat.mul_comm]
      refine bX6_read_14 (le_br (n := 14) rfl rfl (by omega) (by omega) (fun z => by omega) (fun _ => ?_))
      rw [pR] at he
      refine tX6_readLine (c := c) (mo := m) e1' hL h5 hpL hT' c4 (by omega) rfl hm (fun I2 x hx hC2 h4 => ?_) (fun I2 i q xs hx hC2 h52 h3 h30 h3t => ?_)
      · rw [hx] at he
        have hC3 : Cs I I2 := ⟨fun a z1 z2 => (hC2.1 a z1 z2).trans (hC.1 a z1 z2), hC2.2.trans hC.2⟩
        refine bX6_read_28 ⟨fun z => absurd rfl z, fun _ => ?_⟩
        rw [h4]
        exact k0 I2 x he.symm hC3
      · rw [hx] at he
        simp only at he
        have hC3 : Cs I I2 := ⟨fun a z1 z2 => (hC2.1 a z1 z2).trans (hC.1 a z1 z2), hC2.2.trans hC.2⟩
        obtain ⟨hi, hq, hfit⟩ := (pL_ok (T := T) hpL).1 i q xs hx
        obtain ⟨-, -, v3, -, -, -⟩ := cvc_ok i hi
        obtain ⟨w1, w2⟩ := ts_ok (T := T) hq
        obtain ⟨v1, v2, v4⟩ := te_ok (T := T) hq
        have hD2 : ∀ I3 : Nat → Nat → Int32, I3 3 = I2 3 → LnC I3 (c + 1) (va_up D c (i, xs)) := by
          intro I3 e3 k hk
          by_cases z : k = c
          · subst z
            rw [up_s, e3]
            exact ⟨h30, h3t⟩
          · rw [up_n z, e3]
            obtain ⟨y1, y2⟩ := hD k (by omega)
            refine ⟨by rw [h3 _ (by omega)]; exact y1, fun t t1 t2 => ?_⟩
            have hc3 : cntN (D k).1 ≤ 3 := by unfold cntN; split <;> (try split) <;> omega
            rw [h3 _ (by omega)]; exact y2 t t1 t2
        have hm2 : (if i = 0 then xs 1 else m) ≤ 7 := by
          by_cases z : i = 0
          · rw [if_pos z]
            have hcn : 1 ≤ cntN i := by unfold cntN; split <;> (try split) <;> omega
            have := (hfit 1 (by omega) (by omega)).1
            unfold fitN at this
            rw [if_pos z] at this
            exact (of_decide_eq_true this).2
          · rw [if_neg z]; exact hm
        -- behind a line
        have cont : ∀ m2 : Int32, m2 = nI (if i = 0 then xs 1 else m) → am_R E mX6_nextToken 0 [some (.ref 1), none] [] (hp (u2 I2 1 3 (nI c + 1)) J b) 64 64 (fun r h' => am_R E mX6_read 69 [some (.ref 1), none, some (.int m2), some (.int (nI c))] (r.toList ++ []) h' 64 64 Q) := by
          intro m2 em2
          subst em2
          have cs2 : Cs I (u2 I2 1 3 (nI c + 1)) := hC3.u1' (by decide)
          refine tX6_nextToken (T := T) (L := L) (p := q) (by rw [cs2.2]; exact e1) hL (by rw [u2_at, if_neg (by decide)]; exact h52) hq (fun j hj => by rw [cs2.1 2 (by decide) (by decide)]; exact hT j hj) ?_
          have cs4 : Cs I (u2 (u2 (u2 I2 1 3 (nI c + 1)) 1 4 (nI (ts T L q))) 1 5 (nI (te T L q))) := (cs2.u1' (by decide)).u1' (by decide)
          have g4 : u2 (u2 (u2 I2 1 3 (nI c + 1)) 1 4 (nI (ts T L q))) 1 5 (nI (te T L q)) 1 4 = nI (ts T L q) := by rw [u2_at, if_neg (by decide), u2_at, if_pos rfl]
          have g5 : u2 (u2 (u2 I2 1 3 (nI c + 1)) 1 4 (nI (ts T L q))) 1 5 (nI (te T L q)) 1 5 = nI (te T L q) := by rw [u2_at, if_pos rfl]
          have gc : u2 (u2 (u2 I2 1 3 (nI c + 1)) 1 4 (nI (ts T L q))) 1 5 (nI (te T L q)) 1 3 = nI (c + 1) := by rw [u2_at, if_neg (by decide), u2_at, if_neg (by decide), u2_at, if_pos rfl, n1]
          have g1 : u2 (u2 (u2 I2 1 3 (nI c + 1)) 1 4 (nI (ts T L q))) 1 5 (nI (te T L q)) 1 1 = nI L := by rw [cs4.2]; exact e1
          have e3 : u2 (u2 (u2 I2 1 3 (nI c + 1)) 1 4 (nI (ts T L q))) 1 5 (nI (te T L q)) 3 = I2 3 := by rw [u2_n _ _ _ (by decide), u2_n _ _ _ (by decide), u2_n _ _ _ (by decide)]
          generalize u2 (u2 (u2 I2 1 3 (nI c + 1)) 1 4 (nI (ts T L q))) 1 5 (nI (te T L q)) = H at cs4 g4 g5 gc g1 e3 ⊢
          refine bX6_read_69 (lt_br (n := ts T L q) (m := L) g4 g1 (by omega) (by omega) (fun z => ⟨ts T L q, g4, by omega, ?_⟩) (fun z => ?_))
          · rw [if_pos z] at he
            rw [cs4.1 2 (by decide) (by decide), hT _ z]
            refine ⟨fun y => ?_, fun y => ?_⟩
            · rw [if_pos y] at he
              by_cases f0 : f = 0
              · rw [if_pos f0] at he
                rw [n1]
                refine bX6_read_14 (le_br (n := 14) (m := c + 1) rfl rfl (by omega) (by omega) (fun _ => ?_) (fun z => by omega))
                rw [g4]
                exact k0 _ _ he.symm cs4
              · rw [if_neg f0] at he
                rw [n1]
                exact ih (te T L q) (if i = 0 then xs 1 else m) (c + 1) (va_up D c (i, xs)) _ (by omega) (by omega) v2 hm2 he cs4 g5 (hD2 _ e3)
            · rw [if_neg y] at he
              rw [g4]
              exact k0 _ _ he.symm cs4
          · rw [if_neg (by omega)] at he
            exact k1 _ _ _ he.symm cs4 gc (hD2 _ e3)
        refine bX6_read_28 ⟨fun _ => ⟨4 * c, c4, by omega, ?_⟩, fun z => absurd z (by decide)⟩
        rw [h30]
        refine ⟨fun z => cont _ (by rw [if_neg (fun y => z (v3.mpr y))]), fun z => ⟨4 * c + 1, by rw [c4, n1], by omega, cont _ ?_⟩⟩
        have hcn : 1 ≤ cntN i := by unfold cntN; split <;> (try split) <;> omega
        rw [if_pos (v3.mp z)]
        exact h3t 1 (by omega) (by omega)
  refine bX6_read_0 (loop 14 0 mo 0 (fun _ => (0, fun _ => 0)) _ (by omega) (by omega) (by omega) hm hres (((Cs.rf I).u1' (by decide)).u1' (by decide)) ?_ (fun k hk => by omega))
  rw [u2_at, if_neg (by decide), u2_at, if_pos rfl]; rfl
end P21
