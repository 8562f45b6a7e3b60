/-! ===== pair: week ===== -/
section P13
variable {E : Nat × (Nat → Int32)} {I I' : Nat → Nat → Int32} {J : Nat → Nat → Int64} {b : Bool} {n : Nat} {Q : Option Value → am_H → Prop}
theorem swp (I : Nat → Nat → Int32) (J : Nat → Nat → Int64) (b : Bool) : am_sA (am_sA (hp I J b) 41 4 (some (pnxt b))) 41 5 (some (pbst b)) = hp I J (!b) := by
  unfold am_sA hp
  have e : (fun a => if a = 41 then va_up ((fun a => if a = 41 then va_up (rf b 41) 4 (some (pnxt b)) else rf b a) 41) 5 (some (pbst b)) else (fun a => if a = 41 then va_up (rf b 41) 4 (some (pnxt b)) else rf b a) a) = rf (!b) := by
    funext a
    by_cases h : a = 41
    · subst h
      simp only [if_true]
      funext j
      unfold va_up
      rcases (show j = 0 ∨ j = 1 ∨ j = 2 ∨ j = 3 ∨ j = 4 ∨ j = 5 ∨ 6 ≤ j by omega) with rfl | rfl | rfl | rfl | rfl | rfl | h
      · rfl
      · rfl
      · rfl
      · rfl
      · cases b <;> rfl
      · cases b <;> rfl
      · rw [if_neg (by omega), if_neg (by omega)]
        have z : ∀ (l : List (Option Nat)), l.length ≤ j → l.getD j none = none := fun l hl => by rw [List.getD_eq_getElem?_getD, List.getElem?_eq_none hl]; rfl
        exact (z [some 4, some 42, some 43, some 44, some (pbst b), some (pnxt b)] h).trans (z [some 4, some 42, some 43, some 44, some (pbst (!b)), some (pnxt (!b))] h).symm
    · simp only [if_neg h]
      unfold rf
      split <;> first | rfl | (exact absurd rfl h)
  exact congrArg (fun z => (I, J, z)) e
theorem bX4_addDay_0 {E : Nat × (Nat → Int32)} {I : Nat → Nat → Int32} {J : Nat → Nat → Int64} {b : Bool} {a1 : Int32} {Q : Option Value → am_H → Prop}  (wp : am_R E mX4_addDay 2 [some (.ref 41), some (.int a1), some (.int 0), none] [] (hp I J b) 64 64 Q) : am_R E mX4_addDay 0 [some (.ref 41), some (.int a1), none, none] [] (hp I J b) 64 64 Q := by
  refine am_iconst 0 rfl dX4_addDay_0 ?_
  refine am_istore_n (ls' := [some (.ref 41), some (.int a1), some (.int 0), none]) rfl (by decide) rfl rfl dX4_addDay_1 ?_
  exact am_R.forget wp ⟨rfl, ⟨rfl, ⟨rfl, trivial⟩⟩⟩
theorem bX4_addDay_2 {E : Nat × (Nat → Int32)} {I : Nat → Nat → Int32} {J : Nat → Nat → Int64} {b : Bool} {a1 : Int32} {a2 : Int32} {Q : Option Value → am_H → Prop}  (wp : ((a1 ≤ a2 → am_R E mX4_addDay 57 [some (.ref 41), none, none, none] [] (hp I J b) 64 64 Q) ∧ (¬ a1 ≤ a2 → ∃ j2, a2 = nI j2 ∧ j2 < 120 ∧ ((¬ (I 44 j2) = (-1) → am_R E mX4_bestAhead 0 [some (.ref 41), some (.int a1), some (.int a2), none, none] [] (hp I J b) 64 64 (fun r h' => am_R E mX4_addDay 27 [some (.ref 41), some (.int a1), some (.int a2), none] (r.toList ++ []) h' 64 64 Q)) ∧ ((I 44 j2) = (-1) → am_R E mX4_addDay 2 [some (.ref 41), some (.int a1), some (.int (a2 + 1)), none] [] (hp (u2 I (pnxt b) j2 (-1)) J b) 64 64 Q))))) : am_R E mX4_addDay 2 [some (.ref 41), some (.int a1), some (.int a2), none] [] (hp I J b) 64 64 Q := by
  refine am_iload_n rfl rfl dX4_addDay_2 ?_
  refine am_iload_n rfl rfl dX4_addDay_3 ?_
  refine am_icmp_ge dX4_addDay_4 (tgt := 57) rfl (fun hc1 => ?_) (fun hc1 => ?_)
  · have wp := wp.1 hc1
    exact am_R.forget wp ⟨rfl, trivial⟩
  · have wp := wp.2 hc1
    refine am_aload_n rfl rfl dX4_addDay_7 ?_
    refine am_getA (r := 44) dX4_addDay_8 flX4_18 (Or.inr ⟨_, rfl⟩) rfl (by decide) rfl ?_
    refine am_iload_n rfl rfl dX4_addDay_11 ?_
    obtain ⟨j2, e2, w2, wp⟩ := wp
    refine am_ialdN (j := j2) dX4_addDay_12 rfl (by decide) e2 w2 (by decide) ?_
    refine am_iconst (-1) rfl dX4_addDay_13 ?_
    refine am_icmp_ne dX4_addDay_14 (tgt := 21) rfl (fun hc3 => ?_) (fun hc3 => ?_)
    · have wp := wp.1 hc3
      refine am_aload_n rfl rfl dX4_addDay_21 ?_
      refine am_iload_n rfl rfl dX4_addDay_22 ?_
      refine am_iload_n rfl rfl dX4_addDay_23 ?_
      refine am_invV (ci := 2) (As := [.int a1, .int a2]) (lsZ := [some (.ref 41), some (.int a1), some (.int a2), none, none]) (st := []) dX4_addDay_24 hX4_bestAhead lkX4_70 ⟨by decide, by decide⟩ (by decide) rfl (by decide) rfl rfl rfl (Nat.le_of_ble_eq_true rfl) rfl (Nat.le_of_ble_eq_true rfl) ⟨Nat.le_refl _, Nat.le_refl _⟩ (am_R.mono wp (fun r h' q => am_R.forget q ⟨rfl, ⟨rfl, ⟨rfl, trivial⟩⟩⟩))
    · have wp := wp.2 hc3
      refine am_iconst (-1) rfl dX4_addDay_17 ?_
      refine am_goto dX4_addDay_18 (tgt := 27) rfl ?_
      refine am_istore_n (ls' := [some (.ref 41), some (.int a1), some (.int a2), some (.int (-1))]) rfl (by decide) rfl rfl dX4_addDay_27 ?_
      refine am_aload_n rfl rfl dX4_addDay_28 ?_
      refine am_getA (r := (pnxt b)) dX4_addDay_29 flX4_24 (Or.inr ⟨_, rfl⟩) rfl (by decide) rfl ?_
      refine am_iload_n rfl rfl dX4_addDay_32 ?_
      refine am_iload_n rfl rfl dX4_addDay_33 ?_
      refine am_iconst (-1) rfl dX4_addDay_34 ?_
      refine am_icmp_ne dX4_addDay_35 (tgt := 42) rfl (fun hc => absurd hc (by decide)) (fun _ => ?_)
      refine am_iconst (-1) rfl dX4_addDay_38 ?_
      refine am_goto dX4_addDay_39 (tgt := 50) rfl ?_
      refine am_iastN (j := j2) dX4_addDay_50 (am_s_pn b) (am_k_pn b) e2 w2 (by decide) ?_
      refine am_iinc (ls' := [some (.ref 41), some (.int a1), some (.int (a2 + 1)), some (.int (-1))]) (by decide) rfl rfl rfl dX4_addDay_51 ?_
      refine am_goto dX4_addDay_54 (tgt := 2) rfl ?_
      exact am_R.forget wp ⟨rfl, ⟨rfl, ⟨rfl, trivial⟩⟩⟩
theorem bX4_addDay_27 {E : Nat × (Nat → Int32)} {I : Nat → Nat → Int32} {J : Nat → Nat → Int64} {b : Bool} {a1 : Int32} {a2 : Int32} {x0 : Int32} {Q : Option Value → am_H → Prop}  (wp : ((¬ x0 = (-1) → ∃ j2, a2 = nI j2 ∧ j2 < 120 ∧ am_R E mX4_addDay 2 [some (.ref 41), some (.int a1), some (.int (a2 + 1)), none] [] (hp (u2 I (pnxt b) j2 (x0 + (I 44 j2))) J b) 64 64 Q) ∧ (x0 = (-1) → ∃ j3, a2 = nI j3 ∧ j3 < 120 ∧ am_R E mX4_addDay 2 [some (.ref 41), some (.int a1), some (.int (a2 + 1)), none] [] (hp (u2 I (pnxt b) j3 (-1)) J b) 64 64 Q))) : am_R E mX4_addDay 27 [some (.ref 41), some (.int a1), some (.int a2), none] [.int x0] (hp I J b) 64 64 Q := by
  refine am_istore_n (ls' := [some (.ref 41), some (.int a1), some (.int a2), some (.int x0)]) rfl (by decide) rfl rfl dX4_addDay_27 ?_
  refine am_aload_n rfl rfl dX4_addDay_28 ?_
  refine am_getA (r := (pnxt b)) dX4_addDay_29 flX4_24 (Or.inr ⟨_, rfl⟩) rfl (by decide) rfl ?_
  refine am_iload_n rfl rfl dX4_addDay_32 ?_
  refine am_iload_n rfl rfl dX4_addDay_33 ?_
  refine am_iconst (-1) rfl dX4_addDay_34 ?_
  refine am_icmp_ne dX4_addDay_35 (tgt := 42) rfl (fun hc1 => ?_) (fun hc1 => ?_)
  · have wp := wp.1 hc1
    refine am_iload_n rfl rfl dX4_addDay_42 ?_
    refine am_aload_n rfl rfl dX4_addDay_43 ?_
    refine am_getA (r := 44) dX4_addDay_44 flX4_18 (Or.inr ⟨_, rfl⟩) rfl (by decide) rfl ?_
    refine am_iload_n rfl rfl dX4_addDay_47 ?_
    obtain ⟨j2, e2, w2, wp⟩ := wp
    refine am_ialdN (j := j2) dX4_addDay_48 rfl (by decide) e2 w2 (by decide) ?_
    refine am_iadd dX4_addDay_49 ?_
    refine am_iastN (j := j2) dX4_addDay_50 (am_s_pn b) (am_k_pn b) e2 w2 (by decide) ?_
    refine am_iinc (ls' := [some (.ref 41), some (.int a1), some (.int (a2 + 1)), some (.int x0)]) (by decide) rfl rfl rfl dX4_addDay_51 ?_
    refine am_goto dX4_addDay_54 (tgt := 2) rfl ?_
    exact am_R.forget wp ⟨rfl, ⟨rfl, ⟨rfl, trivial⟩⟩⟩
  · have wp := wp.2 hc1
    refine am_iconst (-1) rfl dX4_addDay_38 ?_
    refine am_goto dX4_addDay_39 (tgt := 50) rfl ?_
    obtain ⟨j3, e3, w3, wp⟩ := wp
    refine am_iastN (j := j3) dX4_addDay_50 (am_s_pn b) (am_k_pn b) e3 w3 (by decide) ?_
    refine am_iinc (ls' := [some (.ref 41), some (.int a1), some (.int (a2 + 1)), some (.int x0)]) (by decide) rfl rfl rfl dX4_addDay_51 ?_
    refine am_goto dX4_addDay_54 (tgt := 2) rfl ?_
    exact am_R.forget wp ⟨rfl, ⟨rfl, ⟨rfl, trivial⟩⟩⟩
theorem bX4_addDay_57 (wp : Q none (hp I J (!b))) : am_R E mX4_addDay 57 [some (.ref 41), none, none, none] [] (hp I J b) 64 64 Q := by
  refine am_aload_n rfl rfl dX4_addDay_57 ?_
  refine am_getA (r := (pbst b)) dX4_addDay_58 flX4_21 (Or.inr ⟨_, rfl⟩) rfl (by decide) rfl ?_
  refine am_astore_n (ls' := [some (.ref 41), none, some (.ref (pbst b)), none]) rfl (by decide) rfl rfl dX4_addDay_61 ?_
  refine am_aload_n rfl rfl dX4_addDay_62 ?_
  refine am_aload_n rfl rfl dX4_addDay_63 ?_
  refine am_getA (r := (pnxt b)) dX4_addDay_64 flX4_24 (Or.inr ⟨_, rfl⟩) rfl (by decide) rfl ?_
  refine am_putA dX4_addDay_67 flX4_21 (Or.inl rfl) (Or.inr ⟨_, rfl⟩) rfl (by decide) ?_
  refine am_aload_n rfl rfl dX4_addDay_70 ?_
  refine am_aload_n rfl rfl dX4_addDay_71 ?_
  refine am_putA dX4_addDay_72 flX4_24 (Or.inl rfl) (Or.inr ⟨_, rfl⟩) rfl (by decide) ?_
  rw [swp I J b]
  exact am_vret dX4_addDay_75 rfl wp
/-! the plan, by numbers -/
def able (I : Nat → Nat → Int32) (n c : Nat) : Bool := decide (∀ m, m < n → 0 < I 49 (7 * m + ur n c m))
def wn (I : Nat → Nat → Int32) (n c : Nat) : Nat := (sm (fun m => I 49 (7 * m + ur n c m)) n).toNatClampNeg
/-- may the draw c come behind the draw c' -/
def bh (I : Nat → Nat → Int32) (n c' c : Nat) : Bool := decide (∀ m, m < n → mb I m (ur n c m) (nI (ur n c' m)))
def olt : Option Nat → Option Nat → Bool
  | _, none => false
  | none, some _ => true
  | some a, some e => decide (a < e)
/-- the best of the first k that r lets through -/
def ah (r : Nat → Bool) (B : Nat → Option Nat) : Nat → Option Nat
  | 0 => none
  | k + 1 => if r k = true ∧ olt (ah r B k) (B k) = true then B k else ah r B k
def nxB (I : Nat → Nat → Int32) (n : Nat) (B : Nat → Option Nat) (k c : Nat) : Option Nat := if able I n c then (ah (fun c' => bh I n c' c) B k).map (fun v => v + wn I n c) else none
def be (I : Nat → Nat → Int32) (n : Nat) : Nat → Nat → Option Nat
  | 0, c => if lc I n c then some (wn I n c) else none
  | d + 1, c => nxB I n (be I n d) (fct n) c
def Bd (B : Nat → Option Nat) (N M : Nat) : Prop := ∀ c v, c < N → B c = some v → v ≤ M
theorem wn_ok (h7 : n ≤ 7) (hk : ∀ j, j < 49 → ∃ v, v ≤ 9 ∧ I 49 j = nI v) {c : Nat} (hc : c < fct n) : sm (fun m => I 49 (7 * m + ur n c m)) n = nI (wn I n c) ∧ wn I n c ≤ 63 := by
  obtain ⟨S, h1, h2⟩ := sm_ex (f := fun m => I 49 (7 * m + ur n c m)) (B := 9) n (fun m hm => hk _ (by have := (ur_pm h7 hc).1 m hm; omega))
  unfold wn
  rw [h2, nI_clamp (by omega)]
  exact ⟨rfl, by omega⟩
theorem m1_lt {v : Nat} (hv : v < 2 ^ 31) : (-1 : Int32) < nI v := by
  rw [Int32.lt_iff_toInt_lt, nI_toInt hv]
  have : (-1 : Int32).toInt = -1 := by decide
  omega
theorem oI_lt {a e : Option Nat} (ha : ∀ v, a = some v → v < 2 ^ 31) (he : ∀ v, e = some v → v < 2 ^ 31) : oI a < oI e ↔ olt a e = true := by
  cases e with
  | none =>
    have z : olt a none = false := by cases a <;> rfl
    rw [z]
    refine ⟨fun q => ?_, fun q => by cases q⟩
    cases a with
    | none => exact absurd q (by decide)
    | some a => exact absurd (Int32.lt_trans q (m1_lt (ha a rfl))) (Int32.lt_irrefl)
  | some e =>
    cases a with
    | none => exact ⟨fun _ => rfl, fun _ => m1_lt (he e rfl)⟩
    | some a =>
      show nI a < nI e ↔ decide (a < e) = true
      rw [nI_ltI (ha a rfl) (he e rfl), decide_eq_true_iff]
theorem oI_ne {a : Option Nat} (ha : ∀ v, a = some v → v < 2 ^ 31) : oI a = -1 ↔ a = none := by
  cases a with
  | none => exact ⟨fun _ => rfl, fun _ => rfl⟩
  | some a => exact ⟨fun q => absurd q (by have := m1_lt (ha a rfl); intro z; rw [show oI (some a) = nI a from rfl] at z; rw [z] at this; exact absurd this (by decide)), fun q => by cases q⟩
theorem ah_bd {r : Nat → Bool} {B : Nat → Option Nat} {M N : Nat} (hB : Bd B N M) : ∀ k, k ≤ N → ∀ v, ah r B k = some v → v ≤ M
  | 0, _, v, h => by cases h
  | k + 1, hk, v, h => by
    rw [ah] at h
    split at h
    · exact hB k v (by omega) h
    · exact ah_bd hB k (by omega) v h
theorem nxB_bd {B : Nat → Option Nat} {M N : Nat} (hw : ∀ c, c < N → wn I n c ≤ 63) (hB : Bd B N M) (k : Nat) (hk : k ≤ N) : Bd (nxB I n B k) N (M + 63) := by
  intro c v hc h
  unfold nxB at h
  split at h
  · cases ha : ah (fun c' => bh I n c' c) B k with
    | none => rw [ha] at h; cases h
    | some a =>
      rw [ha] at h
      cases h
      have h1 := ah_bd hB k hk a ha
      have h2 := hw c hc
      show a + wn I n c ≤ M + 63
      omega
  · cases h
theorem be_bd (hw : ∀ c, c < fct n → wn I n c ≤ 63) : ∀ d, Bd (be I n d) (fct n) (63 * (d + 1))
  | 0 => fun c v hc h => by
    rw [be] at h
    split at h
    · cases h; have := hw c hc; omega
    · cases h
  | d + 1 => by
    have := nxB_bd (I := I) (n := n) hw (be_bd hw d) (fct n) (Nat.le_refl _)
    intro c v hc h
    have h1 := this c v hc h
    omega
theorem be_eq (h1 : I' 49 = I 49) (h2 : I' 51 = I 51) (h3 : ∀ m, I' 55 (8 + m) = I 55 (8 + m)) : be I' n = be I n := by
  have e1 : able I' n = able I n := by funext c; unfold able; rw [h1]
  have e2 : wn I' n = wn I n := by funext c; unfold wn; rw [h1]
  have e3 : bh I' n = bh I n := by
    funext c' c
    unfold bh
    exact decide_eq_decide.mpr (by unfold mb; rw [h1, h2])
  have e4 : nxB I' n = nxB I n := by funext B k c; unfold nxB; rw [e1, e2, e3]
  funext d
  induction d with
  | zero => funext c; rw [be, be, lc_eq h1 h2 h3, e2]
  | succ d ih => funext c; rw [be, be, ih, e4]
/-- the greatest of the first k -/
def mxx (B : Nat → Option Nat) : Nat → Option Nat
  | 0 => none
  | k + 1 => if olt (mxx B k) (B k) = true then B k else mxx B k
theorem mxx_bd {B : Nat → Option Nat} {M N : Nat} (hB : Bd B N M) : ∀ k, k ≤ N → ∀ v, mxx B k = some v → v ≤ M
  | 0, _, v, h => by cases h
  | k + 1, hk, v, h => by
    rw [mxx] at h
    split at h
    · exact hB k v (by omega) h
    · exact mxx_bd hB k (by omega) v h
/-! the class -/
/-- what the plan needs of the heap before it begins -/
def Wk (I : Nat → Nat → Int32) (n : Nat) : Prop := CH I n ∧ n ≤ 5 ∧ (∀ d, d < 7 → ∃ v, v ≤ 3 ∧ I 51 d = nI v) ∧ (∀ d, d < 7 → I 7 d = I 51 d + 1) ∧ (∀ j, j < 49 → ∃ v, v ≤ 9 ∧ I 49 j = nI v) ∧ (∀ m, m < n → I 11 m = I 55 (8 + m)) ∧ Yw I n
def pS : List Nat := [42, 43, 44, 45, 46]
def RT (I : Nat → Nat → Int32) (n : Nat) : Prop := ∀ c, c < fct n → ∀ m, m < n → I 43 (5 * c + m) = nI (ur n c m)
def WT (I I' : Nat → Nat → Int32) (n : Nat) : Prop := ∀ c, c < fct n → I' 44 c = oI (if able I n c then some (wn I n c) else none)
theorem f5 : ∀ n, n < 6 → fct n ≤ 120 := by decide
theorem pb45 (b : Bool) : pbst b ∈ pS ∧ pnxt b ∈ pS ∧ pbst b ≠ pnxt b ∧ pbst b ≠ 43 ∧ pbst b ≠ 44 ∧ pnxt b ≠ 43 ∧ pnxt b ≠ 44 ∧ pbst b ≠ 42 ∧ pnxt b ≠ 42 := by cases b <;> decide
theorem m5 (c m : Nat) : nI c * 5 + nI m = nI (5 * c + m) := by
  rw [show (5 : Int32) = nI 5 from rfl, pk_mul, nI_add, Nat.mul_comm]
theorem Wk.mb {m d : Nat} {y : Int32} (hW : Wk I n) (hm : m < 7) (hd : d < 7) (hy : y = -1 ∨ ∃ e, e < 7 ∧ y = nI e) : (0 < I 49 (7 * m + d) ∧ mf I d y) ↔ mb I m d y := by
  have := mf_mb (I := I) (m := m) (d := d) (y := y) hW.2.2.1 hW.2.2.2.1 hW.1.2.2.1 hm hd hy
  rw [hW.1.2.2.1 _ (by omega)] at this
  exact this
theorem bX4_mayComeBehindY_0 {E : Nat × (Nat → Int32)} {I : Nat → Nat → Int32} {J : Nat → Nat → Int64} {b : Bool} {a2 : Int32} {a3 : Int32} {Q : Option Value → am_H → Prop}  (wp : am_R E mX4_mayComeBehind 3 [some (.ref 41), some (.ref 11), some (.int a2), some (.int a3), some (.int 0)] [] (hp I J b) 64 64 Q) : am_R E mX4_mayComeBehind 0 [some (.ref 41), some (.ref 11), some (.int a2), some (.int a3), none] [] (hp I J b) 64 64 Q := by
  refine am_iconst 0 rfl dX4_mayComeBehind_0 ?_
  refine am_istore (ls' := [some (.ref 41), some (.ref 11), some (.int a2), some (.int a3), some (.int 0)]) (by decide) rfl rfl dX4_mayComeBehind_1 ?_
  exact am_R.forget wp ⟨rfl, ⟨rfl, ⟨rfl, ⟨rfl, ⟨rfl, trivial⟩⟩⟩⟩⟩
theorem bX4_mayComeBehindY_3 {E : Nat × (Nat → Int32)} {I : Nat → Nat → Int32} {J : Nat → Nat → Int64} {b : Bool} {a2 : Int32} {a3 : Int32} {a4 : Int32} {Q : Option Value → am_H → Prop}  (wp : (((I 4 0) ≤ a4 → Q (some (.int 1)) (hp I J b)) ∧ (¬ (I 4 0) ≤ a4 → ∃ j2, ((a3 * 5) + a4) = nI j2 ∧ j2 < 600 ∧ ∃ j3, (a2 + a4) = nI j3 ∧ j3 < 7 ∧ am_R E mX2_mayFollow 0 [some (.ref 4), some (.int (I 43 j2)), some (.int (I 11 j3))] [] (hp I J b) 64 64 (fun r h' => am_R E mX4_mayComeBehind 39 [some (.ref 41), some (.ref 11), some (.int a2), some (.int a3), some (.int a4)] (r.toList ++ []) h' 64 64 Q)))) : am_R E mX4_mayComeBehind 3 [some (.ref 41), some (.ref 11), some (.int a2), some (.int a3), some (.int a4)] [] (hp I J b) 64 64 Q := by
  refine am_iload rfl dX4_mayComeBehind_3 ?_
  refine am_aload_n rfl rfl dX4_mayComeBehind_5 ?_
  refine am_getA (r := 4) dX4_mayComeBehind_6 flX4_27 (Or.inl ⟨_, rfl⟩) rfl (by decide) rfl ?_
  refine am_getI dX4_mayComeBehind_9 flX4_31 (Or.inl rfl) rfl (by decide) ?_
  refine am_icmp_ge dX4_mayComeBehind_12 (tgt := 50) rfl (fun hc1 => ?_) (fun hc1 => ?_)
  · have wp := wp.1 hc1
    refine am_iconst 1 rfl dX4_mayComeBehind_50 ?_
    exact am_iret dX4_mayComeBehind_51 rfl (by decide) wp
  · have wp := wp.2 hc1
    refine am_aload_n rfl rfl dX4_mayComeBehind_15 ?_
    refine am_getA (r := 4) dX4_mayComeBehind_16 flX4_27 (Or.inl ⟨_, rfl⟩) rfl (by decide) rfl ?_
    refine am_aload_n rfl rfl dX4_mayComeBehind_19 ?_
    refine am_getA (r := 43) dX4_mayComeBehind_20 flX4_15 (Or.inr ⟨_, rfl⟩) rfl (by decide) rfl ?_
    refine am_iload_n rfl rfl dX4_mayComeBehind_23 ?_
    refine am_iconst 5 rfl dX4_mayComeBehind_24 ?_
    refine am_imul dX4_mayComeBehind_25 ?_
    refine am_iload rfl dX4_mayComeBehind_26 ?_
    refine am_iadd dX4_mayComeBehind_28 ?_
    obtain ⟨j2, e2, w2, wp⟩ := wp
    refine am_ialdN (j := j2) dX4_mayComeBehind_29 rfl (by decide) e2 w2 (by decide) ?_
    refine am_aload_n rfl rfl dX4_mayComeBehind_30 ?_
    refine am_iload_n rfl rfl dX4_mayComeBehind_31 ?_
    refine am_iload rfl dX4_mayComeBehind_32 ?_
    refine am_iadd dX4_mayComeBehind_34 ?_
    obtain ⟨j3, e3, w3, wp⟩ := wp
    refine am_ialdN (j := j3) dX4_mayComeBehind_35 rfl (by decide) e3 w3 (by decide) ?_
    refine am_invV (ci := 1) (As := [.int (I 43 j2), .int (I 11 j3)]) (lsZ := [some (.ref 4), some (.int (I 43 j2)), some (.int (I 11 j3))]) (st := []) dX4_mayComeBehind_36 hX2_mayFollow lkX4_73 ⟨by decide, by decide⟩ (by decide) rfl (by decide) rfl rfl rfl (Nat.le_of_ble_eq_true rfl) rfl (Nat.le_of_ble_eq_true rfl) ⟨Nat.le_refl _, Nat.le_refl _⟩ (am_R.mono wp (fun r h' q => am_R.forget q ⟨rfl, ⟨rfl, ⟨rfl, ⟨rfl, ⟨rfl, trivial⟩⟩⟩⟩⟩))
theorem bX4_mayComeBehindY_39 {E : Nat × (Nat → Int32)} {I : Nat → Nat → Int32} {J : Nat → Nat → Int64} {b : Bool} {a2 : Int32} {a3 : Int32} {a4 : Int32} {x0 : Int32} {Q : Option Value → am_H → Prop}  (wp : ((¬ x0 = 0 → am_R E mX4_mayComeBehind 3 [some (.ref 41), some (.ref 11), some (.int a2), some (.int a3), some (.int (a4 + 1))] [] (hp I J b) 64 64 Q) ∧ (x0 = 0 → Q (some (.int 0)) (hp I J b)))) : am_R E mX4_mayComeBehind 39 [some (.ref 41), some (.ref 11), some (.int a2), some (.int a3), some (.int a4)] [.int x0] (hp I J b) 64 64 Q := by
  refine am_if_ne dX4_mayComeBehind_39 (tgt := 44) rfl (fun hc1 => ?_) (fun hc1 => ?_)
  · have wp := wp.1 hc1
    refine am_iinc (ls' := [some (.ref 41), some (.ref 11), some (.int a2), some (.int a3), some (.int (a4 + 1))]) (by decide) rfl rfl rfl dX4_mayComeBehind_44 ?_
    refine am_goto dX4_mayComeBehind_47 (tgt := 3) rfl ?_
    exact am_R.forget wp ⟨rfl, ⟨rfl, ⟨rfl, ⟨rfl, ⟨rfl, trivial⟩⟩⟩⟩⟩
  · have wp := wp.2 hc1
    refine am_iconst 0 rfl dX4_mayComeBehind_42 ?_
    exact am_iret dX4_mayComeBehind_43 rfl (by decide) wp
theorem tX4_mcbY {a3 : Int32} {c : Nat} (hW : Wk I n) (hA : Ag pS I I') (hT : RT I' n) (ec : a3 = nI c) (hc : c < fct n) (k1 : (∀ m, m < n → mf I (ur n c m) (I 55 (8 + m))) → Q (some (.int 1)) (hp I' J b)) (k0 : ¬ (∀ m, m < n → mf I (ur n c m) (I 55 (8 + m))) → Q (some (.int 0)) (hp I' J b)) : am_R E mX4_mayComeBehind 0 [some (.ref 41), some (.ref 11), some (.int 0), some (.int a3), none] [] (hp I' J b) 64 64 Q := by
  subst ec
  have n7 : n ≤ 7 := hW.1.2.1.2
  have hfl := f5 n (by have := hW.2.1; omega)
  have n5 := hW.2.1
  have e4 : I' 4 0 = nI n := by rw [hA 4 (by decide)]; exact hW.1.1
  have e11 : ∀ m, m < n → I' 11 m = I 55 (8 + m) := fun m hm => by rw [hA 11 (by decide)]; exact hW.2.2.2.2.2.1 m hm
  have e7 : I' 7 = I 7 := hA 7 (by decide)
  have hY := hW.2.2.2.2.2.2
  have hup := (ur_pm n7 hc).1
  have key : ∀ j m, m + j = n → (∀ i, i < m → mf I (ur n c i) (I 55 (8 + i))) → am_R E mX4_mayComeBehind 3 [some (.ref 41), some (.ref 11), some (.int 0), some (.int (nI c)), some (.int (nI m))] [] (hp I' J b) 64 64 Q := by
    intro j
    induction j with
    | zero =>
      intro m hm ha
      have e : m = n := by omega
      subst e
      exact bX4_mayComeBehindY_3 (le_br e4 rfl (by omega) (by omega) (fun _ => k1 ha) (fun h => by omega))
    | succ j ih =>
      intro m hm ha
      have hmn : m < n := by omega
      refine bX4_mayComeBehindY_3 (le_br e4 rfl (by omega) (by omega) (fun h => by omega) (fun _ => ⟨5 * c + m, m5 c m, by omega, m, by rw [show (0 : Int32) = nI 0 from rfl, nI_add, Nat.zero_add], by omega, ?_⟩))
      refine tX2_mayFollow (I := I') (by decide) (v := n) (hT c hc m hmn) (by have := hup m hmn; omega) e4 n7 (hup m hmn) (by rw [e11 m hmn]; exact hY m hmn) (fun z => bX4_mayComeBehindY_39 ⟨fun _ => ?_, fun q => absurd q (by decide)⟩) (fun z => bX4_mayComeBehindY_39 ⟨fun q => absurd rfl q, fun _ => k0 (fun w => z ?_)⟩)
      · rw [n1]
        refine ih (m + 1) (by omega) (fun i hi => ?_)
        rcases Nat.lt_or_ge i m with q | q
        · exact ha i q
        · rw [show i = m by omega]
          unfold mf at z ⊢
          rw [e7, e11 m hmn] at z
          exact z
      · have w := w m hmn
        unfold mf at w ⊢
        rw [e7, e11 m hmn]
        exact w
  exact bX4_mayComeBehindY_0 (key n 0 (by omega) (fun i hi => by omega))
theorem bX4_mayComeBehindR_0 {E : Nat × (Nat → Int32)} {I : Nat → Nat → Int32} {J : Nat → Nat → Int64} {b : Bool} {a2 : Int32} {a3 : Int32} {Q : Option Value → am_H → Prop}  (wp : am_R E mX4_mayComeBehind 3 [some (.ref 41), some (.ref 43), some (.int a2), some (.int a3), some (.int 0)] [] (hp I J b) 64 64 Q) : am_R E mX4_mayComeBehind 0 [some (.ref 41), some (.ref 43), some (.int a2), some (.int a3), none] [] (hp I J b) 64 64 Q := by
  refine am_iconst 0 rfl dX4_mayComeBehind_0 ?_
  refine am_istore (ls' := [some (.ref 41), some (.ref 43), some (.int a2), some (.int a3), some (.int 0)]) (by decide) rfl rfl dX4_mayComeBehind_1 ?_
  exact am_R.forget wp ⟨rfl, ⟨rfl, ⟨rfl, ⟨rfl, ⟨rfl, trivial⟩⟩⟩⟩⟩
theorem bX4_mayComeBehindR_3 {E : Nat × (Nat → Int32)} {I : Nat → Nat → Int32} {J : Nat → Nat → Int64} {b : Bool} {a2 : Int32} {a3 : Int32} {a4 : Int32} {Q : Option Value → am_H → Prop}  (wp : (((I 4 0) ≤ a4 → Q (some (.int 1)) (hp I J b)) ∧ (¬ (I 4 0) ≤ a4 → ∃ j2, ((a3 * 5) + a4) = nI j2 ∧ j2 < 600 ∧ ∃ j3, (a2 + a4) = nI j3 ∧ j3 < 600 ∧ am_R E mX2_mayFollow 0 [some (.ref 4), some (.int (I 43 j2)), some (.int (I 43 j3))] [] (hp I J b) 64 64 (fun r h' => am_R E mX4_mayComeBehind 39 [some (.ref 41), some (.ref 43), some (.int a2), some (.int a3), some (.int a4)] (r.toList ++ []) h' 64 64 Q)))) : am_R E mX4_mayComeBehind 3 [some (.ref 41), some (.ref 43), some (.int a2), some (.int a3), some (.int a4)] [] (hp I J b) 64 64 Q := by
  refine am_iload rfl dX4_mayComeBehind_3 ?_
  refine am_aload_n rfl rfl dX4_mayComeBehind_5 ?_
  refine am_getA (r := 4) dX4_mayComeBehind_6 flX4_27 (Or.inl ⟨_, rfl⟩) rfl (by decide) rfl ?_
  refine am_getI dX4_mayComeBehind_9 flX4_31 (Or.inl rfl) rfl (by decide) ?_
  refine am_icmp_ge dX4_mayComeBehind_12 (tgt := 50) rfl (fun hc1 => ?_) (fun hc1 => ?_)
  · have wp := wp.1 hc1
    refine am_iconst 1 rfl dX4_mayComeBehind_50 ?_
    exact am_iret dX4_mayComeBehind_51 rfl (by decide) wp
  · have wp := wp.2 hc1
    refine am_aload_n rfl rfl dX4_mayComeBehind_15 ?_
    refine am_getA (r := 4) dX4_mayComeBehind_16 flX4_27 (Or.inl ⟨_, rfl⟩) rfl (by decide) rfl ?_
    refine am_aload_n rfl rfl dX4_mayComeBehind_19 ?_
    refine am_getA (r := 43) dX4_mayComeBehind_20 flX4_15 (Or.inr ⟨_, rfl⟩) rfl (by decide) rfl ?_
    refine am_iload_n rfl rfl dX4_mayComeBehind_23 ?_
    refine am_iconst 5 rfl dX4_mayComeBehind_24 ?_
    refine am_imul dX4_mayComeBehind_25 ?_
    refine am_iload rfl dX4_mayComeBehind_26 ?_
    refine am_iadd dX4_mayComeBehind_28 ?_
    obtain ⟨j2, e2, w2, wp⟩ := wp
    refine am_ialdN (j := j2) dX4_mayComeBehind_29 rfl (by decide) e2 w2 (by decide) ?_
    refine am_aload_n rfl rfl dX4_mayComeBehind_30 ?_
    refine am_iload_n rfl rfl dX4_mayComeBehind_31 ?_
    refine am_iload rfl dX4_mayComeBehind_32 ?_
    refine am_iadd dX4_mayComeBehind_34 ?_
    obtain ⟨j3, e3, w3, wp⟩ := wp
    refine am_ialdN (j := j3) dX4_mayComeBehind_35 rfl (by decide) e3 w3 (by decide) ?_
    refine am_invV (ci := 1) (As := [.int (I 43 j2), .int (I 43 j3)]) (lsZ := [some (.ref 4), some (.int (I 43 j2)), some (.int (I 43 j3))]) (st := []) dX4_mayComeBehind_36 hX2_mayFollow lkX4_73 ⟨by decide, by decide⟩ (by decide) rfl (by decide) rfl rfl rfl (Nat.le_of_ble_eq_true rfl) rfl (Nat.le_of_ble_eq_true rfl) ⟨Nat.le_refl _, Nat.le_refl _⟩ (am_R.mono wp (fun r h' q => am_R.forget q ⟨rfl, ⟨rfl, ⟨rfl, ⟨rfl, ⟨rfl, trivial⟩⟩⟩⟩⟩))
theorem bX4_mayComeBehindR_39 {E : Nat × (Nat → Int32)} {I : Nat → Nat → Int32} {J : Nat → Nat → Int64} {b : Bool} {a2 : Int32} {a3 : Int32} {a4 : Int32} {x0 : Int32} {Q : Option Value → am_H → Prop}  (wp : ((¬ x0 = 0 → am_R E mX4_mayComeBehind 3 [some (.ref 41), some (.ref 43), some (.int a2), some (.int a3), some (.int (a4 + 1))] [] (hp I J b) 64 64 Q) ∧ (x0 = 0 → Q (some (.int 0)) (hp I J b)))) : am_R E mX4_mayComeBehind 39 [some (.ref 41), some (.ref 43), some (.int a2), some (.int a3), some (.int a4)] [.int x0] (hp I J b) 64 64 Q := by
  refine am_if_ne dX4_mayComeBehind_39 (tgt := 44) rfl (fun hc1 => ?_) (fun hc1 => ?_)
  · have wp := wp.1 hc1
    refine am_iinc (ls' := [some (.ref 41), some (.ref 43), some (.int a2), some (.int a3), some (.int (a4 + 1))]) (by decide) rfl rfl rfl dX4_mayComeBehind_44 ?_
    refine am_goto dX4_mayComeBehind_47 (tgt := 3) rfl ?_
    exact am_R.forget wp ⟨rfl, ⟨rfl, ⟨rfl, ⟨rfl, ⟨rfl, trivial⟩⟩⟩⟩⟩
  · have wp := wp.2 hc1
    refine am_iconst 0 rfl dX4_mayComeBehind_42 ?_
    exact am_iret dX4_mayComeBehind_43 rfl (by decide) wp
theorem tX4_mcbR {a2 a3 : Int32} {c c' : Nat} (hW : Wk I n) (hA : Ag pS I I') (hT : RT I' n) (ec : a3 = nI c) (hc : c < fct n) (ec' : a2 = nI (5 * c')) (hc' : c' < fct n) (hab : able I n c = true) (k1 : bh I n c' c = true → Q (some (.int 1)) (hp I' J b)) (k0 : bh I n c' c = false → Q (some (.int 0)) (hp I' J b)) : am_R E mX4_mayComeBehind 0 [some (.ref 41), some (.ref 43), some (.int a2), some (.int a3), none] [] (hp I' J b) 64 64 Q := by
  subst ec; subst ec'
  have n7 : n ≤ 7 := hW.1.2.1.2
  have n5 := hW.2.1
  have hfl := f5 n (by omega)
  have e4 : I' 4 0 = nI n := by rw [hA 4 (by decide)]; exact hW.1.1
  have e7 : I' 7 = I 7 := hA 7 (by decide)
  have hup := (ur_pm n7 hc).1
  have hup' := (ur_pm n7 hc').1
  have hab := of_decide_eq_true hab
  have mm : ∀ m, m < n → (mf I' (ur n c m) (nI (ur n c' m)) ↔ mb I m (ur n c m) (nI (ur n c' m))) := by
    intro m hm
    have h1 := hup m hm
    have h2 := hup' m hm
    rw [← hW.mb (by omega) (by omega) (Or.inr ⟨ur n c' m, by omega, rfl⟩)]
    unfold mf
    rw [e7]
    exact ⟨fun q => ⟨hab m hm, q⟩, fun q => q.2⟩
  have key : ∀ j m, m + j = n → (∀ i, i < m → mb I i (ur n c i) (nI (ur n c' i))) → am_R E mX4_mayComeBehind 3 [some (.ref 41), some (.ref 43), some (.int (nI (5 * c'))), some (.int (nI c)), some (.int (nI m))] [] (hp I' J b) 64 64 Q := by
    intro j
    induction j with
    | zero =>
      intro m hm ha
      have e : m = n := by omega
      subst e
      exact bX4_mayComeBehindR_3 (le_br e4 rfl (by omega) (by omega) (fun _ => k1 (decide_eq_true ha)) (fun h => by omega))
    | succ j ih =>
      intro m hm ha
      have hmn : m < n := by omega
      refine bX4_mayComeBehindR_3 (le_br e4 rfl (by omega) (by omega) (fun h => by omega) (fun _ => ⟨5 * c + m, m5 c m, by omega, 5 * c' + m, nI_add _ _, by omega, ?_⟩))
      rw [hT c' hc' m hmn]
      refine tX2_mayFollow (I := I') (by decide) (v := n) (hT c hc m hmn) (by have := hup m hmn; omega) e4 n7 (hup m hmn) (Or.inr ⟨_, hup' m hmn, rfl⟩) (fun z => bX4_mayComeBehindR_39 ⟨fun _ => ?_, fun q => absurd q (by decide)⟩) (fun z => bX4_mayComeBehindR_39 ⟨fun q => absurd rfl q, fun _ => k0 (decide_eq_false (fun w => z ((mm m hmn).mpr (w m hmn))))⟩)
      rw [n1]
      refine ih (m + 1) (by omega) (fun i hi => ?_)
      rcases Nat.lt_or_ge i m with q | q
      · exact ha i q
      · rw [show i = m by omega]; exact (mm m hmn).mp z
  exact bX4_mayComeBehindR_0 (key n 0 (by omega) (fun i hi => by omega))
theorem bX4_layRows_0 {E : Nat × (Nat → Int32)} {I : Nat → Nat → Int32} {J : Nat → Nat → Int64} {b : Bool} {a1 : Int32} {Q : Option Value → am_H → Prop}  (wp : am_R E mX4_layRows 2 [some (.ref 41), some (.int a1), some (.int 0), none, none] [] (hp I J b) 64 64 Q) : am_R E mX4_layRows 0 [some (.ref 41), some (.int a1), none, none, none] [] (hp I J b) 64 64 Q := by
  refine am_iconst 0 rfl dX4_layRows_0 ?_
  refine am_istore_n (ls' := [some (.ref 41), some (.int a1), some (.int 0), none, none]) rfl (by decide) rfl rfl dX4_layRows_1 ?_
  exact am_R.forget wp ⟨rfl, ⟨rfl, ⟨rfl, trivial⟩⟩⟩
theorem bX4_layRows_2 {E : Nat × (Nat → Int32)} {I : Nat → Nat → Int32} {J : Nat → Nat → Int64} {b : Bool} {a1 : Int32} {a2 : Int32} {Q : Option Value → am_H → Prop}  (wp : ((a1 ≤ a2 → Q none (hp I J b)) ∧ (¬ a1 ≤ a2 → am_R E mX3_fill 0 [some (.ref 42), some (.int (I 4 0)), some (.int a2), none, none, none, none, none, none] [] (hp I J b) 64 64 (fun r h' => am_R E mX4_layRows 22 [some (.ref 41), some (.int a1), some (.int a2), none, none] (r.toList ++ []) h' 64 64 Q)))) : am_R E mX4_layRows 2 [some (.ref 41), some (.int a1), some (.int a2), none, none] [] (hp I J b) 64 64 Q := by
  refine am_iload_n rfl rfl dX4_layRows_2 ?_
  refine am_iload_n rfl rfl dX4_layRows_3 ?_
  refine am_icmp_ge dX4_layRows_4 (tgt := 123) rfl (fun hc1 => ?_) (fun hc1 => ?_)
  · have wp := wp.1 hc1
    exact am_vret dX4_layRows_123 rfl wp
  · have wp := wp.2 hc1
    refine am_aload_n rfl rfl dX4_layRows_7 ?_
    refine am_getA (r := 42) dX4_layRows_8 flX4_9 (Or.inr ⟨_, rfl⟩) rfl (by decide) rfl ?_
    refine am_aload_n rfl rfl dX4_layRows_11 ?_
    refine am_getA (r := 4) dX4_layRows_12 flX4_27 (Or.inl ⟨_, rfl⟩) rfl (by decide) rfl ?_
    refine am_getI dX4_layRows_15 flX4_31 (Or.inl rfl) rfl (by decide) ?_
    refine am_iload_n rfl rfl dX4_layRows_18 ?_
    refine am_invS (As := [.ref 42, .int (I 4 0), .int a2]) (lsZ := [some (.ref 42), some (.int (I 4 0)), some (.int a2), none, none, none, none, none, none]) (st := []) dX4_layRows_19 hX3_fill lkX4_57 ⟨by decide, by decide⟩ rfl rfl (Nat.le_of_ble_eq_true rfl) rfl (Nat.le_of_ble_eq_true rfl) ⟨Nat.le_refl _, Nat.le_refl _⟩ (am_R.mono wp (fun r h' q => am_R.forget q ⟨rfl, ⟨rfl, ⟨rfl, trivial⟩⟩⟩))
theorem bX4_layRows_22 {E : Nat × (Nat → Int32)} {I : Nat → Nat → Int32} {J : Nat → Nat → Int64} {b : Bool} {a1 : Int32} {a2 : Int32} {Q : Option Value → am_H → Prop}  (wp : am_R E mX4_layRows 27 [some (.ref 41), some (.int a1), some (.int a2), some (.int 1), some (.int 0)] [] (hp I J b) 64 64 Q) : am_R E mX4_layRows 22 [some (.ref 41), some (.int a1), some (.int a2), none, none] [] (hp I J b) 64 64 Q := by
  refine am_iconst 1 rfl dX4_layRows_22 ?_
  refine am_istore_n (ls' := [some (.ref 41), some (.int a1), some (.int a2), some (.int 1), none]) rfl (by decide) rfl rfl dX4_layRows_23 ?_
  refine am_iconst 0 rfl dX4_layRows_24 ?_
  refine am_istore (ls' := [some (.ref 41), some (.int a1), some (.int a2), some (.int 1), some (.int 0)]) (by decide) rfl rfl dX4_layRows_25 ?_
  exact am_R.forget wp ⟨rfl, ⟨rfl, ⟨rfl, ⟨rfl, ⟨rfl, trivial⟩⟩⟩⟩⟩
theorem bX4_layRows_27 {E : Nat × (Nat → Int32)} {I : Nat → Nat → Int32} {J : Nat → Nat → Int64} {b : Bool} {a1 : Int32} {a2 : Int32} {a3 : Int32} {a4 : Int32} {Q : Option Value → am_H → Prop}  (wp : (((I 4 0) ≤ a4 → ((a3 = 0 → ∃ j3, a2 = nI j3 ∧ j3 < 120 ∧ am_R E mX4_layRows 2 [some (.ref 41), some (.int a1), some (.int (a2 + 1)), none, none] [] (hp (u2 I 44 j3 (-1)) J b) 64 64 Q) ∧ (¬ a3 = 0 → am_R E mX2_workOf 0 [some (.ref 4), some (.ref 42), none, none] [] (hp I J b) 64 64 (fun r h' => am_R E mX4_layRows 112 [some (.ref 41), some (.int a1), some (.int a2), none, none] (r.toList ++ [.int a2, .ref 44]) h' 64 64 Q)))) ∧ (¬ (I 4 0) ≤ a4 → ∃ j4, a4 = nI j4 ∧ j4 < 7 ∧ ∃ j5, ((a2 * 5) + a4) = nI j5 ∧ j5 < 600 ∧ ((a3 = 0 → am_R E mX4_layRows 27 [some (.ref 41), some (.int a1), some (.int a2), some (.int 0), some (.int (a4 + 1))] [] (hp (u2 I 43 j5 (I 42 j4)) J b) 64 64 Q) ∧ (¬ a3 = 0 → ∃ j7, ((a4 * 7) + (I 42 j4)) = nI j7 ∧ j7 < 49 ∧ (((I 5 j7) ≤ 0 → am_R E mX4_layRows 27 [some (.ref 41), some (.int a1), some (.int a2), some (.int 0), some (.int (a4 + 1))] [] (hp (u2 I 43 j5 (I 42 j4)) J b) 64 64 Q) ∧ (¬ (I 5 j7) ≤ 0 → am_R E mX4_layRows 27 [some (.ref 41), some (.int a1), some (.int a2), some (.int 1), some (.int (a4 + 1))] [] (hp (u2 I 43 j5 (I 42 j4)) J b) 64 64 Q))))))) : am_R E mX4_layRows 27 [some (.ref 41), some (.int a1), some (.int a2), some (.int a3), some (.int a4)] [] (hp I J b) 64 64 Q := by
  refine am_iload rfl dX4_layRows_27 ?_
  refine am_aload_n rfl rfl dX4_layRows_29 ?_
  refine am_getA (r := 4) dX4_layRows_30 flX4_27 (Or.inl ⟨_, rfl⟩) rfl (by decide) rfl ?_
  refine am_getI dX4_layRows_33 flX4_31 (Or.inl rfl) rfl (by decide) ?_
  refine am_icmp_ge dX4_layRows_36 (tgt := 92) rfl (fun hc1 => ?_) (fun hc1 => ?_)
  · have wp := wp.1 hc1
    refine am_aload_n rfl rfl dX4_layRows_92 ?_
    refine am_getA (r := 44) dX4_layRows_93 flX4_18 (Or.inr ⟨_, rfl⟩) rfl (by decide) rfl ?_
    refine am_iload_n rfl rfl dX4_layRows_96 ?_
    refine am_iload_n rfl rfl dX4_layRows_97 ?_
    refine am_if_eq dX4_layRows_98 (tgt := 115) rfl (fun hc2 => ?_) (fun hc2 => ?_)
    · have wp := wp.1 hc2
      refine am_iconst (-1) rfl dX4_layRows_115 ?_
      obtain ⟨j3, e3, w3, wp⟩ := wp
      refine am_iastN (j := j3) dX4_layRows_116 rfl (by decide) e3 w3 (by decide) ?_
      refine am_iinc (ls' := [some (.ref 41), some (.int a1), some (.int (a2 + 1)), some (.int a3), some (.int a4)]) (by decide) rfl rfl rfl dX4_layRows_117 ?_
      refine am_goto dX4_layRows_120 (tgt := 2) rfl ?_
      exact am_R.forget wp ⟨rfl, ⟨rfl, ⟨rfl, trivial⟩⟩⟩
    · have wp := wp.2 hc2
      refine am_aload_n rfl rfl dX4_layRows_101 ?_
      refine am_getA (r := 4) dX4_layRows_102 flX4_27 (Or.inl ⟨_, rfl⟩) rfl (by decide) rfl ?_
      refine am_aload_n rfl rfl dX4_layRows_105 ?_
      refine am_getA (r := 42) dX4_layRows_106 flX4_9 (Or.inr ⟨_, rfl⟩) rfl (by decide) rfl ?_
      refine am_invV (ci := 1) (As := [.ref 42]) (lsZ := [some (.ref 4), some (.ref 42), none, none]) (st := [.int a2, .ref 44]) dX4_layRows_109 hX2_workOf lkX4_66 ⟨by decide, by decide⟩ (by decide) rfl (by decide) rfl rfl rfl (Nat.le_of_ble_eq_true rfl) rfl (Nat.le_of_ble_eq_true rfl) ⟨Nat.le_refl _, Nat.le_refl _⟩ (am_R.mono wp (fun r h' q => am_R.forget q ⟨rfl, ⟨rfl, ⟨rfl, trivial⟩⟩⟩))
  · have wp := wp.2 hc1
    refine am_aload_n rfl rfl dX4_layRows_39 ?_
    refine am_getA (r := 43) dX4_layRows_40 flX4_15 (Or.inr ⟨_, rfl⟩) rfl (by decide) rfl ?_
    refine am_iload_n rfl rfl dX4_layRows_43 ?_
    refine am_iconst 5 rfl dX4_layRows_44 ?_
    refine am_imul dX4_layRows_45 ?_
    refine am_iload rfl dX4_layRows_46 ?_
    refine am_iadd dX4_layRows_48 ?_
    refine am_aload_n rfl rfl dX4_layRows_49 ?_
    refine am_getA (r := 42) dX4_layRows_50 flX4_9 (Or.inr ⟨_, rfl⟩) rfl (by decide) rfl ?_
    refine am_iload rfl dX4_layRows_53 ?_
    obtain ⟨j4, e4, w4, wp⟩ := wp
    refine am_ialdN (j := j4) dX4_layRows_55 rfl (by decide) e4 w4 (by decide) ?_
    obtain ⟨j5, e5, w5, wp⟩ := wp
    refine am_iastN (j := j5) dX4_layRows_56 rfl (by decide) e5 w5 (by decide) ?_
    refine am_iload_n rfl rfl dX4_layRows_57 ?_
    refine am_if_eq dX4_layRows_58 (tgt := 84) rfl (fun hc6 => ?_) (fun hc6 => ?_)
    · have wp := wp.1 hc6
      refine am_iconst 0 rfl dX4_layRows_84 ?_
      refine am_istore_n (ls' := [some (.ref 41), some (.int a1), some (.int a2), some (.int 0), some (.int a4)]) rfl (by decide) rfl rfl dX4_layRows_85 ?_
      refine am_iinc (ls' := [some (.ref 41), some (.int a1), some (.int a2), some (.int 0), some (.int (a4 + 1))]) (by decide) rfl rfl rfl dX4_layRows_86 ?_
      refine am_goto dX4_layRows_89 (tgt := 27) rfl ?_
      exact am_R.forget wp ⟨rfl, ⟨rfl, ⟨rfl, ⟨rfl, ⟨rfl, trivial⟩⟩⟩⟩⟩
    · have wp := wp.2 hc6
      refine am_aload_n rfl rfl dX4_layRows_61 ?_
      refine am_getA (r := 4) dX4_layRows_62 flX4_27 (Or.inl ⟨_, rfl⟩) rfl (by decide) rfl ?_
      refine am_iload rfl dX4_layRows_65 ?_
      refine am_aload_n rfl rfl dX4_layRows_67 ?_
      refine am_getA (r := 42) dX4_layRows_68 flX4_9 (Or.inr ⟨_, rfl⟩) rfl (by decide) rfl ?_
      refine am_iload rfl dX4_layRows_71 ?_
      refine am_ialdN (j := j4) dX4_layRows_73 rfl (by decide) e4 w4 (by decide) ?_
      show am_R E mX4_layRows 74 [some (.ref 41), some (.int a1), some (.int a2), some (.int a3), some (.int a4)] [.int (I 42 j4), .int a4, .ref 4] (hp (u2 I 43 j5 (I 42 j4)) J b) 64 64 Q
      obtain ⟨j7, e7, w7, wp⟩ := wp
      refine am_invV (ci := 1) (As := [.int a4, .int (I 42 j4)]) (lsZ := [some (.ref 4), some (.int a4), some (.int (I 42 j4))]) (st := []) dX4_layRows_74 hX2_skillOf lkX4_63 ⟨by decide, by decide⟩ (by decide) rfl (by decide) rfl rfl rfl (Nat.le_of_ble_eq_true rfl) rfl (Nat.le_of_ble_eq_true rfl) ⟨Nat.le_refl _, Nat.le_refl _⟩ (tX2_skillOf (by decide) (j := j7) e7 w7 ?_)
      show am_R E mX4_layRows 77 [some (.ref 41), some (.int a1), some (.int a2), some (.int a3), some (.int a4)] [.int (I 5 j7)] (hp (u2 I 43 j5 (I 42 j4)) J b) 64 64 Q
      refine am_if_le dX4_layRows_77 (tgt := 84) rfl (fun hc8 => ?_) (fun hc8 => ?_)
      · have wp := wp.1 hc8
        refine am_iconst 0 rfl dX4_layRows_84 ?_
        refine am_istore_n (ls' := [some (.ref 41), some (.int a1), some (.int a2), some (.int 0), some (.int a4)]) rfl (by decide) rfl rfl dX4_layRows_85 ?_
        refine am_iinc (ls' := [some (.ref 41), some (.int a1), some (.int a2), some (.int 0), some (.int (a4 + 1))]) (by decide) rfl rfl rfl dX4_layRows_86 ?_
        refine am_goto dX4_layRows_89 (tgt := 27) rfl ?_
        exact am_R.forget wp ⟨rfl, ⟨rfl, ⟨rfl, ⟨rfl, ⟨rfl, trivial⟩⟩⟩⟩⟩
      · have wp := wp.2 hc8
        refine am_iconst 1 rfl dX4_layRows_80 ?_
        refine am_goto dX4_layRows_81 (tgt := 85) rfl ?_
        refine am_istore_n (ls' := [some (.ref 41), some (.int a1), some (.int a2), some (.int 1), some (.int a4)]) rfl (by decide) rfl rfl dX4_layRows_85 ?_
        refine am_iinc (ls' := [some (.ref 41), some (.int a1), some (.int a2), some (.int 1), some (.int (a4 + 1))]) (by decide) rfl rfl rfl dX4_layRows_86 ?_
        refine am_goto dX4_layRows_89 (tgt := 27) rfl ?_
        exact am_R.forget wp ⟨rfl, ⟨rfl, ⟨rfl, ⟨rfl, ⟨rfl, trivial⟩⟩⟩⟩⟩
theorem bX4_layRows_112 {E : Nat × (Nat → Int32)} {I : Nat → Nat → Int32} {J : Nat → Nat → Int64} {b : Bool} {a1 : Int32} {a2 : Int32} {x0 : Int32} {x1 : Int32} {Q : Option Value → am_H → Prop}  (wp : ∃ j1, x1 = nI j1 ∧ j1 < 120 ∧ am_R E mX4_layRows 2 [some (.ref 41), some (.int a1), some (.int (a2 + 1)), none, none] [] (hp (u2 I 44 j1 x0) J b) 64 64 Q) : am_R E mX4_layRows 112 [some (.ref 41), some (.int a1), some (.int a2), none, none] [.int x0, .int x1, .ref 44] (hp I J b) 64 64 Q := by
  refine am_goto dX4_layRows_112 (tgt := 116) rfl ?_
  obtain ⟨j1, e1, w1, wp⟩ := wp
  refine am_iastN (j := j1) dX4_layRows_116 rfl (by decide) e1 w1 (by decide) ?_
  refine am_iinc (ls' := [some (.ref 41), some (.int a1), some (.int (a2 + 1)), none, none]) (by decide) rfl rfl rfl dX4_layRows_117 ?_
  refine am_goto dX4_layRows_120 (tgt := 2) rfl ?_
  exact am_R.forget wp ⟨rfl, ⟨rfl, ⟨rfl, trivial⟩⟩⟩
theorem rc42 : rowc 42 := Or.inr (Or.inr (Or.inr (Or.inr (Or.inr (Or.inr (Or.inl rfl))))))
theorem tX4_layRows {a1 : Int32} (hW : Wk I n) (ea : a1 = nI (fct n)) (k : ∀ I', Ag pS I I' → RT I' n → WT I I' n → Q none (hp I' J b)) : am_R E mX4_layRows 0 [some (.ref 41), some (.int a1), none, none, none] [] (hp I J b) 64 64 Q := by
  subst ea
  have n7 : n ≤ 7 := hW.1.2.1.2
  have n2 : 2 ≤ n := hW.1.2.1.1
  have n5 := hW.2.1
  have hfl := f5 n (by omega)
  have key : ∀ j c, c + j = fct n → ∀ I1, Ag pS I I1 → (∀ c', c' < c → ∀ m, m < n → I1 43 (5 * c' + m) = nI (ur n c' m)) → (∀ c', c' < c → I1 44 c' = oI (if able I n c' then some (wn I n c') else none)) → am_R E mX4_layRows 2 [some (.ref 41), some (.int (nI (fct n))), some (.int (nI c)), none, none] [] (hp I1 J b) 64 64 Q := by
    intro j
    induction j with
    | zero =>
      intro c hc I1 hA h1 h2
      have e : c = fct n := by omega
      subst e
      exact bX4_layRows_2 (le_br rfl rfl (by omega) (by omega) (fun _ => k I1 hA h1 h2) (fun h => by omega))
    | succ j ih =>
      intro c hc I1 hA h1 h2
      have hcl : c < fct n := by omega
      have hup := (ur_pm n7 hcl).1
      obtain ⟨w1, w2⟩ := wn_ok (I := I) n7 hW.2.2.2.2.1 hcl
      refine bX4_layRows_2 (le_br rfl rfl (by omega) (by omega) (fun h => by omega) (fun _ => ?_))
      refine tX3_fill (n := n) rc42 n2 n7 (by rw [hA 4 (by decide)]; exact hW.1.1) rfl hcl (fun f hf => bX4_layRows_22 ?_)
      have inner : ∀ r m, m + r = n → ∀ (a : Int32) (g : Nat → Int32), (a = 1 ∧ (∀ i, i < m → 0 < I 49 (7 * i + ur n c i)) ∨ a = 0 ∧ able I n c = false) → (∀ c', c' < c → ∀ i, i < n → g (5 * c' + i) = nI (ur n c' i)) → (∀ i, i < m → g (5 * c + i) = nI (ur n c i)) → am_R E mX4_layRows 27 [some (.ref 41), some (.int (nI (fct n))), some (.int (nI c)), some (.int a), some (.int (nI m))] [] (hp (u1 (u1 I1 42 f) 43 g) J b) 64 64 Q := by
        intro r
        induction r with
        | zero =>
          intro m hm a g ha g1 g2
          have e : m = n := by omega
          subst e
          have hA2 : Ag pS I (u1 (u1 I1 42 f) 43 g) := (hA.u1 (by decide)).u1 (by decide)
          have fin : ∀ x : Int32, x = oI (if able I m c then some (wn I m c) else none) → am_R E mX4_layRows 2 [some (.ref 41), some (.int (nI (fct m))), some (.int (nI c + 1)), none, none] [] (hp (u2 (u1 (u1 I1 42 f) 43 g) 44 c x) J b) 64 64 Q := by
            intro x hx
            rw [n1]
            refine ih (c + 1) (by omega) _ (hA2.u2 (by decide)) (fun c' hc' i hi => ?_) (fun c' hc' => ?_)
            · rw [u2_n _ _ _ (by decide), u1_s]
              rcases Nat.lt_or_ge c' c with q | q
              · exact g1 c' q i hi
              · rw [show c' = c by omega]; exact g2 i hi
            · rw [u2_s, u1_n _ _ (by decide), u1_n _ _ (by decide)]
              unfold upd
              by_cases q : c' = c
              · rw [if_pos q, q]; exact hx
              · rw [if_neg q]; exact h2 c' (by omega)
          refine bX4_layRows_27 (le_br (by rw [hA2 4 (by decide)]; exact hW.1.1) rfl (by omega) (by omega) (fun _ => ?_) (fun h => by omega))
          rcases ha with ⟨rfl, ha⟩ | ⟨rfl, ha⟩
          · refine z01 rfl ?_
            have hab : able I m c = true := decide_eq_true ha
            have hC2 : CH (u1 (u1 I1 42 f) 43 g) m := by
              rw [CH_eq (hA2 4 (by decide)) (hA2 5 (by decide)) (hA2 6 (by decide)) (hA2 24 (by decide)) (hA2 49 (by decide)) (hA2 50 (by decide)) (hA2 51 (by decide)) (fun m => by rw [hA2 55 (by decide)])]
              exact hW.1
            refine tX2_workOf (n := m) (p := ur m c) rc42 hC2 hf (bX4_layRows_112 ⟨c, rfl, by omega, ?_⟩)
            rw [hA2 49 (by decide), w1]
            exact fin _ (by rw [if_pos hab]; rfl)
          · refine z00 rfl ⟨c, rfl, by omega, fin (-1) ?_⟩
            rw [if_neg (by rw [ha]; decide)]; rfl
        | succ r ihr =>
          intro m hm a g ha g1 g2
          have hmn : m < n := by omega
          have hpm := hf m hmn
          have hA2 : Ag pS I (u1 (u1 I1 42 f) 43 g) := (hA.u1 (by decide)).u1 (by decide)
          have e42 : u1 (u1 I1 42 f) 43 g 42 m = nI (ur n c m) := hpm.1
          have nxt : ∀ a : Int32, (a = 1 ∧ (∀ i, i < m + 1 → 0 < I 49 (7 * i + ur n c i)) ∨ a = 0 ∧ able I n c = false) → am_R E mX4_layRows 27 [some (.ref 41), some (.int (nI (fct n))), some (.int (nI c)), some (.int a), some (.int (nI m + 1))] [] (hp (u2 (u1 (u1 I1 42 f) 43 g) 43 (5 * c + m) (nI (ur n c m))) J b) 64 64 Q := by
            intro a ha
            rw [n1, u2_u1]
            refine ihr (m + 1) (by omega) a _ ha (fun c' hc' i hi => ?_) (fun i hi => ?_)
            · unfold upd; rw [if_neg (by omega)]; exact g1 c' hc' i hi
            · unfold upd
              by_cases q : i = m
              · rw [if_pos (by omega), q]
              · rw [if_neg (by omega)]; exact g2 i (by omega)
          refine bX4_layRows_27 (le_br (by rw [hA2 4 (by decide)]; exact hW.1.1) rfl (by omega) (by omega) (fun h => by omega) (fun _ => ⟨m, rfl, by omega, 5 * c + m, m5 c m, by omega, ?_⟩))
          rw [e42]
          rcases ha with ⟨rfl, ha⟩ | ⟨rfl, ha⟩
          · refine z01 rfl ⟨7 * m + ur n c m, k7' _ _, by omega, ?_⟩
            have e5 : u1 (u1 I1 42 f) 43 g 5 (7 * m + ur n c m) = I 49 (7 * m + ur n c m) := by rw [hA2 5 (by decide)]; exact hW.1.2.2.1 _ (by omega)
            rw [e5]
            refine ⟨fun q => nxt 0 (Or.inr ⟨rfl, decide_eq_false (fun z => Int32.not_le.mpr (z m hmn) q)⟩), fun q => nxt 1 (Or.inl ⟨rfl, fun i hi => ?_⟩)⟩
            rcases Nat.lt_or_ge i m with z | z
            · exact ha i z
            · rw [show i = m by omega]; exact nle q
          · exact z00 rfl (nxt 0 (Or.inr ⟨rfl, ha⟩))
      have := inner n 0 (by omega) 1 (I1 43) (Or.inl ⟨rfl, fun i hi => by omega⟩) (fun c' hc' i hi => h1 c' hc' i hi) (fun i hi => by omega)
      rw [show u1 (u1 I1 42 f) 43 (I1 43) = u1 I1 42 f from u1_self _ _] at this
      exact this
  exact bX4_layRows_0 (key (fct n) 0 (by omega) I (Ag.rf _ I) (fun c' hc' => by omega) (fun c' hc' => by omega))
theorem bX4_bestAhead_0 {E : Nat × (Nat → Int32)} {I : Nat → Nat → Int32} {J : Nat → Nat → Int64} {b : Bool} {a1 : Int32} {a2 : Int32} {Q : Option Value → am_H → Prop}  (wp : am_R E mX4_bestAhead 5 [some (.ref 41), some (.int a1), some (.int a2), some (.int (-1)), some (.int 0)] [] (hp I J b) 64 64 Q) : am_R E mX4_bestAhead 0 [some (.ref 41), some (.int a1), some (.int a2), none, none] [] (hp I J b) 64 64 Q := by
  refine am_iconst (-1) rfl dX4_bestAhead_0 ?_
  refine am_istore_n (ls' := [some (.ref 41), some (.int a1), some (.int a2), some (.int (-1)), none]) rfl (by decide) rfl rfl dX4_bestAhead_1 ?_
  refine am_iconst 0 rfl dX4_bestAhead_2 ?_
  refine am_istore (ls' := [some (.ref 41), some (.int a1), some (.int a2), some (.int (-1)), some (.int 0)]) (by decide) rfl rfl dX4_bestAhead_3 ?_
  exact am_R.forget wp ⟨rfl, ⟨rfl, ⟨rfl, ⟨rfl, ⟨rfl, trivial⟩⟩⟩⟩⟩
theorem bX4_bestAhead_5 {E : Nat × (Nat → Int32)} {I : Nat → Nat → Int32} {J : Nat → Nat → Int64} {b : Bool} {a1 : Int32} {a2 : Int32} {a3 : Int32} {a4 : Int32} {Q : Option Value → am_H → Prop}  (wp : ((a1 ≤ a4 → Q (some (.int a3)) (hp I J b)) ∧ (¬ a1 ≤ a4 → ∃ j2, a4 = nI j2 ∧ j2 < 120 ∧ (((I (pbst b) j2) ≤ a3 → am_R E mX4_bestAhead 5 [some (.ref 41), some (.int a1), some (.int a2), some (.int a3), some (.int (a4 + 1))] [] (hp I J b) 64 64 Q) ∧ (¬ (I (pbst b) j2) ≤ a3 → am_R E mX4_mayComeBehind 0 [some (.ref 41), some (.ref 43), some (.int (a4 * 5)), some (.int a2), none] [] (hp I J b) 64 64 (fun r h' => am_R E mX4_bestAhead 35 [some (.ref 41), some (.int a1), some (.int a2), some (.int a3), some (.int a4)] (r.toList ++ []) h' 64 64 Q)))))) : am_R E mX4_bestAhead 5 [some (.ref 41), some (.int a1), some (.int a2), some (.int a3), some (.int a4)] [] (hp I J b) 64 64 Q := by
  refine am_iload rfl dX4_bestAhead_5 ?_
  refine am_iload_n rfl rfl dX4_bestAhead_7 ?_
  refine am_icmp_ge dX4_bestAhead_8 (tgt := 52) rfl (fun hc1 => ?_) (fun hc1 => ?_)
  · have wp := wp.1 hc1
    refine am_iload_n rfl rfl dX4_bestAhead_52 ?_
    exact am_iret dX4_bestAhead_53 rfl rfl wp
  · have wp := wp.2 hc1
    refine am_aload_n rfl rfl dX4_bestAhead_11 ?_
    refine am_getA (r := (pbst b)) dX4_bestAhead_12 flX4_21 (Or.inr ⟨_, rfl⟩) rfl (by decide) rfl ?_
    refine am_iload rfl dX4_bestAhead_15 ?_
    obtain ⟨j2, e2, w2, wp⟩ := wp
    refine am_ialdN (j := j2) dX4_bestAhead_17 (am_s_pb b) (am_k_pb b) e2 w2 (by decide) ?_
    refine am_iload_n rfl rfl dX4_bestAhead_18 ?_
    refine am_icmp_le dX4_bestAhead_19 (tgt := 46) rfl (fun hc3 => ?_) (fun hc3 => ?_)
    · have wp := wp.1 hc3
      refine am_iinc (ls' := [some (.ref 41), some (.int a1), some (.int a2), some (.int a3), some (.int (a4 + 1))]) (by decide) rfl rfl rfl dX4_bestAhead_46 ?_
      refine am_goto dX4_bestAhead_49 (tgt := 5) rfl ?_
      exact am_R.forget wp ⟨rfl, ⟨rfl, ⟨rfl, ⟨rfl, ⟨rfl, trivial⟩⟩⟩⟩⟩
    · have wp := wp.2 hc3
      refine am_aload_n rfl rfl dX4_bestAhead_22 ?_
      refine am_aload_n rfl rfl dX4_bestAhead_23 ?_
      refine am_getA (r := 43) dX4_bestAhead_24 flX4_15 (Or.inr ⟨_, rfl⟩) rfl (by decide) rfl ?_
      refine am_iload rfl dX4_bestAhead_27 ?_
      refine am_iconst 5 rfl dX4_bestAhead_29 ?_
      refine am_imul dX4_bestAhead_30 ?_
      refine am_iload_n rfl rfl dX4_bestAhead_31 ?_
      refine am_invV (ci := 2) (As := [.ref 43, .int (a4 * 5), .int a2]) (lsZ := [some (.ref 41), some (.ref 43), some (.int (a4 * 5)), some (.int a2), none]) (st := []) dX4_bestAhead_32 hX4_mayComeBehind lkX4_44 ⟨by decide, by decide⟩ (by decide) rfl (by decide) rfl rfl rfl (Nat.le_of_ble_eq_true rfl) rfl (Nat.le_of_ble_eq_true rfl) ⟨Nat.le_refl _, Nat.le_refl _⟩ (am_R.mono wp (fun r h' q => am_R.forget q ⟨rfl, ⟨rfl, ⟨rfl, ⟨rfl, ⟨rfl, trivial⟩⟩⟩⟩⟩))
theorem bX4_bestAhead_35 {E : Nat × (Nat → Int32)} {I : Nat → Nat → Int32} {J : Nat → Nat → Int64} {b : Bool} {a1 : Int32} {a2 : Int32} {a3 : Int32} {a4 : Int32} {x0 : Int32} {Q : Option Value → am_H → Prop}  (wp : ((x0 = 0 → am_R E mX4_bestAhead 5 [some (.ref 41), some (.int a1), some (.int a2), some (.int a3), some (.int (a4 + 1))] [] (hp I J b) 64 64 Q) ∧ (¬ x0 = 0 → ∃ j2, a4 = nI j2 ∧ j2 < 120 ∧ am_R E mX4_bestAhead 5 [some (.ref 41), some (.int a1), some (.int a2), some (.int (I (pbst b) j2)), some (.int (a4 + 1))] [] (hp I J b) 64 64 Q))) : am_R E mX4_bestAhead 35 [some (.ref 41), some (.int a1), some (.int a2), some (.int a3), some (.int a4)] [.int x0] (hp I J b) 64 64 Q := by
  refine am_if_eq dX4_bestAhead_35 (tgt := 46) rfl (fun hc1 => ?_) (fun hc1 => ?_)
  · have wp := wp.1 hc1
    refine am_iinc (ls' := [some (.ref 41), some (.int a1), some (.int a2), some (.int a3), some (.int (a4 + 1))]) (by decide) rfl rfl rfl dX4_bestAhead_46 ?_
    refine am_goto dX4_bestAhead_49 (tgt := 5) rfl ?_
    exact am_R.forget wp ⟨rfl, ⟨rfl, ⟨rfl, ⟨rfl, ⟨rfl, trivial⟩⟩⟩⟩⟩
  · have wp := wp.2 hc1
    refine am_aload_n rfl rfl dX4_bestAhead_38 ?_
    refine am_getA (r := (pbst b)) dX4_bestAhead_39 flX4_21 (Or.inr ⟨_, rfl⟩) rfl (by decide) rfl ?_
    refine am_iload rfl dX4_bestAhead_42 ?_
    obtain ⟨j2, e2, w2, wp⟩ := wp
    refine am_ialdN (j := j2) dX4_bestAhead_44 (am_s_pb b) (am_k_pb b) e2 w2 (by decide) ?_
    refine am_istore_n (ls' := [some (.ref 41), some (.int a1), some (.int a2), some (.int (I (pbst b) j2)), some (.int a4)]) rfl (by decide) rfl rfl dX4_bestAhead_45 ?_
    refine am_iinc (ls' := [some (.ref 41), some (.int a1), some (.int a2), some (.int (I (pbst b) j2)), some (.int (a4 + 1))]) (by decide) rfl rfl rfl dX4_bestAhead_46 ?_
    refine am_goto dX4_bestAhead_49 (tgt := 5) rfl ?_
    exact am_R.forget wp ⟨rfl, ⟨rfl, ⟨rfl, ⟨rfl, ⟨rfl, trivial⟩⟩⟩⟩⟩
theorem tX4_bestAhead {a1 a2 : Int32} {c M : Nat} {B : Nat → Option Nat} (hW : Wk I n) (hA : Ag pS I I') (hT : RT I' n) (hB : Bd B (fct n) M) (hM : M < 2 ^ 31) (hbB : ∀ c, c < fct n → I' (pbst b) c = oI (B c)) (ea : a1 = nI (fct n)) (ec : a2 = nI c) (hc : c < fct n) (hab : able I n c = true) (k : Q (some (.int (oI (ah (fun c' => bh I n c' c) B (fct n))))) (hp I' J b)) : am_R E mX4_bestAhead 0 [some (.ref 41), some (.int a1), some (.int a2), none, none] [] (hp I' J b) 64 64 Q := by
  subst ea; subst ec
  have n5 := hW.2.1
  have hfl := f5 n (by omega)
  refine bX4_bestAhead_0 (lp_up (n := fct n) (P := fun j => am_R E mX4_bestAhead 5 [some (.ref 41), some (.int (nI (fct n))), some (.int (nI c)), some (.int (oI (ah (fun c' => bh I n c' c) B j))), some (.int (nI j))] [] (hp I' J b) 64 64 Q) ?_ ?_)
  · exact bX4_bestAhead_5 (le_br rfl rfl (by omega) (by omega) (fun _ => k) (fun h => by omega))
  · intro j hj ih
    have hlt := oI_lt (a := ah (fun c' => bh I n c' c) B j) (e := B j) (fun v hv => by have := ah_bd hB j (by omega) v hv; omega) (fun v hv => by have := hB j v hj hv; omega)
    rw [ah] at ih
    refine bX4_bestAhead_5 (le_br rfl rfl (by omega) (by omega) (fun h => by omega) (fun _ => ⟨j, rfl, by omega, ?_⟩))
    rw [hbB j hj]
    refine ⟨fun q => ?_, fun q => ?_⟩
    · rw [if_neg (fun z => Int32.not_le.mpr (hlt.mpr z.2) q)] at ih
      rw [n1]; exact ih
    · have q := hlt.mp (nle q)
      refine tX4_mcbR hW hA hT rfl hc (by rw [show (5 : Int32) = nI 5 from rfl, pk_mul, Nat.mul_comm]) hj hab (fun z => bX4_bestAhead_35 (z01 rfl ⟨j, rfl, by omega, ?_⟩)) (fun z => bX4_bestAhead_35 (z00 rfl ?_))
      · rw [if_pos ⟨z, q⟩] at ih
        rw [n1, hbB j hj]; exact ih
      · rw [if_neg (fun w => by have := w.1; rw [z] at this; cases this)] at ih
        rw [n1]; exact ih
theorem tX4_addDay {a1 : Int32} {M : Nat} {B : Nat → Option Nat} (hW : Wk I n) (hA : Ag pS I I') (hT : RT I' n) (hw : WT I I' n) (hB : Bd B (fct n) M) (hM : M + 63 < 2 ^ 31) (hbB : ∀ c, c < fct n → I' (pbst b) c = oI (B c)) (ea : a1 = nI (fct n)) (k : ∀ I2, Ag pS I I2 → RT I2 n → WT I I2 n → (∀ c, c < fct n → I2 (pbst (!b)) c = oI (nxB I n B (fct n) c)) → Q none (hp I2 J (!b))) : am_R E mX4_addDay 0 [some (.ref 41), some (.int a1), none, none] [] (hp I' J b) 64 64 Q := by
  subst ea
  have n7 : n ≤ 7 := hW.1.2.1.2
  have n5 := hW.2.1
  have hfl := f5 n (by omega)
  obtain ⟨x1, x2, x3, x4, x5, x6, x7, x8, x9⟩ := pb45 b
  have ebn : pbst (!b) = pnxt b := by cases b <;> rfl
  have key : ∀ j c, c + j = fct n → ∀ I1, Ag pS I I1 → RT I1 n → WT I I1 n → (∀ c, c < fct n → I1 (pbst b) c = oI (B c)) → (∀ c', c' < c → I1 (pnxt b) c' = oI (nxB I n B (fct n) c')) → am_R E mX4_addDay 2 [some (.ref 41), some (.int (nI (fct n))), some (.int (nI c)), none] [] (hp I1 J b) 64 64 Q := by
    intro j
    induction j with
    | zero =>
      intro c hc I1 hA hT hw hbB hn
      have e : c = fct n := by omega
      subst e
      exact bX4_addDay_2 (le_br rfl rfl (by omega) (by omega) (fun _ => bX4_addDay_57 (k I1 hA hT hw (by rw [ebn]; exact hn))) (fun h => by omega))
    | succ j ih =>
      intro c hc I1 hA hT hw hbB hn
      have hcl : c < fct n := by omega
      obtain ⟨w1, w2⟩ := wn_ok (I := I) n7 hW.2.2.2.2.1 hcl
      have e44 := hw c hcl
      have fin : ∀ x : Int32, x = oI (nxB I n B (fct n) c) → am_R E mX4_addDay 2 [some (.ref 41), some (.int (nI (fct n))), some (.int (nI c + 1)), none] [] (hp (u2 I1 (pnxt b) c x) J b) 64 64 Q := by
        intro x hx
        rw [n1]
        refine ih (c + 1) (by omega) _ (hA.u2 x2) (fun c' hc' m hm => ?_) (fun c' hc' => ?_) (fun c' hc' => ?_) (fun c' hc' => ?_)
        · rw [u2_n _ _ _ (Ne.symm x6)]; exact hT c' hc' m hm
        · rw [u2_n _ _ _ (Ne.symm x7)]; exact hw c' hc'
        · rw [u2_n _ _ _ x3]; exact hbB c' hc'
        · rw [u2_s]; unfold upd
          by_cases q : c' = c
          · rw [if_pos q, q]; exact hx
          · rw [if_neg q]; exact hn c' (by omega)
      cases hab : able I n c with
      | false =>
        rw [hab] at e44
        have en : nxB I n B (fct n) c = none := by unfold nxB; rw [hab]; rfl
        have e44 : I1 44 c = -1 := e44
        refine bX4_addDay_2 (le_br rfl rfl (by omega) (by omega) (fun h => by omega) (fun _ => ⟨c, rfl, by omega, ?_⟩))
        rw [e44]
        exact ⟨fun q => absurd rfl q, fun _ => fin (-1) (by rw [en]; rfl)⟩
      | true =>
        rw [hab] at e44
        have e44 : I1 44 c = nI (wn I n c) := e44
        have en : nxB I n B (fct n) c = (ah (fun c' => bh I n c' c) B (fct n)).map (fun v => v + wn I n c) := by unfold nxB; rw [hab]; rfl
        have nm : ¬ nI (wn I n c) = (-1 : Int32) := fun q => by have := m1_lt (v := wn I n c) (by omega); rw [q] at this; exact absurd this (by decide)
        refine bX4_addDay_2 (le_br rfl rfl (by omega) (by omega) (fun h => by omega) (fun _ => ⟨c, rfl, by omega, ?_⟩))
        rw [e44]
        refine ⟨fun _ => ?_, fun q => absurd q nm⟩
        refine tX4_bestAhead (M := M) (B := B) hW hA hT hB (by omega) hbB rfl rfl hcl hab (bX4_addDay_27 ?_)
        cases ha : ah (fun c' => bh I n c' c) B (fct n) with
        | none =>
          rw [ha] at en
          exact ⟨fun q => absurd rfl q, fun _ => ⟨c, rfl, by omega, fin (-1) (by rw [en]; rfl)⟩⟩
        | some v =>
          rw [ha] at en
          have hv := ah_bd hB (fct n) (Nat.le_refl _) v ha
          refine ⟨fun _ => ⟨c, rfl, by omega, ?_⟩, fun q => absurd q (fun q => by
            have q : nI v = -1 := q
            have := m1_lt (v := v) (by omega); rw [q] at this; exact absurd this (by decide))⟩
          rw [e44]
          refine fin _ ?_
          rw [en]
          show nI v + nI (wn I n c) = nI (v + wn I n c)
          exact nI_add _ _
  exact bX4_addDay_0 (key (fct n) 0 (by omega) I' hA hT hw hbB (fun c' hc' => by omega))
end P13
