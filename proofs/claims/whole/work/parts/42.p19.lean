/-! ===== tokens ===== -/
section P19
variable {E : Nat × (Nat → Int32)} {I I' : Nat → Nat → Int32} {J J' : Nat → Nat → Int64} {b : Bool} {n : Nat} {Q : Option Value → am_H → Prop}
variable {T : Nat → Int32} {L p : Nat}
def isL (x : Int32) : Bool := decide (97 ≤ x ∧ x ≤ 122)
def isD (x : Int32) : Bool := decide (48 ≤ x ∧ x ≤ 57)
def isB (x : Int32) : Bool := decide (x = 32)
/-- the end of a run -/
def ru (P : Int32 → Bool) (T : Nat → Int32) (L : Nat) : Nat → Nat → Nat
  | 0, p => p
  | f + 1, p => if p < L ∧ P (T p) = true then ru P T L f (p + 1) else p
def rn (P : Int32 → Bool) (T : Nat → Int32) (L p : Nat) : Nat := ru P T L (L - p) p
theorem rn_eq (P : Int32 → Bool) (T : Nat → Int32) (L p : Nat) : rn P T L p = if p < L ∧ P (T p) = true then rn P T L (p + 1) else p := by
  by_cases h : p < L
  · unfold rn
    rw [show L - p = (L - (p + 1)) + 1 by omega, ru]
  · unfold rn
    rw [show L - p = 0 by omega, ru, if_neg (fun z => h z.1)]
theorem rn_ok (P : Int32 → Bool) (T : Nat → Int32) (L : Nat) : ∀ r p, p + r = L → p ≤ rn P T L p ∧ rn P T L p ≤ L ∧ ¬ (rn P T L p < L ∧ P (T (rn P T L p)) = true) ∧ ∀ i, p ≤ i → i < rn P T L p → P (T i) = true := by
  intro r
  induction r with
  | zero =>
    intro p hp
    rw [rn_eq, if_neg (fun z => by omega)]
    exact ⟨Nat.le_refl _, by omega, fun z => by omega, fun i h1 h2 => by omega⟩
  | succ r ih =>
    intro p hp
    rw [rn_eq]
    by_cases h : p < L ∧ P (T p) = true
    · rw [if_pos h]
      obtain ⟨h1, h2, h3, h4⟩ := ih (p + 1) (by omega)
      refine ⟨by omega, h2, h3, fun i hi hi2 => ?_⟩
      by_cases e : i = p
      · rw [e]; exact h.2
      · exact h4 i (by omega) hi2
    · rw [if_neg h]
      exact ⟨Nat.le_refl _, by omega, h, fun i h1 h2 => by omega⟩
/-- a token's beginning and end -/
def ts (T : Nat → Int32) (L p : Nat) : Nat := rn isB T L p
def te (T : Nat → Int32) (L p : Nat) : Nat := if ts T L p < L then (if isL (T (ts T L p)) = true then rn isL T L (ts T L p) else if isD (T (ts T L p)) = true then rn isD T L (ts T L p) else ts T L p + 1) else ts T L p
theorem ts_ok (hp : p ≤ L) : p ≤ ts T L p ∧ ts T L p ≤ L := by
  obtain ⟨h1, h2, -, -⟩ := rn_ok isB T L (L - p) p (by omega)
  exact ⟨h1, h2⟩
theorem te_ok (hp : p ≤ L) : ts T L p ≤ te T L p ∧ te T L p ≤ L ∧ (ts T L p < L → ts T L p < te T L p) := by
  obtain ⟨h1, h2⟩ := ts_ok (T := T) hp
  unfold te
  by_cases h : ts T L p < L
  · rw [if_pos h]
    by_cases q : isL (T (ts T L p)) = true
    · rw [if_pos q]
      obtain ⟨x1, x2, x3, -⟩ := rn_ok isL T L (L - ts T L p) (ts T L p) (by omega)
      refine ⟨x1, x2, fun _ => ?_⟩
      rcases Nat.lt_or_ge (ts T L p) (rn isL T L (ts T L p)) with z | z
      · exact z
      · have e : rn isL T L (ts T L p) = ts T L p := by omega
        rw [e] at x3
        exact absurd ⟨h, q⟩ x3
    · rw [if_neg q]
      by_cases q2 : isD (T (ts T L p)) = true
      · rw [if_pos q2]
        obtain ⟨x1, x2, x3, -⟩ := rn_ok isD T L (L - ts T L p) (ts T L p) (by omega)
        refine ⟨x1, x2, fun _ => ?_⟩
        rcases Nat.lt_or_ge (ts T L p) (rn isD T L (ts T L p)) with z | z
        · exact z
        · have e : rn isD T L (ts T L p) = ts T L p := by omega
          rw [e] at x3
          exact absurd ⟨h, q2⟩ x3
      · rw [if_neg q2]; exact ⟨by omega, by omega, fun _ => by omega⟩
  · rw [if_neg h]; exact ⟨Nat.le_refl _, h2, fun z => absurd z h⟩
theorem let_n {x : Int32} (h : isL x = true) : ∃ c, 97 ≤ c ∧ c ≤ 122 ∧ x = nI c := by
  obtain ⟨h1, h2⟩ := of_decide_eq_true h
  obtain ⟨c, hc, rfl⟩ := nI_of2 (x := x) (M := 122) (n := 122) (by decide) (fun q => by
    have := Int32.lt_of_lt_of_le q (Int32.le_trans (show (0 : Int32) ≤ 97 by decide) h1)
    exact absurd this Int32.lt_irrefl) h2
  exact ⟨c, (nI_leI (a := 97) (by omega) (by omega)).mp h1, hc, rfl⟩
theorem dig_n {x : Int32} (h : isD x = true) : ∃ c, 48 ≤ c ∧ c ≤ 57 ∧ x = nI c := by
  obtain ⟨h1, h2⟩ := of_decide_eq_true h
  obtain ⟨c, hc, rfl⟩ := nI_of2 (x := x) (M := 57) (n := 57) (by decide) (fun q => by
    have := Int32.lt_of_lt_of_le q (Int32.le_trans (show (0 : Int32) ≤ 48 by decide) h1)
    exact absurd this Int32.lt_irrefl) h2
  exact ⟨c, (nI_leI (a := 48) (by omega) (by omega)).mp h1, hc, rfl⟩
/-- letters, last first, as numbers from 1 -/
def lt (T : Nat → Int32) (s : Nat) : Nat → List Nat
  | 0 => []
  | k + 1 => ((T (s + k)).toNatClampNeg - 96) :: lt T s k
def w27 : List Nat → Nat
  | [] => 0
  | d :: l => 27 * w27 l + d
def lsT (T : Nat → Int32) (L p : Nat) : List Nat := if ts T L p < L ∧ isL (T (ts T L p)) = true then lt T (ts T L p) (te T L p - ts T L p) else []
theorem lt_len (s : Nat) : ∀ k, (lt T s k).length = k
  | 0 => rfl
  | k + 1 => by rw [lt, List.length_cons, lt_len s k]
theorem w27_inj : ∀ (x y : List Nat), (∀ d, d ∈ x → 1 ≤ d ∧ d ≤ 26) → (∀ d, d ∈ y → 1 ≤ d ∧ d ≤ 26) → w27 x = w27 y → x = y
  | [], [], _, _, _ => rfl
  | [], d :: y, _, hy, h => by
    have := hy d List.mem_cons_self
    simp only [w27] at h
    omega
  | d :: x, [], hx, _, h => by
    have := hx d List.mem_cons_self
    simp only [w27] at h
    omega
  | d :: x, e :: y, hx, hy, h => by
    have h1 := hx d List.mem_cons_self
    have h2 := hy e List.mem_cons_self
    simp only [w27] at h
    have ed : d = e := by omega
    have ew : w27 x = w27 y := by omega
    rw [ed, w27_inj x y (fun z hz => hx z (List.mem_cons_of_mem _ hz)) (fun z hz => hy z (List.mem_cons_of_mem _ hz)) ew]
theorem w27_lt : ∀ (x : List Nat), (∀ d, d ∈ x → 1 ≤ d ∧ d ≤ 26) → w27 x < 27 ^ x.length
  | [], _ => by simp [w27]
  | d :: x, h => by
    have h1 := h d List.mem_cons_self
    have h2 := w27_lt x (fun z hz => h z (List.mem_cons_of_mem _ hz))
    rw [List.length_cons, Nat.pow_succ]
    simp only [w27]
    omega
theorem lt_dig {s : Nat} : ∀ k, (∀ i, i < k → isL (T (s + i)) = true) → ∀ d, d ∈ lt T s k → 1 ≤ d ∧ d ≤ 26
  | 0, _, d, h => by cases h
  | k + 1, hl, d, h => by
    rw [lt] at h
    rcases List.mem_cons.mp h with q | q
    · obtain ⟨c, c1, c2, e⟩ := let_n (hl k (by omega))
      rw [q, e, nI_clamp (by omega)]
      omega
    · exact lt_dig k (fun i hi => hl i (by omega)) d q
theorem lt_at {T' : Nat → Int32} {s s' : Nat} : ∀ k, (∀ i, i < k → isL (T (s + i)) = true) → (∀ i, i < k → isL (T' (s' + i)) = true) → lt T s k = lt T' s' k → ∀ i, i < k → T (s + i) = T' (s' + i)
  | 0, _, _, _, i, hi => by omega
  | k + 1, h1, h2, h, i, hi => by
    rw [lt, lt] at h
    injection h with e1 e2
    by_cases q : i = k
    · subst q
      obtain ⟨c, c1, c2, e⟩ := let_n (h1 i (by omega))
      obtain ⟨c', c3, c4, e'⟩ := let_n (h2 i (by omega))
      rw [e, e', nI_clamp (by omega), nI_clamp (by omega)] at e1
      rw [e, e', show c = c' by omega]
    · exact lt_at k (fun i hi => h1 i (by omega)) (fun i hi => h2 i (by omega)) e2 i (by omega)
theorem lt_cong {T' : Nat → Int32} {s s' : Nat} : ∀ k, (∀ i, i < k → T (s + i) = T' (s' + i)) → lt T s k = lt T' s' k
  | 0, _ => rfl
  | k + 1, h => by rw [lt, lt, h k (by omega), lt_cong k (fun i hi => h i (by omega))]
/-- the words -/
def wd (w : Nat) : List Nat := lt (fun i => (am_sb.getD w []).getD i 0) 0 (am_sn.getD w 0)
theorem wd_inj : ∀ i, i < 9 → ∀ j, j < 9 → wd i = wd j → i = j := by decide +kernel
theorem wd_len : ∀ i, i < 9 → (wd i).length = am_sn.getD i 0 ∧ 1 ≤ am_sn.getD i 0 ∧ am_sn.getD i 0 ≤ 6 := by decide +kernel
theorem sb_let : ∀ w, w < 9 → ∀ i, i < am_sn.getD w 0 → isL ((am_sb.getD w []).getD (0 + i) 0) = true := by decide +kernel
theorem ls_let (hp : p ≤ L) (h : ts T L p < L ∧ isL (T (ts T L p)) = true) : ∀ i, i < te T L p - ts T L p → isL (T (ts T L p + i)) = true := by
  intro i hi
  unfold te at hi
  rw [if_pos h.1, if_pos h.2] at hi
  obtain ⟨x1, x2, x3, x4⟩ := rn_ok isL T L (L - ts T L p) (ts T L p) (by omega)
  exact x4 (ts T L p + i) (by omega) (by omega)
theorem spl {w : Nat} (hp : p ≤ L) (hw : w < 9) : (te T L p - ts T L p = am_sn.getD w 0 ∧ ∀ i, i < am_sn.getD w 0 → T (ts T L p + i) = (am_sb.getD w []).getD i 0) ↔ lsT T L p = wd w := by
  obtain ⟨l1, l2, l3⟩ := wd_len w hw
  have hte := te_ok (T := T) hp
  constructor
  · rintro ⟨h1, h2⟩
    have hl : ts T L p < L := by omega
    have h0 := h2 0 (by omega)
    have hL0 := sb_let w hw 0 (by omega)
    have hL : isL (T (ts T L p)) = true := by
      rw [Nat.add_zero] at h0
      rw [h0]; exact hL0
    unfold lsT
    rw [if_pos ⟨hl, hL⟩, h1]
    exact lt_cong _ (fun i hi => by rw [h2 i hi, Nat.zero_add])
  · intro h
    unfold lsT at h
    by_cases q : ts T L p < L ∧ isL (T (ts T L p)) = true
    · rw [if_pos q] at h
      have hk : te T L p - ts T L p = am_sn.getD w 0 := by
        have := congrArg List.length h
        rw [lt_len, l1] at this
        exact this
      refine ⟨hk, fun i hi => ?_⟩
      have hls := ls_let hp q
      rw [hk] at h hls
      have h : lt T (ts T L p) (am_sn.getD w 0) = lt (fun i => (am_sb.getD w []).getD i 0) 0 (am_sn.getD w 0) := h
      have := lt_at (T := T) (T' := fun i => (am_sb.getD w []).getD i 0) (s := ts T L p) (s' := 0) (am_sn.getD w 0) hls (fun i hi => sb_let w hw i hi) h i hi
      rw [Nat.zero_add] at this
      exact this
    · rw [if_neg q] at h
      have := congrArg List.length h
      rw [l1] at this
      have this : 0 = am_sn.getD w 0 := this
      omega
/-- which word -/
def vi (l : List Nat) : Option Nat := (List.range 9).find? (fun i => decide (l = wd i))
theorem vi_some {l : List Nat} {i : Nat} (hi : i < 9) (h : l = wd i) : vi l = some i := by
  unfold vi
  exact find_range hi (decide_eq_true h) (fun j hj => decide_eq_false (fun z => by
    have := wd_inj i hi j (by omega) (h.symm.trans z)
    omega))
theorem vi_none {l : List Nat} (h : ∀ i, i < 9 → ¬ l = wd i) : vi l = none := by
  unfold vi
  rw [List.find?_eq_none]
  intro i hi
  simp only [decide_eq_true_eq]
  exact h i (List.mem_range.mp hi)
theorem vi_of {l : List Nat} {i : Nat} (h : vi l = some i) : i < 9 ∧ l = wd i := by
  unfold vi at h
  have h1 := List.find?_some h
  exact ⟨List.mem_range.mp (List.mem_of_find?_eq_some h), of_decide_eq_true h1⟩
/-- a number of one or two digits -/
def dn (T : Nat → Int32) (s : Nat) : Nat → Nat
  | 0 => 0
  | k + 1 => 10 * dn T s k + ((T (s + k)).toNatClampNeg - 48)
def nv (T : Nat → Int32) (L p : Nat) : Option Nat := if (ts T L p < L ∧ isD (T (ts T L p)) = true) ∧ te T L p - ts T L p ≤ 2 then some (dn T (ts T L p) (te T L p - ts T L p)) else none
theorem dn_le {s : Nat} : ∀ k, k ≤ 2 → (∀ i, i < k → isD (T (s + i)) = true) → dn T s k ≤ 99 ∧ (k ≤ 1 → dn T s k ≤ 9)
  | 0, _, _ => by simp [dn]
  | 1, _, h => by
    obtain ⟨c, c1, c2, e⟩ := dig_n (h 0 (by omega))
    simp only [dn]
    rw [e, nI_clamp (by omega)]
    omega
  | 2, _, h => by
    obtain ⟨c, c1, c2, e⟩ := dig_n (h 0 (by omega))
    obtain ⟨c', c3, c4, e'⟩ := dig_n (h 1 (by omega))
    simp only [dn]
    rw [e, e', nI_clamp (by omega), nI_clamp (by omega)]
    omega
  | k + 3, h, _ => by omega
theorem dg_dig (hp : p ≤ L) (h : ts T L p < L ∧ isD (T (ts T L p)) = true) : (∀ i, i < te T L p - ts T L p → isD (T (ts T L p + i)) = true) ∧ te T L p = rn isD T L (ts T L p) ∧ isL (T (ts T L p)) = false := by
  have nL : isL (T (ts T L p)) = false := by
    obtain ⟨c, c1, c2, e⟩ := dig_n h.2
    rw [e]
    exact decide_eq_false (fun z => by have := (nI_leI (a := 97) (by omega) (by omega)).mp z.1; omega)
  have he : te T L p = rn isD T L (ts T L p) := by
    unfold te
    rw [if_pos h.1, nL, if_neg (by decide), if_pos h.2]
  refine ⟨fun i hi => ?_, he, nL⟩
  rw [he] at hi
  obtain ⟨x1, x2, x3, x4⟩ := rn_ok isD T L (L - ts T L p) (ts T L p) (by omega)
  exact x4 (ts T L p + i) (by omega) (by omega)
theorem nv_le (hp : p ≤ L) {x : Nat} (h : nv T L p = some x) : x ≤ 99 := by
  unfold nv at h
  split at h
  · rename_i q
    cases h
    exact (dn_le _ q.2 (dg_dig hp q.1).1).1
  · cases h
/-! the class -/
theorem bX6_nextToken_0 {E : Nat × (Nat → Int32)} {I : Nat → Nat → Int32} {J : Nat → Nat → Int64} {b : Bool}  {Q : Option Value → am_H → Prop}  (wp : am_R E mX6_nextToken 5 [some (.ref 1), some (.int (I 1 5))] [] (hp I J b) 64 64 Q) : am_R E mX6_nextToken 0 [some (.ref 1), none] [] (hp I J b) 64 64 Q := by
  refine am_aload_n rfl rfl dX6_nextToken_0 ?_
  refine am_getI dX6_nextToken_1 flX6_22 (Or.inl rfl) rfl (by decide) ?_
  refine am_istore_n (ls' := [some (.ref 1), some (.int (I 1 5))]) rfl (by decide) rfl rfl dX6_nextToken_4 ?_
  exact am_R.forget wp ⟨rfl, ⟨rfl, trivial⟩⟩
theorem bX6_nextToken_5 {E : Nat × (Nat → Int32)} {I : Nat → Nat → Int32} {J : Nat → Nat → Int64} {b : Bool} {a1 : Int32} {Q : Option Value → am_H → Prop}  (wp : (((I 1 1) ≤ a1 → Q none (hp (u2 (u2 I 1 4 a1) 1 5 a1) J b)) ∧ (¬ (I 1 1) ≤ a1 → ∃ j2, a1 = nI j2 ∧ j2 < 200 ∧ ((¬ (I 2 j2) = 32 → (((97 ≤ (I 2 j2) ∧ (I 2 j2) ≤ 122) → am_R E mX6_nextToken 55 [some (.ref 1), some (.int a1)] [] (hp (u2 I 1 4 a1) J b) 64 64 Q) ∧ (¬ (97 ≤ (I 2 j2) ∧ (I 2 j2) ≤ 122) → (((48 ≤ (I 2 j2) ∧ (I 2 j2) ≤ 57) → am_R E mX6_nextToken 101 [some (.ref 1), some (.int a1)] [] (hp (u2 I 1 4 a1) J b) 64 64 Q) ∧ (¬ (48 ≤ (I 2 j2) ∧ (I 2 j2) ≤ 57) → Q none (hp (u2 (u2 I 1 4 a1) 1 5 (a1 + 1)) J b)))))) ∧ ((I 2 j2) = 32 → am_R E mX6_nextToken 5 [some (.ref 1), some (.int (a1 + 1))] [] (hp I J b) 64 64 Q))))) : am_R E mX6_nextToken 5 [some (.ref 1), some (.int a1)] [] (hp I J b) 64 64 Q := by
  refine am_iload_n rfl rfl dX6_nextToken_5 ?_
  refine am_aload_n rfl rfl dX6_nextToken_6 ?_
  refine am_getI dX6_nextToken_7 flX6_18 (Or.inl rfl) rfl (by decide) ?_
  refine am_icmp_ge dX6_nextToken_10 (tgt := 30) rfl (fun hc1 => ?_) (fun hc1 => ?_)
  · have wp := wp.1 hc1
    refine am_aload_n rfl rfl dX6_nextToken_30 ?_
    refine am_iload_n rfl rfl dX6_nextToken_31 ?_
    refine am_putI dX6_nextToken_32 flX6_32 (Or.inl rfl) rfl rfl (by decide) ?_
    refine am_iload_n rfl rfl dX6_nextToken_35 ?_
    refine am_aload_n rfl rfl dX6_nextToken_36 ?_
    refine am_getI dX6_nextToken_37 flX6_18 (Or.inl rfl) rfl (by decide) ?_
    show am_R E mX6_nextToken 40 [some (.ref 1), some (.int a1)] [.int (I 1 1), .int a1] (hp (u2 I 1 4 a1) J b) 64 64 Q
    refine am_icmp_ge dX6_nextToken_40 (tgt := 81) rfl (fun _ => ?_) (fun hc => absurd hc1 hc)
    refine am_iload_n rfl rfl dX6_nextToken_81 ?_
    refine am_aload_n rfl rfl dX6_nextToken_82 ?_
    refine am_getI dX6_nextToken_83 flX6_18 (Or.inl rfl) rfl (by decide) ?_
    show am_R E mX6_nextToken 86 [some (.ref 1), some (.int a1)] [.int (I 1 1), .int a1] (hp (u2 I 1 4 a1) J b) 64 64 Q
    refine am_icmp_ge dX6_nextToken_86 (tgt := 127) rfl (fun _ => ?_) (fun hc => absurd hc1 hc)
    refine am_iload_n rfl rfl dX6_nextToken_127 ?_
    refine am_aload_n rfl rfl dX6_nextToken_128 ?_
    refine am_getI dX6_nextToken_129 flX6_18 (Or.inl rfl) rfl (by decide) ?_
    show am_R E mX6_nextToken 132 [some (.ref 1), some (.int a1)] [.int (I 1 1), .int a1] (hp (u2 I 1 4 a1) J b) 64 64 Q
    refine am_icmp_ge dX6_nextToken_132 (tgt := 138) rfl (fun _ => ?_) (fun hc => absurd hc1 hc)
    refine am_aload_n rfl rfl dX6_nextToken_138 ?_
    refine am_iload_n rfl rfl dX6_nextToken_139 ?_
    refine am_putI dX6_nextToken_140 flX6_22 (Or.inl rfl) rfl rfl (by decide) ?_
    exact am_vret dX6_nextToken_143 rfl wp
  · have wp := wp.2 hc1
    refine am_aload_n rfl rfl dX6_nextToken_13 ?_
    refine am_getA (r := 2) dX6_nextToken_14 flX6_9 (Or.inr ⟨_, rfl⟩) rfl (by decide) rfl ?_
    refine am_iload_n rfl rfl dX6_nextToken_17 ?_
    obtain ⟨j2, e2, w2, wp⟩ := wp
    refine am_ialdN (j := j2) dX6_nextToken_18 rfl (by decide) e2 w2 (by decide) ?_
    refine am_bipush 32 rfl dX6_nextToken_19 ?_
    refine am_icmp_ne dX6_nextToken_21 (tgt := 30) rfl (fun hc3 => ?_) (fun hc3 => ?_)
    · have wp := wp.1 hc3
      refine am_aload_n rfl rfl dX6_nextToken_30 ?_
      refine am_iload_n rfl rfl dX6_nextToken_31 ?_
      refine am_putI dX6_nextToken_32 flX6_32 (Or.inl rfl) rfl rfl (by decide) ?_
      refine am_iload_n rfl rfl dX6_nextToken_35 ?_
      refine am_aload_n rfl rfl dX6_nextToken_36 ?_
      refine am_getI dX6_nextToken_37 flX6_18 (Or.inl rfl) rfl (by decide) ?_
      show am_R E mX6_nextToken 40 [some (.ref 1), some (.int a1)] [.int (I 1 1), .int a1] (hp (u2 I 1 4 a1) J b) 64 64 Q
      refine am_icmp_ge dX6_nextToken_40 (tgt := 81) rfl (fun hc => absurd hc hc1) (fun _ => ?_)
      refine am_aload_n rfl rfl dX6_nextToken_43 ?_
      refine am_getA (r := 2) dX6_nextToken_44 flX6_9 (Or.inr ⟨_, rfl⟩) rfl (by decide) rfl ?_
      refine am_iload_n rfl rfl dX6_nextToken_47 ?_
      refine am_ialdN (j := j2) dX6_nextToken_48 rfl (by decide) e2 w2 (by decide) ?_
      show am_R E mX6_nextToken 49 [some (.ref 1), some (.int a1)] [.int (I 2 j2)] (hp (u2 I 1 4 a1) J b) 64 64 Q
      refine am_invS (As := [.int (I 2 j2)]) (lsZ := [some (.int (I 2 j2))]) (st := []) dX6_nextToken_49 hX6_isLetter lkX6_53 ⟨by decide, by decide⟩ rfl rfl (Nat.le_of_ble_eq_true rfl) rfl (Nat.le_of_ble_eq_true rfl) ⟨Nat.le_refl _, Nat.le_refl _⟩ (tX6_isLetter  (fun hc4 => ?_) (fun hc4 => ?_))
      · have wp := wp.1 hc4
        show am_R E mX6_nextToken 52 [some (.ref 1), some (.int a1)] [.int 1] (hp (u2 I 1 4 a1) J b) 64 64 Q
        refine am_if_eq dX6_nextToken_52 (tgt := 81) rfl (fun hc => absurd hc (by decide)) (fun _ => ?_)
        exact am_R.forget wp ⟨rfl, ⟨rfl, trivial⟩⟩
      · have wp := wp.2 hc4
        show am_R E mX6_nextToken 52 [some (.ref 1), some (.int a1)] [.int 0] (hp (u2 I 1 4 a1) J b) 64 64 Q
        refine am_if_eq dX6_nextToken_52 (tgt := 81) rfl (fun _ => ?_) (fun hc => absurd hc (by decide))
        refine am_iload_n rfl rfl dX6_nextToken_81 ?_
        refine am_aload_n rfl rfl dX6_nextToken_82 ?_
        refine am_getI dX6_nextToken_83 flX6_18 (Or.inl rfl) rfl (by decide) ?_
        show am_R E mX6_nextToken 86 [some (.ref 1), some (.int a1)] [.int (I 1 1), .int a1] (hp (u2 I 1 4 a1) J b) 64 64 Q
        refine am_icmp_ge dX6_nextToken_86 (tgt := 127) rfl (fun hc => absurd hc hc1) (fun _ => ?_)
        refine am_aload_n rfl rfl dX6_nextToken_89 ?_
        refine am_getA (r := 2) dX6_nextToken_90 flX6_9 (Or.inr ⟨_, rfl⟩) rfl (by decide) rfl ?_
        refine am_iload_n rfl rfl dX6_nextToken_93 ?_
        refine am_ialdN (j := j2) dX6_nextToken_94 rfl (by decide) e2 w2 (by decide) ?_
        show am_R E mX6_nextToken 95 [some (.ref 1), some (.int a1)] [.int (I 2 j2)] (hp (u2 I 1 4 a1) J b) 64 64 Q
        refine am_invS (As := [.int (I 2 j2)]) (lsZ := [some (.int (I 2 j2))]) (st := []) dX6_nextToken_95 hX6_isDigit lkX6_57 ⟨by decide, by decide⟩ rfl rfl (Nat.le_of_ble_eq_true rfl) rfl (Nat.le_of_ble_eq_true rfl) ⟨Nat.le_refl _, Nat.le_refl _⟩ (tX6_isDigit  (fun hc5 => ?_) (fun hc5 => ?_))
        · have wp := wp.1 hc5
          show am_R E mX6_nextToken 98 [some (.ref 1), some (.int a1)] [.int 1] (hp (u2 I 1 4 a1) J b) 64 64 Q
          refine am_if_eq dX6_nextToken_98 (tgt := 127) rfl (fun hc => absurd hc (by decide)) (fun _ => ?_)
          exact am_R.forget wp ⟨rfl, ⟨rfl, trivial⟩⟩
        · have wp := wp.2 hc5
          show am_R E mX6_nextToken 98 [some (.ref 1), some (.int a1)] [.int 0] (hp (u2 I 1 4 a1) J b) 64 64 Q
          refine am_if_eq dX6_nextToken_98 (tgt := 127) rfl (fun _ => ?_) (fun hc => absurd hc (by decide))
          refine am_iload_n rfl rfl dX6_nextToken_127 ?_
          refine am_aload_n rfl rfl dX6_nextToken_128 ?_
          refine am_getI dX6_nextToken_129 flX6_18 (Or.inl rfl) rfl (by decide) ?_
          show am_R E mX6_nextToken 132 [some (.ref 1), some (.int a1)] [.int (I 1 1), .int a1] (hp (u2 I 1 4 a1) J b) 64 64 Q
          refine am_icmp_ge dX6_nextToken_132 (tgt := 138) rfl (fun hc => absurd hc hc1) (fun _ => ?_)
          refine am_iinc (ls' := [some (.ref 1), some (.int (a1 + 1))]) (by decide) rfl rfl rfl dX6_nextToken_135 ?_
          refine am_aload_n rfl rfl dX6_nextToken_138 ?_
          refine am_iload_n rfl rfl dX6_nextToken_139 ?_
          refine am_putI dX6_nextToken_140 flX6_22 (Or.inl rfl) rfl rfl (by decide) ?_
          exact am_vret dX6_nextToken_143 rfl wp
    · have wp := wp.2 hc3
      refine am_iinc (ls' := [some (.ref 1), some (.int (a1 + 1))]) (by decide) rfl rfl rfl dX6_nextToken_24 ?_
      refine am_goto dX6_nextToken_27 (tgt := 5) rfl ?_
      exact am_R.forget wp ⟨rfl, ⟨rfl, trivial⟩⟩
theorem bX6_nextToken_55 {E : Nat × (Nat → Int32)} {I : Nat → Nat → Int32} {J : Nat → Nat → Int64} {b : Bool} {a1 : Int32} {Q : Option Value → am_H → Prop}  (wp : (((I 1 1) ≤ a1 → Q none (hp (u2 I 1 5 a1) J b)) ∧ (¬ (I 1 1) ≤ a1 → ∃ j2, a1 = nI j2 ∧ j2 < 200 ∧ (((97 ≤ (I 2 j2) ∧ (I 2 j2) ≤ 122) → am_R E mX6_nextToken 55 [some (.ref 1), some (.int (a1 + 1))] [] (hp I J b) 64 64 Q) ∧ (¬ (97 ≤ (I 2 j2) ∧ (I 2 j2) ≤ 122) → Q none (hp (u2 I 1 5 a1) J b)))))) : am_R E mX6_nextToken 55 [some (.ref 1), some (.int a1)] [] (hp I J b) 64 64 Q := by
  refine am_iload_n rfl rfl dX6_nextToken_55 ?_
  refine am_aload_n rfl rfl dX6_nextToken_56 ?_
  refine am_getI dX6_nextToken_57 flX6_18 (Or.inl rfl) rfl (by decide) ?_
  refine am_icmp_ge dX6_nextToken_60 (tgt := 138) rfl (fun hc1 => ?_) (fun hc1 => ?_)
  · have wp := wp.1 hc1
    refine am_aload_n rfl rfl dX6_nextToken_138 ?_
    refine am_iload_n rfl rfl dX6_nextToken_139 ?_
    refine am_putI dX6_nextToken_140 flX6_22 (Or.inl rfl) rfl rfl (by decide) ?_
    exact am_vret dX6_nextToken_143 rfl wp
  · have wp := wp.2 hc1
    refine am_aload_n rfl rfl dX6_nextToken_63 ?_
    refine am_getA (r := 2) dX6_nextToken_64 flX6_9 (Or.inr ⟨_, rfl⟩) rfl (by decide) rfl ?_
    refine am_iload_n rfl rfl dX6_nextToken_67 ?_
    obtain ⟨j2, e2, w2, wp⟩ := wp
    refine am_ialdN (j := j2) dX6_nextToken_68 rfl (by decide) e2 w2 (by decide) ?_
    refine am_invS (As := [.int (I 2 j2)]) (lsZ := [some (.int (I 2 j2))]) (st := []) dX6_nextToken_69 hX6_isLetter lkX6_53 ⟨by decide, by decide⟩ rfl rfl (Nat.le_of_ble_eq_true rfl) rfl (Nat.le_of_ble_eq_true rfl) ⟨Nat.le_refl _, Nat.le_refl _⟩ (tX6_isLetter  (fun hc3 => ?_) (fun hc3 => ?_))
    · have wp := wp.1 hc3
      show am_R E mX6_nextToken 72 [some (.ref 1), some (.int a1)] [.int 1] (hp I J b) 64 64 Q
      refine am_if_eq dX6_nextToken_72 (tgt := 138) rfl (fun hc => absurd hc (by decide)) (fun _ => ?_)
      refine am_iinc (ls' := [some (.ref 1), some (.int (a1 + 1))]) (by decide) rfl rfl rfl dX6_nextToken_75 ?_
      refine am_goto dX6_nextToken_78 (tgt := 55) rfl ?_
      exact am_R.forget wp ⟨rfl, ⟨rfl, trivial⟩⟩
    · have wp := wp.2 hc3
      show am_R E mX6_nextToken 72 [some (.ref 1), some (.int a1)] [.int 0] (hp I J b) 64 64 Q
      refine am_if_eq dX6_nextToken_72 (tgt := 138) rfl (fun _ => ?_) (fun hc => absurd hc (by decide))
      refine am_aload_n rfl rfl dX6_nextToken_138 ?_
      refine am_iload_n rfl rfl dX6_nextToken_139 ?_
      refine am_putI dX6_nextToken_140 flX6_22 (Or.inl rfl) rfl rfl (by decide) ?_
      exact am_vret dX6_nextToken_143 rfl wp
theorem bX6_nextToken_101 {E : Nat × (Nat → Int32)} {I : Nat → Nat → Int32} {J : Nat → Nat → Int64} {b : Bool} {a1 : Int32} {Q : Option Value → am_H → Prop}  (wp : (((I 1 1) ≤ a1 → Q none (hp (u2 I 1 5 a1) J b)) ∧ (¬ (I 1 1) ≤ a1 → ∃ j2, a1 = nI j2 ∧ j2 < 200 ∧ (((48 ≤ (I 2 j2) ∧ (I 2 j2) ≤ 57) → am_R E mX6_nextToken 101 [some (.ref 1), some (.int (a1 + 1))] [] (hp I J b) 64 64 Q) ∧ (¬ (48 ≤ (I 2 j2) ∧ (I 2 j2) ≤ 57) → Q none (hp (u2 I 1 5 a1) J b)))))) : am_R E mX6_nextToken 101 [some (.ref 1), some (.int a1)] [] (hp I J b) 64 64 Q := by
  refine am_iload_n rfl rfl dX6_nextToken_101 ?_
  refine am_aload_n rfl rfl dX6_nextToken_102 ?_
  refine am_getI dX6_nextToken_103 flX6_18 (Or.inl rfl) rfl (by decide) ?_
  refine am_icmp_ge dX6_nextToken_106 (tgt := 138) rfl (fun hc1 => ?_) (fun hc1 => ?_)
  · have wp := wp.1 hc1
    refine am_aload_n rfl rfl dX6_nextToken_138 ?_
    refine am_iload_n rfl rfl dX6_nextToken_139 ?_
    refine am_putI dX6_nextToken_140 flX6_22 (Or.inl rfl) rfl rfl (by decide) ?_
    exact am_vret dX6_nextToken_143 rfl wp
  · have wp := wp.2 hc1
    refine am_aload_n rfl rfl dX6_nextToken_109 ?_
    refine am_getA (r := 2) dX6_nextToken_110 flX6_9 (Or.inr ⟨_, rfl⟩) rfl (by decide) rfl ?_
    refine am_iload_n rfl rfl dX6_nextToken_113 ?_
    obtain ⟨j2, e2, w2, wp⟩ := wp
    refine am_ialdN (j := j2) dX6_nextToken_114 rfl (by decide) e2 w2 (by decide) ?_
    refine am_invS (As := [.int (I 2 j2)]) (lsZ := [some (.int (I 2 j2))]) (st := []) dX6_nextToken_115 hX6_isDigit lkX6_57 ⟨by decide, by decide⟩ rfl rfl (Nat.le_of_ble_eq_true rfl) rfl (Nat.le_of_ble_eq_true rfl) ⟨Nat.le_refl _, Nat.le_refl _⟩ (tX6_isDigit  (fun hc3 => ?_) (fun hc3 => ?_))
    · have wp := wp.1 hc3
      show am_R E mX6_nextToken 118 [some (.ref 1), some (.int a1)] [.int 1] (hp I J b) 64 64 Q
      refine am_if_eq dX6_nextToken_118 (tgt := 138) rfl (fun hc => absurd hc (by decide)) (fun _ => ?_)
      refine am_iinc (ls' := [some (.ref 1), some (.int (a1 + 1))]) (by decide) rfl rfl rfl dX6_nextToken_121 ?_
      refine am_goto dX6_nextToken_124 (tgt := 101) rfl ?_
      exact am_R.forget wp ⟨rfl, ⟨rfl, trivial⟩⟩
    · have wp := wp.2 hc3
      show am_R E mX6_nextToken 118 [some (.ref 1), some (.int a1)] [.int 0] (hp I J b) 64 64 Q
      refine am_if_eq dX6_nextToken_118 (tgt := 138) rfl (fun _ => ?_) (fun hc => absurd hc (by decide))
      refine am_aload_n rfl rfl dX6_nextToken_138 ?_
      refine am_iload_n rfl rfl dX6_nextToken_139 ?_
      refine am_putI dX6_nextToken_140 flX6_22 (Or.inl rfl) rfl rfl (by decide) ?_
      exact am_vret dX6_nextToken_143 rfl wp
theorem tX6_nextToken (e1 : I 1 1 = nI L) (hL : L ≤ 200) (e5 : I 1 5 = nI p) (hp' : p ≤ L) (hT : ∀ j, j < L → I 2 j = T j) (k : Q none (hp (u2 (u2 I 1 4 (nI (ts T L p))) 1 5 (nI (te T L p))) J b)) : am_R E mX6_nextToken 0 [some (.ref 1), none] [] (hp I J b) 64 64 Q := by
  refine bX6_nextToken_0 ?_
  rw [e5]
  have lpL : ∀ (s r q : Nat), q + r = L → Q none (hp (u2 (u2 I 1 4 (nI s)) 1 5 (nI (rn isL T L q))) J b) → am_R E mX6_nextToken 55 [some (.ref 1), some (.int (nI q))] [] (hp (u2 I 1 4 (nI s)) J b) 64 64 Q := by
    intro s r
    induction r with
    | zero =>
      intro q hq kk
      rw [rn_eq, if_neg (fun z => by omega)] at kk
      exact bX6_nextToken_55 (le_br (n := L) e1 rfl (by omega) (by omega) (fun _ => kk) (fun z => by omega))
    | succ r ih =>
      intro q hq kk
      rw [rn_eq] at kk
      refine bX6_nextToken_55 (le_br (n := L) e1 rfl (by omega) (by omega) (fun z => by omega) (fun _ => ⟨q, rfl, by omega, ?_⟩))
      rw [show u2 I 1 4 (nI s) 2 q = T q from hT q (by omega)]
      refine ⟨fun z => ?_, fun z => ?_⟩
      · rw [if_pos ⟨by omega, decide_eq_true z⟩] at kk
        rw [n1]; exact ih (q + 1) (by omega) kk
      · rw [if_neg (fun w => z (of_decide_eq_true w.2))] at kk
        exact kk
  have lpD : ∀ (s r q : Nat), q + r = L → Q none (hp (u2 (u2 I 1 4 (nI s)) 1 5 (nI (rn isD T L q))) J b) → am_R E mX6_nextToken 101 [some (.ref 1), some (.int (nI q))] [] (hp (u2 I 1 4 (nI s)) J b) 64 64 Q := by
    intro s r
    induction r with
    | zero =>
      intro q hq kk
      rw [rn_eq, if_neg (fun z => by omega)] at kk
      exact bX6_nextToken_101 (le_br (n := L) e1 rfl (by omega) (by omega) (fun _ => kk) (fun z => by omega))
    | succ r ih =>
      intro q hq kk
      rw [rn_eq] at kk
      refine bX6_nextToken_101 (le_br (n := L) e1 rfl (by omega) (by omega) (fun z => by omega) (fun _ => ⟨q, rfl, by omega, ?_⟩))
      rw [show u2 I 1 4 (nI s) 2 q = T q from hT q (by omega)]
      refine ⟨fun z => ?_, fun z => ?_⟩
      · rw [if_pos ⟨by omega, decide_eq_true z⟩] at kk
        rw [n1]; exact ih (q + 1) (by omega) kk
      · rw [if_neg (fun w => z (of_decide_eq_true w.2))] at kk
        exact kk
  have key : ∀ r q, q + r = L → rn isB T L q = ts T L p → am_R E mX6_nextToken 5 [some (.ref 1), some (.int (nI q))] [] (hp I J b) 64 64 Q := by
    intro r
    induction r with
    | zero =>
      intro q hq he
      rw [rn_eq, if_neg (fun z => by omega)] at he
      have et : te T L p = q := by unfold te; rw [← he, if_neg (by omega)]
      rw [et, ← he] at k
      exact bX6_nextToken_5 (le_br (n := L) e1 rfl (by omega) (by omega) (fun _ => k) (fun z => by omega))
    | succ r ih =>
      intro q hq he
      rw [rn_eq] at he
      refine bX6_nextToken_5 (le_br (n := L) e1 rfl (by omega) (by omega) (fun z => by omega) (fun _ => ⟨q, rfl, by omega, ?_⟩))
      rw [hT q (by omega)]
      refine ⟨fun z => ?_, fun z => ?_⟩
      · rw [if_neg (fun w => z (of_decide_eq_true w.2))] at he
        have et : te T L p = if isL (T q) = true then rn isL T L q else if isD (T q) = true then rn isD T L q else q + 1 := by unfold te; rw [← he, if_pos (by omega)]
        rw [et, ← he] at k
        refine ⟨fun y => ?_, fun y => ⟨fun y2 => ?_, fun y2 => ?_⟩⟩
        · have yL : isL (T q) = true := decide_eq_true y
          rw [if_pos yL] at k
          exact lpL q (r + 1) q hq k
        · have yL : ¬ isL (T q) = true := fun w => y (of_decide_eq_true w)
          have yD : isD (T q) = true := decide_eq_true y2
          rw [if_neg yL, if_pos yD] at k
          exact lpD q (r + 1) q hq k
        · have yL : ¬ isL (T q) = true := fun w => y (of_decide_eq_true w)
          have yD : ¬ isD (T q) = true := fun w => y2 (of_decide_eq_true w)
          rw [if_neg yL, if_neg yD] at k
          rw [n1]; exact k
      · rw [if_pos ⟨by omega, decide_eq_true z⟩] at he
        rw [n1]; exact ih (q + 1) (by omega) he
  exact key (L - p) p (by omega) rfl
/-- the class stands at a token -/
def At (I : Nat → Nat → Int32) (T : Nat → Int32) (L p : Nat) : Prop := I 1 1 = nI L ∧ L ≤ 200 ∧ p ≤ L ∧ (∀ j, j < L → I 2 j = T j) ∧ I 1 4 = nI (ts T L p) ∧ I 1 5 = nI (te T L p)
theorem tX6_spells_0 (h : At I T L p) (k1 : lsT T L p = wd 0 → Q (some (.int 1)) (hp I J b)) (k0 : ¬ lsT T L p = wd 0 → Q (some (.int 0)) (hp I J b)) : am_R E mX6_spells 0 [some (.ref 1), some (.ref 1010), none] [] (hp I J b) 64 64 Q := by
  obtain ⟨h1, h2, h3, h4, h5, h6⟩ := h
  obtain ⟨t1, t2, t3⟩ := te_ok (T := T) h3
  have hs := spl (T := T) (p := p) (w := 0) h3 (by decide)
  have ed : I 1 5 - I 1 4 = nI (te T L p - ts T L p) := by rw [h5, h6, pk_sub t1]
  refine bX6_spells_w0_0 (eq_br (n := te T L p - ts T L p) (m := 4) ed rfl (by omega) (by omega) (fun q => ?_) (fun q => k0 (fun z => q (hs.mpr z).1)))
  have key : ∀ j i, i + j = 4 → (∀ x, x < i → T (ts T L p + x) = (am_sb.getD 0 []).getD x 0) → am_R E mX6_spells 20 [some (.ref 1), some (.ref 1010), some (.int (nI i))] [] (hp I J b) 64 64 Q := by
    intro j
    induction j with
    | zero =>
      intro i hi hx
      have e : i = 4 := by omega
      subst e
      exact bX6_spells_w0_20 (le_br (n := 4) rfl rfl (by omega) (by omega) (fun _ => k1 (hs.mp ⟨q, hx⟩)) (fun z => by omega))
    | succ j ih =>
      intro i hi hx
      refine bX6_spells_w0_20 (le_br (n := 4) rfl rfl (by omega) (by omega) (fun z => by omega) (fun _ => ⟨ts T L p + i, by rw [h5, nI_add], by omega, i, rfl, by omega, ?_⟩))
      rw [h4 _ (by omega)]
      refine ⟨fun z => ?_, fun z => k0 (fun y => z ((hs.mpr y).2 i (show i < 4 by omega)))⟩
      rw [n1]
      refine ih (i + 1) (by omega) (fun x hx2 => ?_)
      by_cases e : x = i
      · rw [e]; exact z
      · exact hx x (by omega)
  exact key 4 0 (by omega) (fun x hx => by omega)
theorem tX6_spells_1 (h : At I T L p) (k1 : lsT T L p = wd 1 → Q (some (.int 1)) (hp I J b)) (k0 : ¬ lsT T L p = wd 1 → Q (some (.int 0)) (hp I J b)) : am_R E mX6_spells 0 [some (.ref 1), some (.ref 1011), none] [] (hp I J b) 64 64 Q := by
  obtain ⟨h1, h2, h3, h4, h5, h6⟩ := h
  obtain ⟨t1, t2, t3⟩ := te_ok (T := T) h3
  have hs := spl (T := T) (p := p) (w := 1) h3 (by decide)
  have ed : I 1 5 - I 1 4 = nI (te T L p - ts T L p) := by rw [h5, h6, pk_sub t1]
  refine bX6_spells_w1_0 (eq_br (n := te T L p - ts T L p) (m := 5) ed rfl (by omega) (by omega) (fun q => ?_) (fun q => k0 (fun z => q (hs.mpr z).1)))
  have key : ∀ j i, i + j = 5 → (∀ x, x < i → T (ts T L p + x) = (am_sb.getD 1 []).getD x 0) → am_R E mX6_spells 20 [some (.ref 1), some (.ref 1011), some (.int (nI i))] [] (hp I J b) 64 64 Q := by
    intro j
    induction j with
    | zero =>
      intro i hi hx
      have e : i = 5 := by omega
      subst e
      exact bX6_spells_w1_20 (le_br (n := 5) rfl rfl (by omega) (by omega) (fun _ => k1 (hs.mp ⟨q, hx⟩)) (fun z => by omega))
    | succ j ih =>
      intro i hi hx
      refine bX6_spells_w1_20 (le_br (n := 5) rfl rfl (by omega) (by omega) (fun z => by omega) (fun _ => ⟨ts T L p + i, by rw [h5, nI_add], by omega, i, rfl, by omega, ?_⟩))
      rw [h4 _ (by omega)]
      refine ⟨fun z => ?_, fun z => k0 (fun y => z ((hs.mpr y).2 i (show i < 5 by omega)))⟩
      rw [n1]
      refine ih (i + 1) (by omega) (fun x hx2 => ?_)
      by_cases e : x = i
      · rw [e]; exact z
      · exact hx x (by omega)
  exact key 5 0 (by omega) (fun x hx => by omega)
theorem tX6_spells_2 (h : At I T L p) (k1 : lsT T L p = wd 2 → Q (some (.int 1)) (hp I J b)) (k0 : ¬ lsT T L p = wd 2 → Q (some (.int 0)) (hp I J b)) : am_R E mX6_spells 0 [some (.ref 1), some (.ref 1012), none] [] (hp I J b) 64 64 Q := by
  obtain ⟨h1, h2, h3, h4, h5, h6⟩ := h
  obtain ⟨t1, t2, t3⟩ := te_ok (T := T) h3
  have hs := spl (T := T) (p := p) (w := 2) h3 (by decide)
  have ed : I 1 5 - I 1 4 = nI (te T L p - ts T L p) := by rw [h5, h6, pk_sub t1]
  refine bX6_spells_w2_0 (eq_br (n := te T L p - ts T L p) (m := 4) ed rfl (by omega) (by omega) (fun q => ?_) (fun q => k0 (fun z => q (hs.mpr z).1)))
  have key : ∀ j i, i + j = 4 → (∀ x, x < i → T (ts T L p + x) = (am_sb.getD 2 []).getD x 0) → am_R E mX6_spells 20 [some (.ref 1), some (.ref 1012), some (.int (nI i))] [] (hp I J b) 64 64 Q := by
    intro j
    induction j with
    | zero =>
      intro i hi hx
      have e : i = 4 := by omega
      subst e
      exact bX6_spells_w2_20 (le_br (n := 4) rfl rfl (by omega) (by omega) (fun _ => k1 (hs.mp ⟨q, hx⟩)) (fun z => by omega))
    | succ j ih =>
      intro i hi hx
      refine bX6_spells_w2_20 (le_br (n := 4) rfl rfl (by omega) (by omega) (fun z => by omega) (fun _ => ⟨ts T L p + i, by rw [h5, nI_add], by omega, i, rfl, by omega, ?_⟩))
      rw [h4 _ (by omega)]
      refine ⟨fun z => ?_, fun z => k0 (fun y => z ((hs.mpr y).2 i (show i < 4 by omega)))⟩
      rw [n1]
      refine ih (i + 1) (by omega) (fun x hx2 => ?_)
      by_cases e : x = i
      · rw [e]; exact z
      · exact hx x (by omega)
  exact key 4 0 (by omega) (fun x hx => by omega)
theorem tX6_spells_3 (h : At I T L p) (k1 : lsT T L p = wd 3 → Q (some (.int 1)) (hp I J b)) (k0 : ¬ lsT T L p = wd 3 → Q (some (.int 0)) (hp I J b)) : am_R E mX6_spells 0 [some (.ref 1), some (.ref 1013), none] [] (hp I J b) 64 64 Q := by
  obtain ⟨h1, h2, h3, h4, h5, h6⟩ := h
  obtain ⟨t1, t2, t3⟩ := te_ok (T := T) h3
  have hs := spl (T := T) (p := p) (w := 3) h3 (by decide)
  have ed : I 1 5 - I 1 4 = nI (te T L p - ts T L p) := by rw [h5, h6, pk_sub t1]
  refine bX6_spells_w3_0 (eq_br (n := te T L p - ts T L p) (m := 5) ed rfl (by omega) (by omega) (fun q => ?_) (fun q => k0 (fun z => q (hs.mpr z).1)))
  have key : ∀ j i, i + j = 5 → (∀ x, x < i → T (ts T L p + x) = (am_sb.getD 3 []).getD x 0) → am_R E mX6_spells 20 [some (.ref 1), some (.ref 1013), some (.int (nI i))] [] (hp I J b) 64 64 Q := by
    intro j
    induction j with
    | zero =>
      intro i hi hx
      have e : i = 5 := by omega
      subst e
      exact bX6_spells_w3_20 (le_br (n := 5) rfl rfl (by omega) (by omega) (fun _ => k1 (hs.mp ⟨q, hx⟩)) (fun z => by omega))
    | succ j ih =>
      intro i hi hx
      refine bX6_spells_w3_20 (le_br (n := 5) rfl rfl (by omega) (by omega) (fun z => by omega) (fun _ => ⟨ts T L p + i, by rw [h5, nI_add], by omega, i, rfl, by omega, ?_⟩))
      rw [h4 _ (by omega)]
      refine ⟨fun z => ?_, fun z => k0 (fun y => z ((hs.mpr y).2 i (show i < 5 by omega)))⟩
      rw [n1]
      refine ih (i + 1) (by omega) (fun x hx2 => ?_)
      by_cases e : x = i
      · rw [e]; exact z
      · exact hx x (by omega)
  exact key 5 0 (by omega) (fun x hx => by omega)
theorem tX6_spells_4 (h : At I T L p) (k1 : lsT T L p = wd 4 → Q (some (.int 1)) (hp I J b)) (k0 : ¬ lsT T L p = wd 4 → Q (some (.int 0)) (hp I J b)) : am_R E mX6_spells 0 [some (.ref 1), some (.ref 1014), none] [] (hp I J b) 64 64 Q := by
  obtain ⟨h1, h2, h3, h4, h5, h6⟩ := h
  obtain ⟨t1, t2, t3⟩ := te_ok (T := T) h3
  have hs := spl (T := T) (p := p) (w := 4) h3 (by decide)
  have ed : I 1 5 - I 1 4 = nI (te T L p - ts T L p) := by rw [h5, h6, pk_sub t1]
  refine bX6_spells_w4_0 (eq_br (n := te T L p - ts T L p) (m := 6) ed rfl (by omega) (by omega) (fun q => ?_) (fun q => k0 (fun z => q (hs.mpr z).1)))
  have key : ∀ j i, i + j = 6 → (∀ x, x < i → T (ts T L p + x) = (am_sb.getD 4 []).getD x 0) → am_R E mX6_spells 20 [some (.ref 1), some (.ref 1014), some (.int (nI i))] [] (hp I J b) 64 64 Q := by
    intro j
    induction j with
    | zero =>
      intro i hi hx
      have e : i = 6 := by omega
      subst e
      exact bX6_spells_w4_20 (le_br (n := 6) rfl rfl (by omega) (by omega) (fun _ => k1 (hs.mp ⟨q, hx⟩)) (fun z => by omega))
    | succ j ih =>
      intro i hi hx
      refine bX6_spells_w4_20 (le_br (n := 6) rfl rfl (by omega) (by omega) (fun z => by omega) (fun _ => ⟨ts T L p + i, by rw [h5, nI_add], by omega, i, rfl, by omega, ?_⟩))
      rw [h4 _ (by omega)]
      refine ⟨fun z => ?_, fun z => k0 (fun y => z ((hs.mpr y).2 i (show i < 6 by omega)))⟩
      rw [n1]
      refine ih (i + 1) (by omega) (fun x hx2 => ?_)
      by_cases e : x = i
      · rw [e]; exact z
      · exact hx x (by omega)
  exact key 6 0 (by omega) (fun x hx => by omega)
theorem tX6_spells_5 (h : At I T L p) (k1 : lsT T L p = wd 5 → Q (some (.int 1)) (hp I J b)) (k0 : ¬ lsT T L p = wd 5 → Q (some (.int 0)) (hp I J b)) : am_R E mX6_spells 0 [some (.ref 1), some (.ref 1015), none] [] (hp I J b) 64 64 Q := by
  obtain ⟨h1, h2, h3, h4, h5, h6⟩ := h
  obtain ⟨t1, t2, t3⟩ := te_ok (T := T) h3
  have hs := spl (T := T) (p := p) (w := 5) h3 (by decide)
  have ed : I 1 5 - I 1 4 = nI (te T L p - ts T L p) := by rw [h5, h6, pk_sub t1]
  refine bX6_spells_w5_0 (eq_br (n := te T L p - ts T L p) (m := 4) ed rfl (by omega) (by omega) (fun q => ?_) (fun q => k0 (fun z => q (hs.mpr z).1)))
  have key : ∀ j i, i + j = 4 → (∀ x, x < i → T (ts T L p + x) = (am_sb.getD 5 []).getD x 0) → am_R E mX6_spells 20 [some (.ref 1), some (.ref 1015), some (.int (nI i))] [] (hp I J b) 64 64 Q := by
    intro j
    induction j with
    | zero =>
      intro i hi hx
      have e : i = 4 := by omega
      subst e
      exact bX6_spells_w5_20 (le_br (n := 4) rfl rfl (by omega) (by omega) (fun _ => k1 (hs.mp ⟨q, hx⟩)) (fun z => by omega))
    | succ j ih =>
      intro i hi hx
      refine bX6_spells_w5_20 (le_br (n := 4) rfl rfl (by omega) (by omega) (fun z => by omega) (fun _ => ⟨ts T L p + i, by rw [h5, nI_add], by omega, i, rfl, by omega, ?_⟩))
      rw [h4 _ (by omega)]
      refine ⟨fun z => ?_, fun z => k0 (fun y => z ((hs.mpr y).2 i (show i < 4 by omega)))⟩
      rw [n1]
      refine ih (i + 1) (by omega) (fun x hx2 => ?_)
      by_cases e : x = i
      · rw [e]; exact z
      · exact hx x (by omega)
  exact key 4 0 (by omega) (fun x hx => by omega)
theorem tX6_spells_6 (h : At I T L p) (k1 : lsT T L p = wd 6 → Q (some (.int 1)) (hp I J b)) (k0 : ¬ lsT T L p = wd 6 → Q (some (.int 0)) (hp I J b)) : am_R E mX6_spells 0 [some (.ref 1), some (.ref 1016), none] [] (hp I J b) 64 64 Q := by
  obtain ⟨h1, h2, h3, h4, h5, h6⟩ := h
  obtain ⟨t1, t2, t3⟩ := te_ok (T := T) h3
  have hs := spl (T := T) (p := p) (w := 6) h3 (by decide)
  have ed : I 1 5 - I 1 4 = nI (te T L p - ts T L p) := by rw [h5, h6, pk_sub t1]
  refine bX6_spells_w6_0 (eq_br (n := te T L p - ts T L p) (m := 5) ed rfl (by omega) (by omega) (fun q => ?_) (fun q => k0 (fun z => q (hs.mpr z).1)))
  have key : ∀ j i, i + j = 5 → (∀ x, x < i → T (ts T L p + x) = (am_sb.getD 6 []).getD x 0) → am_R E mX6_spells 20 [some (.ref 1), some (.ref 1016), some (.int (nI i))] [] (hp I J b) 64 64 Q := by
    intro j
    induction j with
    | zero =>
      intro i hi hx
      have e : i = 5 := by omega
      subst e
      exact bX6_spells_w6_20 (le_br (n := 5) rfl rfl (by omega) (by omega) (fun _ => k1 (hs.mp ⟨q, hx⟩)) (fun z => by omega))
    | succ j ih =>
      intro i hi hx
      refine bX6_spells_w6_20 (le_br (n := 5) rfl rfl (by omega) (by omega) (fun z => by omega) (fun _ => ⟨ts T L p + i, by rw [h5, nI_add], by omega, i, rfl, by omega, ?_⟩))
      rw [h4 _ (by omega)]
      refine ⟨fun z => ?_, fun z => k0 (fun y => z ((hs.mpr y).2 i (show i < 5 by omega)))⟩
      rw [n1]
      refine ih (i + 1) (by omega) (fun x hx2 => ?_)
      by_cases e : x = i
      · rw [e]; exact z
      · exact hx x (by omega)
  exact key 5 0 (by omega) (fun x hx => by omega)
theorem tX6_spells_7 (h : At I T L p) (k1 : lsT T L p = wd 7 → Q (some (.int 1)) (hp I J b)) (k0 : ¬ lsT T L p = wd 7 → Q (some (.int 0)) (hp I J b)) : am_R E mX6_spells 0 [some (.ref 1), some (.ref 1017), none] [] (hp I J b) 64 64 Q := by
  obtain ⟨h1, h2, h3, h4, h5, h6⟩ := h
  obtain ⟨t1, t2, t3⟩ := te_ok (T := T) h3
  have hs := spl (T := T) (p := p) (w := 7) h3 (by decide)
  have ed : I 1 5 - I 1 4 = nI (te T L p - ts T L p) := by rw [h5, h6, pk_sub t1]
  refine bX6_spells_w7_0 (eq_br (n := te T L p - ts T L p) (m := 4) ed rfl (by omega) (by omega) (fun q => ?_) (fun q => k0 (fun z => q (hs.mpr z).1)))
  have key : ∀ j i, i + j = 4 → (∀ x, x < i → T (ts T L p + x) = (am_sb.getD 7 []).getD x 0) → am_R E mX6_spells 20 [some (.ref 1), some (.ref 1017), some (.int (nI i))] [] (hp I J b) 64 64 Q := by
    intro j
    induction j with
    | zero =>
      intro i hi hx
      have e : i = 4 := by omega
      subst e
      exact bX6_spells_w7_20 (le_br (n := 4) rfl rfl (by omega) (by omega) (fun _ => k1 (hs.mp ⟨q, hx⟩)) (fun z => by omega))
    | succ j ih =>
      intro i hi hx
      refine bX6_spells_w7_20 (le_br (n := 4) rfl rfl (by omega) (by omega) (fun z => by omega) (fun _ => ⟨ts T L p + i, by rw [h5, nI_add], by omega, i, rfl, by omega, ?_⟩))
      rw [h4 _ (by omega)]
      refine ⟨fun z => ?_, fun z => k0 (fun y => z ((hs.mpr y).2 i (show i < 4 by omega)))⟩
      rw [n1]
      refine ih (i + 1) (by omega) (fun x hx2 => ?_)
      by_cases e : x = i
      · rw [e]; exact z
      · exact hx x (by omega)
  exact key 4 0 (by omega) (fun x hx => by omega)
theorem tX6_spells_8 (h : At I T L p) (k1 : lsT T L p = wd 8 → Q (some (.int 1)) (hp I J b)) (k0 : ¬ lsT T L p = wd 8 → Q (some (.int 0)) (hp I J b)) : am_R E mX6_spells 0 [some (.ref 1), some (.ref 1018), none] [] (hp I J b) 64 64 Q := by
  obtain ⟨h1, h2, h3, h4, h5, h6⟩ := h
  obtain ⟨t1, t2, t3⟩ := te_ok (T := T) h3
  have hs := spl (T := T) (p := p) (w := 8) h3 (by decide)
  have ed : I 1 5 - I 1 4 = nI (te T L p - ts T L p) := by rw [h5, h6, pk_sub t1]
  refine bX6_spells_w8_0 (eq_br (n := te T L p - ts T L p) (m := 3) ed rfl (by omega) (by omega) (fun q => ?_) (fun q => k0 (fun z => q (hs.mpr z).1)))
  have key : ∀ j i, i + j = 3 → (∀ x, x < i → T (ts T L p + x) = (am_sb.getD 8 []).getD x 0) → am_R E mX6_spells 20 [some (.ref 1), some (.ref 1018), some (.int (nI i))] [] (hp I J b) 64 64 Q := by
    intro j
    induction j with
    | zero =>
      intro i hi hx
      have e : i = 3 := by omega
      subst e
      exact bX6_spells_w8_20 (le_br (n := 3) rfl rfl (by omega) (by omega) (fun _ => k1 (hs.mp ⟨q, hx⟩)) (fun z => by omega))
    | succ j ih =>
      intro i hi hx
      refine bX6_spells_w8_20 (le_br (n := 3) rfl rfl (by omega) (by omega) (fun z => by omega) (fun _ => ⟨ts T L p + i, by rw [h5, nI_add], by omega, i, rfl, by omega, ?_⟩))
      rw [h4 _ (by omega)]
      refine ⟨fun z => ?_, fun z => k0 (fun y => z ((hs.mpr y).2 i (show i < 3 by omega)))⟩
      rw [n1]
      refine ih (i + 1) (by omega) (fun x hx2 => ?_)
      by_cases e : x = i
      · rw [e]; exact z
      · exact hx x (by omega)
  exact key 3 0 (by omega) (fun x hx => by omega)
/-- the class's number of a verb -/
def cvc (i : Nat) : Int32 := ([0, 5, 6, 1, 2, 3, 4, 7, 8] : List Int32).getD i 0
def cvI : Option Nat → Int32
  | none => -1
  | some i => cvc i
theorem bX6_verbHere_0 {E : Nat × (Nat → Int32)} {I : Nat → Nat → Int32} {J : Nat → Nat → Int64} {b : Bool}  {Q : Option Value → am_H → Prop}  (wp : am_R E mX6_spells 0 [some (.ref 1), some (.ref 1010), none] [] (hp I J b) 64 64 (fun r h' => am_R E mX6_verbHere 6 [some (.ref 1)] (r.toList ++ []) h' 64 64 Q)) : am_R E mX6_verbHere 0 [some (.ref 1)] [] (hp I J b) 64 64 Q := by
  refine am_aload_n rfl rfl dX6_verbHere_0 ?_
  refine am_ldcS (i := 0) dX6_verbHere_1 rfl (by decide) rfl rfl ?_
  refine am_invV (ci := 4) (As := [.ref 1010]) (lsZ := [some (.ref 1), some (.ref 1010), none]) (st := []) dX6_verbHere_3 hX6_spells lkX6_62 ⟨by decide, by decide⟩ (by decide) rfl (by decide) rfl rfl rfl (Nat.le_of_ble_eq_true rfl) rfl (Nat.le_of_ble_eq_true rfl) ⟨Nat.le_refl _, Nat.le_refl _⟩ (am_R.mono wp (fun r h' q => am_R.forget q ⟨rfl, trivial⟩))
theorem bX6_verbHere_6 {E : Nat × (Nat → Int32)} {I : Nat → Nat → Int32} {J : Nat → Nat → Int64} {b : Bool} {x0 : Int32} {Q : Option Value → am_H → Prop}  (wp : ((x0 = 0 → am_R E mX6_spells 0 [some (.ref 1), some (.ref 1011), none] [] (hp I J b) 64 64 (fun r h' => am_R E mX6_verbHere 17 [some (.ref 1)] (r.toList ++ []) h' 64 64 Q)) ∧ (¬ x0 = 0 → Q (some (.int 0)) (hp I J b)))) : am_R E mX6_verbHere 6 [some (.ref 1)] [.int x0] (hp I J b) 64 64 Q := by
  refine am_if_eq dX6_verbHere_6 (tgt := 11) rfl (fun hc1 => ?_) (fun hc1 => ?_)
  · have wp := wp.1 hc1
    refine am_aload_n rfl rfl dX6_verbHere_11 ?_
    refine am_ldcS (i := 1) dX6_verbHere_12 rfl (by decide) rfl rfl ?_
    refine am_invV (ci := 4) (As := [.ref 1011]) (lsZ := [some (.ref 1), some (.ref 1011), none]) (st := []) dX6_verbHere_14 hX6_spells lkX6_62 ⟨by decide, by decide⟩ (by decide) rfl (by decide) rfl rfl rfl (Nat.le_of_ble_eq_true rfl) rfl (Nat.le_of_ble_eq_true rfl) ⟨Nat.le_refl _, Nat.le_refl _⟩ (am_R.mono wp (fun r h' q => am_R.forget q ⟨rfl, trivial⟩))
  · have wp := wp.2 hc1
    refine am_iconst 0 rfl dX6_verbHere_9 ?_
    exact am_iret dX6_verbHere_10 rfl rfl wp
theorem bX6_verbHere_17 {E : Nat × (Nat → Int32)} {I : Nat → Nat → Int32} {J : Nat → Nat → Int64} {b : Bool} {x0 : Int32} {Q : Option Value → am_H → Prop}  (wp : ((x0 = 0 → am_R E mX6_spells 0 [some (.ref 1), some (.ref 1012), none] [] (hp I J b) 64 64 (fun r h' => am_R E mX6_verbHere 28 [some (.ref 1)] (r.toList ++ []) h' 64 64 Q)) ∧ (¬ x0 = 0 → Q (some (.int 5)) (hp I J b)))) : am_R E mX6_verbHere 17 [some (.ref 1)] [.int x0] (hp I J b) 64 64 Q := by
  refine am_if_eq dX6_verbHere_17 (tgt := 22) rfl (fun hc1 => ?_) (fun hc1 => ?_)
  · have wp := wp.1 hc1
    refine am_aload_n rfl rfl dX6_verbHere_22 ?_
    refine am_ldcS (i := 2) dX6_verbHere_23 rfl (by decide) rfl rfl ?_
    refine am_invV (ci := 4) (As := [.ref 1012]) (lsZ := [some (.ref 1), some (.ref 1012), none]) (st := []) dX6_verbHere_25 hX6_spells lkX6_62 ⟨by decide, by decide⟩ (by decide) rfl (by decide) rfl rfl rfl (Nat.le_of_ble_eq_true rfl) rfl (Nat.le_of_ble_eq_true rfl) ⟨Nat.le_refl _, Nat.le_refl _⟩ (am_R.mono wp (fun r h' q => am_R.forget q ⟨rfl, trivial⟩))
  · have wp := wp.2 hc1
    refine am_iconst 5 rfl dX6_verbHere_20 ?_
    exact am_iret dX6_verbHere_21 rfl rfl wp
theorem bX6_verbHere_28 {E : Nat × (Nat → Int32)} {I : Nat → Nat → Int32} {J : Nat → Nat → Int64} {b : Bool} {x0 : Int32} {Q : Option Value → am_H → Prop}  (wp : ((x0 = 0 → am_R E mX6_spells 0 [some (.ref 1), some (.ref 1013), none] [] (hp I J b) 64 64 (fun r h' => am_R E mX6_verbHere 40 [some (.ref 1)] (r.toList ++ []) h' 64 64 Q)) ∧ (¬ x0 = 0 → Q (some (.int 6)) (hp I J b)))) : am_R E mX6_verbHere 28 [some (.ref 1)] [.int x0] (hp I J b) 64 64 Q := by
  refine am_if_eq dX6_verbHere_28 (tgt := 34) rfl (fun hc1 => ?_) (fun hc1 => ?_)
  · have wp := wp.1 hc1
    refine am_aload_n rfl rfl dX6_verbHere_34 ?_
    refine am_ldcS (i := 3) dX6_verbHere_35 rfl (by decide) rfl rfl ?_
    refine am_invV (ci := 4) (As := [.ref 1013]) (lsZ := [some (.ref 1), some (.ref 1013), none]) (st := []) dX6_verbHere_37 hX6_spells lkX6_62 ⟨by decide, by decide⟩ (by decide) rfl (by decide) rfl rfl rfl (Nat.le_of_ble_eq_true rfl) rfl (Nat.le_of_ble_eq_true rfl) ⟨Nat.le_refl _, Nat.le_refl _⟩ (am_R.mono wp (fun r h' q => am_R.forget q ⟨rfl, trivial⟩))
  · have wp := wp.2 hc1
    refine am_bipush 6 rfl dX6_verbHere_31 ?_
    exact am_iret dX6_verbHere_33 rfl rfl wp
theorem bX6_verbHere_40 {E : Nat × (Nat → Int32)} {I : Nat → Nat → Int32} {J : Nat → Nat → Int64} {b : Bool} {x0 : Int32} {Q : Option Value → am_H → Prop}  (wp : ((x0 = 0 → am_R E mX6_spells 0 [some (.ref 1), some (.ref 1014), none] [] (hp I J b) 64 64 (fun r h' => am_R E mX6_verbHere 51 [some (.ref 1)] (r.toList ++ []) h' 64 64 Q)) ∧ (¬ x0 = 0 → Q (some (.int 1)) (hp I J b)))) : am_R E mX6_verbHere 40 [some (.ref 1)] [.int x0] (hp I J b) 64 64 Q := by
  refine am_if_eq dX6_verbHere_40 (tgt := 45) rfl (fun hc1 => ?_) (fun hc1 => ?_)
  · have wp := wp.1 hc1
    refine am_aload_n rfl rfl dX6_verbHere_45 ?_
    refine am_ldcS (i := 4) dX6_verbHere_46 rfl (by decide) rfl rfl ?_
    refine am_invV (ci := 4) (As := [.ref 1014]) (lsZ := [some (.ref 1), some (.ref 1014), none]) (st := []) dX6_verbHere_48 hX6_spells lkX6_62 ⟨by decide, by decide⟩ (by decide) rfl (by decide) rfl rfl rfl (Nat.le_of_ble_eq_true rfl) rfl (Nat.le_of_ble_eq_true rfl) ⟨Nat.le_refl _, Nat.le_refl _⟩ (am_R.mono wp (fun r h' q => am_R.forget q ⟨rfl, trivial⟩))
  · have wp := wp.2 hc1
    refine am_iconst 1 rfl dX6_verbHere_43 ?_
    exact am_iret dX6_verbHere_44 rfl rfl wp
theorem bX6_verbHere_51 {E : Nat × (Nat → Int32)} {I : Nat → Nat → Int32} {J : Nat → Nat → Int64} {b : Bool} {x0 : Int32} {Q : Option Value → am_H → Prop}  (wp : ((x0 = 0 → am_R E mX6_spells 0 [some (.ref 1), some (.ref 1015), none] [] (hp I J b) 64 64 (fun r h' => am_R E mX6_verbHere 62 [some (.ref 1)] (r.toList ++ []) h' 64 64 Q)) ∧ (¬ x0 = 0 → Q (some (.int 2)) (hp I J b)))) : am_R E mX6_verbHere 51 [some (.ref 1)] [.int x0] (hp I J b) 64 64 Q := by
  refine am_if_eq dX6_verbHere_51 (tgt := 56) rfl (fun hc1 => ?_) (fun hc1 => ?_)
  · have wp := wp.1 hc1
    refine am_aload_n rfl rfl dX6_verbHere_56 ?_
    refine am_ldcS (i := 5) dX6_verbHere_57 rfl (by decide) rfl rfl ?_
    refine am_invV (ci := 4) (As := [.ref 1015]) (lsZ := [some (.ref 1), some (.ref 1015), none]) (st := []) dX6_verbHere_59 hX6_spells lkX6_62 ⟨by decide, by decide⟩ (by decide) rfl (by decide) rfl rfl rfl (Nat.le_of_ble_eq_true rfl) rfl (Nat.le_of_ble_eq_true rfl) ⟨Nat.le_refl _, Nat.le_refl _⟩ (am_R.mono wp (fun r h' q => am_R.forget q ⟨rfl, trivial⟩))
  · have wp := wp.2 hc1
    refine am_iconst 2 rfl dX6_verbHere_54 ?_
    exact am_iret dX6_verbHere_55 rfl rfl wp
theorem bX6_verbHere_62 {E : Nat × (Nat → Int32)} {I : Nat → Nat → Int32} {J : Nat → Nat → Int64} {b : Bool} {x0 : Int32} {Q : Option Value → am_H → Prop}  (wp : ((x0 = 0 → am_R E mX6_spells 0 [some (.ref 1), some (.ref 1016), none] [] (hp I J b) 64 64 (fun r h' => am_R E mX6_verbHere 73 [some (.ref 1)] (r.toList ++ []) h' 64 64 Q)) ∧ (¬ x0 = 0 → Q (some (.int 3)) (hp I J b)))) : am_R E mX6_verbHere 62 [some (.ref 1)] [.int x0] (hp I J b) 64 64 Q := by
  refine am_if_eq dX6_verbHere_62 (tgt := 67) rfl (fun hc1 => ?_) (fun hc1 => ?_)
  · have wp := wp.1 hc1
    refine am_aload_n rfl rfl dX6_verbHere_67 ?_
    refine am_ldcS (i := 6) dX6_verbHere_68 rfl (by decide) rfl rfl ?_
    refine am_invV (ci := 4) (As := [.ref 1016]) (lsZ := [some (.ref 1), some (.ref 1016), none]) (st := []) dX6_verbHere_70 hX6_spells lkX6_62 ⟨by decide, by decide⟩ (by decide) rfl (by decide) rfl rfl rfl (Nat.le_of_ble_eq_true rfl) rfl (Nat.le_of_ble_eq_true rfl) ⟨Nat.le_refl _, Nat.le_refl _⟩ (am_R.mono wp (fun r h' q => am_R.forget q ⟨rfl, trivial⟩))
  · have wp := wp.2 hc1
    refine am_iconst 3 rfl dX6_verbHere_65 ?_
    exact am_iret dX6_verbHere_66 rfl rfl wp
theorem bX6_verbHere_73 {E : Nat × (Nat → Int32)} {I : Nat → Nat → Int32} {J : Nat → Nat → Int64} {b : Bool} {x0 : Int32} {Q : Option Value → am_H → Prop}  (wp : ((x0 = 0 → am_R E mX6_spells 0 [some (.ref 1), some (.ref 1017), none] [] (hp I J b) 64 64 (fun r h' => am_R E mX6_verbHere 84 [some (.ref 1)] (r.toList ++ []) h' 64 64 Q)) ∧ (¬ x0 = 0 → Q (some (.int 4)) (hp I J b)))) : am_R E mX6_verbHere 73 [some (.ref 1)] [.int x0] (hp I J b) 64 64 Q := by
  refine am_if_eq dX6_verbHere_73 (tgt := 78) rfl (fun hc1 => ?_) (fun hc1 => ?_)
  · have wp := wp.1 hc1
    refine am_aload_n rfl rfl dX6_verbHere_78 ?_
    refine am_ldcS (i := 7) dX6_verbHere_79 rfl (by decide) rfl rfl ?_
    refine am_invV (ci := 4) (As := [.ref 1017]) (lsZ := [some (.ref 1), some (.ref 1017), none]) (st := []) dX6_verbHere_81 hX6_spells lkX6_62 ⟨by decide, by decide⟩ (by decide) rfl (by decide) rfl rfl rfl (Nat.le_of_ble_eq_true rfl) rfl (Nat.le_of_ble_eq_true rfl) ⟨Nat.le_refl _, Nat.le_refl _⟩ (am_R.mono wp (fun r h' q => am_R.forget q ⟨rfl, trivial⟩))
  · have wp := wp.2 hc1
    refine am_iconst 4 rfl dX6_verbHere_76 ?_
    exact am_iret dX6_verbHere_77 rfl rfl wp
theorem bX6_verbHere_84 {E : Nat × (Nat → Int32)} {I : Nat → Nat → Int32} {J : Nat → Nat → Int64} {b : Bool} {x0 : Int32} {Q : Option Value → am_H → Prop}  (wp : ((x0 = 0 → am_R E mX6_spells 0 [some (.ref 1), some (.ref 1018), none] [] (hp I J b) 64 64 (fun r h' => am_R E mX6_verbHere 96 [none] (r.toList ++ []) h' 64 64 Q)) ∧ (¬ x0 = 0 → Q (some (.int 7)) (hp I J b)))) : am_R E mX6_verbHere 84 [some (.ref 1)] [.int x0] (hp I J b) 64 64 Q := by
  refine am_if_eq dX6_verbHere_84 (tgt := 90) rfl (fun hc1 => ?_) (fun hc1 => ?_)
  · have wp := wp.1 hc1
    refine am_aload_n rfl rfl dX6_verbHere_90 ?_
    refine am_ldcS (i := 8) dX6_verbHere_91 rfl (by decide) rfl rfl ?_
    refine am_invV (ci := 4) (As := [.ref 1018]) (lsZ := [some (.ref 1), some (.ref 1018), none]) (st := []) dX6_verbHere_93 hX6_spells lkX6_62 ⟨by decide, by decide⟩ (by decide) rfl (by decide) rfl rfl rfl (Nat.le_of_ble_eq_true rfl) rfl (Nat.le_of_ble_eq_true rfl) ⟨Nat.le_refl _, Nat.le_refl _⟩ (am_R.mono wp (fun r h' q => am_R.forget q trivial))
  · have wp := wp.2 hc1
    refine am_bipush 7 rfl dX6_verbHere_87 ?_
    exact am_iret dX6_verbHere_89 rfl rfl wp
theorem bX6_verbHere_96 {E : Nat × (Nat → Int32)} {I : Nat → Nat → Int32} {J : Nat → Nat → Int64} {b : Bool} {x0 : Int32} {Q : Option Value → am_H → Prop}  (wp : ((x0 = 0 → Q (some (.int (-1))) (hp I J b)) ∧ (¬ x0 = 0 → Q (some (.int 8)) (hp I J b)))) : am_R E mX6_verbHere 96 [none] [.int x0] (hp I J b) 64 64 Q := by
  refine am_if_eq dX6_verbHere_96 (tgt := 104) rfl (fun hc1 => ?_) (fun hc1 => ?_)
  · have wp := wp.1 hc1
    refine am_iconst (-1) rfl dX6_verbHere_104 ?_
    exact am_iret dX6_verbHere_105 rfl rfl wp
  · have wp := wp.2 hc1
    refine am_bipush 8 rfl dX6_verbHere_99 ?_
    refine am_goto dX6_verbHere_101 (tgt := 105) rfl ?_
    exact am_iret dX6_verbHere_105 rfl rfl wp
theorem tX6_verbHere (h : At I T L p) (k : Q (some (.int (cvI (vi (lsT T L p))))) (hp I J b)) : am_R E mX6_verbHere 0 [some (.ref 1)] [] (hp I J b) 64 64 Q := by
  have k1 : ∀ i, i < 9 → lsT T L p = wd i → Q (some (.int (cvc i))) (hp I J b) := fun i hi e => by rw [vi_some hi e] at k; exact k
  refine bX6_verbHere_0 ?_
  refine tX6_spells_0 h (fun q => bX6_verbHere_6 (z01 rfl (k1 0 (by decide) q))) (fun q0 => bX6_verbHere_6 (z00 rfl ?_))
  refine tX6_spells_1 h (fun q => bX6_verbHere_17 (z01 rfl (k1 1 (by decide) q))) (fun q1 => bX6_verbHere_17 (z00 rfl ?_))
  refine tX6_spells_2 h (fun q => bX6_verbHere_28 (z01 rfl (k1 2 (by decide) q))) (fun q2 => bX6_verbHere_28 (z00 rfl ?_))
  refine tX6_spells_3 h (fun q => bX6_verbHere_40 (z01 rfl (k1 3 (by decide) q))) (fun q3 => bX6_verbHere_40 (z00 rfl ?_))
  refine tX6_spells_4 h (fun q => bX6_verbHere_51 (z01 rfl (k1 4 (by decide) q))) (fun q4 => bX6_verbHere_51 (z00 rfl ?_))
  refine tX6_spells_5 h (fun q => bX6_verbHere_62 (z01 rfl (k1 5 (by decide) q))) (fun q5 => bX6_verbHere_62 (z00 rfl ?_))
  refine tX6_spells_6 h (fun q => bX6_verbHere_73 (z01 rfl (k1 6 (by decide) q))) (fun q6 => bX6_verbHere_73 (z00 rfl ?_))
  refine tX6_spells_7 h (fun q => bX6_verbHere_84 (z01 rfl (k1 7 (by decide) q))) (fun q7 => bX6_verbHere_84 (z00 rfl ?_))
  refine tX6_spells_8 h (fun q => bX6_verbHere_96 (z01 rfl (k1 8 (by decide) q))) (fun q8 => bX6_verbHere_96 (z00 rfl ?_))
  have e : vi (lsT T L p) = none := vi_none (fun i hi => by
    rcases (show i = 0 ∨ i = 1 ∨ i = 2 ∨ i = 3 ∨ i = 4 ∨ i = 5 ∨ i = 6 ∨ i = 7 ∨ i = 8 by omega) with rfl | rfl | rfl | rfl | rfl | rfl | rfl | rfl | rfl <;> assumption)
  rw [e] at k
  exact k
theorem bX6_numberHere_0 {E : Nat × (Nat → Int32)} {I : Nat → Nat → Int32} {J : Nat → Nat → Int64} {b : Bool}  {Q : Option Value → am_H → Prop}  (wp : ((((I 1 5) - (I 1 4)) < 1 → Q (some (.int (-1))) (hp I J b)) ∧ (¬ ((I 1 5) - (I 1 4)) < 1 → ((2 < ((I 1 5) - (I 1 4)) → Q (some (.int (-1))) (hp I J b)) ∧ (¬ 2 < ((I 1 5) - (I 1 4)) → ∃ j3, (I 1 4) = nI j3 ∧ j3 < 200 ∧ (((48 ≤ (I 2 j3) ∧ (I 2 j3) ≤ 57) → am_R E mX6_numberHere 44 [some (.ref 1), none, some (.int 0), some (.int (I 1 4))] [] (hp I J b) 64 64 Q) ∧ (¬ (48 ≤ (I 2 j3) ∧ (I 2 j3) ≤ 57) → Q (some (.int (-1))) (hp I J b)))))))) : am_R E mX6_numberHere 0 [some (.ref 1), none, none, none] [] (hp I J b) 64 64 Q := by
  refine am_aload_n rfl rfl dX6_numberHere_0 ?_
  refine am_getI dX6_numberHere_1 flX6_22 (Or.inl rfl) rfl (by decide) ?_
  refine am_aload_n rfl rfl dX6_numberHere_4 ?_
  refine am_getI dX6_numberHere_5 flX6_32 (Or.inl rfl) rfl (by decide) ?_
  refine am_isub dX6_numberHere_8 ?_
  refine am_istore_n (ls' := [some (.ref 1), some (.int ((I 1 5) - (I 1 4))), none, none]) rfl (by decide) rfl rfl dX6_numberHere_9 ?_
  refine am_iload_n rfl rfl dX6_numberHere_10 ?_
  refine am_iconst 1 rfl dX6_numberHere_11 ?_
  refine am_icmp_lt dX6_numberHere_12 (tgt := 35) rfl (fun hc1 => ?_) (fun hc1 => ?_)
  · have wp := wp.1 hc1
    refine am_iconst (-1) rfl dX6_numberHere_35 ?_
    exact am_iret dX6_numberHere_36 rfl rfl wp
  · have wp := wp.2 hc1
    refine am_iload_n rfl rfl dX6_numberHere_15 ?_
    refine am_iconst 2 rfl dX6_numberHere_16 ?_
    refine am_icmp_gt dX6_numberHere_17 (tgt := 35) rfl (fun hc2 => ?_) (fun hc2 => ?_)
    · have wp := wp.1 hc2
      refine am_iconst (-1) rfl dX6_numberHere_35 ?_
      exact am_iret dX6_numberHere_36 rfl rfl wp
    · have wp := wp.2 hc2
      refine am_aload_n rfl rfl dX6_numberHere_20 ?_
      refine am_getA (r := 2) dX6_numberHere_21 flX6_9 (Or.inr ⟨_, rfl⟩) rfl (by decide) rfl ?_
      refine am_aload_n rfl rfl dX6_numberHere_24 ?_
      refine am_getI dX6_numberHere_25 flX6_32 (Or.inl rfl) rfl (by decide) ?_
      obtain ⟨j3, e3, w3, wp⟩ := wp
      refine am_ialdN (j := j3) dX6_numberHere_28 rfl (by decide) e3 w3 (by decide) ?_
      refine am_invS (As := [.int (I 2 j3)]) (lsZ := [some (.int (I 2 j3))]) (st := []) dX6_numberHere_29 hX6_isDigit lkX6_57 ⟨by decide, by decide⟩ rfl rfl (Nat.le_of_ble_eq_true rfl) rfl (Nat.le_of_ble_eq_true rfl) ⟨Nat.le_refl _, Nat.le_refl _⟩ (tX6_isDigit  (fun hc4 => ?_) (fun hc4 => ?_))
      · have wp := wp.1 hc4
        show am_R E mX6_numberHere 32 [some (.ref 1), some (.int ((I 1 5) - (I 1 4))), none, none] [.int 1] (hp I J b) 64 64 Q
        refine am_if_ne dX6_numberHere_32 (tgt := 37) rfl (fun _ => ?_) (fun hc => absurd hc (by decide))
        refine am_iconst 0 rfl dX6_numberHere_37 ?_
        refine am_istore_n (ls' := [some (.ref 1), some (.int ((I 1 5) - (I 1 4))), some (.int 0), none]) rfl (by decide) rfl rfl dX6_numberHere_38 ?_
        refine am_aload_n rfl rfl dX6_numberHere_39 ?_
        refine am_getI dX6_numberHere_40 flX6_32 (Or.inl rfl) rfl (by decide) ?_
        refine am_istore_n (ls' := [some (.ref 1), some (.int ((I 1 5) - (I 1 4))), some (.int 0), some (.int (I 1 4))]) rfl (by decide) rfl rfl dX6_numberHere_43 ?_
        exact am_R.forget wp ⟨rfl, ⟨rfl, ⟨rfl, trivial⟩⟩⟩
      · have wp := wp.2 hc4
        show am_R E mX6_numberHere 32 [some (.ref 1), some (.int ((I 1 5) - (I 1 4))), none, none] [.int 0] (hp I J b) 64 64 Q
        refine am_if_ne dX6_numberHere_32 (tgt := 37) rfl (fun hc => absurd hc (by decide)) (fun _ => ?_)
        refine am_iconst (-1) rfl dX6_numberHere_35 ?_
        exact am_iret dX6_numberHere_36 rfl rfl wp
theorem bX6_numberHere_44 {E : Nat × (Nat → Int32)} {I : Nat → Nat → Int32} {J : Nat → Nat → Int64} {b : Bool} {a2 : Int32} {a3 : Int32} {Q : Option Value → am_H → Prop}  (wp : (((I 1 5) ≤ a3 → Q (some (.int a2)) (hp I J b)) ∧ (¬ (I 1 5) ≤ a3 → ∃ j2, a3 = nI j2 ∧ j2 < 200 ∧ am_R E mX6_numberHere 44 [some (.ref 1), none, some (.int (((10 * a2) + (I 2 j2)) - 48)), some (.int (a3 + 1))] [] (hp I J b) 64 64 Q))) : am_R E mX6_numberHere 44 [some (.ref 1), none, some (.int a2), some (.int a3)] [] (hp I J b) 64 64 Q := by
  refine am_iload_n rfl rfl dX6_numberHere_44 ?_
  refine am_aload_n rfl rfl dX6_numberHere_45 ?_
  refine am_getI dX6_numberHere_46 flX6_22 (Or.inl rfl) rfl (by decide) ?_
  refine am_icmp_ge dX6_numberHere_49 (tgt := 73) rfl (fun hc1 => ?_) (fun hc1 => ?_)
  · have wp := wp.1 hc1
    refine am_iload_n rfl rfl dX6_numberHere_73 ?_
    exact am_iret dX6_numberHere_74 rfl rfl wp
  · have wp := wp.2 hc1
    refine am_bipush 10 rfl dX6_numberHere_52 ?_
    refine am_iload_n rfl rfl dX6_numberHere_54 ?_
    refine am_imul dX6_numberHere_55 ?_
    refine am_aload_n rfl rfl dX6_numberHere_56 ?_
    refine am_getA (r := 2) dX6_numberHere_57 flX6_9 (Or.inr ⟨_, rfl⟩) rfl (by decide) rfl ?_
    refine am_iload_n rfl rfl dX6_numberHere_60 ?_
    obtain ⟨j2, e2, w2, wp⟩ := wp
    refine am_ialdN (j := j2) dX6_numberHere_61 rfl (by decide) e2 w2 (by decide) ?_
    refine am_iadd dX6_numberHere_62 ?_
    refine am_bipush 48 rfl dX6_numberHere_63 ?_
    refine am_isub dX6_numberHere_65 ?_
    refine am_istore_n (ls' := [some (.ref 1), none, some (.int (((10 * a2) + (I 2 j2)) - 48)), some (.int a3)]) rfl (by decide) rfl rfl dX6_numberHere_66 ?_
    refine am_iinc (ls' := [some (.ref 1), none, some (.int (((10 * a2) + (I 2 j2)) - 48)), some (.int (a3 + 1))]) (by decide) rfl rfl rfl dX6_numberHere_67 ?_
    refine am_goto dX6_numberHere_70 (tgt := 44) rfl ?_
    exact am_R.forget wp ⟨rfl, ⟨rfl, ⟨rfl, trivial⟩⟩⟩
theorem tX6_numberHere (h : At I T L p) (k : Q (some (.int (oI (nv T L p)))) (hp I J b)) : am_R E mX6_numberHere 0 [some (.ref 1), none, none, none] [] (hp I J b) 64 64 Q := by
  obtain ⟨h1, h2, h3, h4, h5, h6⟩ := h
  obtain ⟨t1, t2, t3⟩ := te_ok (T := T) h3
  obtain ⟨s1, s2⟩ := ts_ok (T := T) h3
  have ed : I 1 5 - I 1 4 = nI (te T L p - ts T L p) := by rw [h5, h6, pk_sub t1]
  have no : ¬ ((ts T L p < L ∧ isD (T (ts T L p)) = true) ∧ te T L p - ts T L p ≤ 2) → Q (some (.int (-1))) (hp I J b) := fun q => by
    unfold nv at k; rw [if_neg q] at k; exact k
  refine bX6_numberHere_0 (lt_br (n := te T L p - ts T L p) (m := 1) ed rfl (by omega) (by omega) (fun q => no (fun z => by have := t3 z.1.1; omega)) (fun q => lt_br (n := 2) rfl ed (by omega) (by omega) (fun q2 => no (fun z => by omega)) (fun q2 => ⟨ts T L p, h5, by omega, ?_⟩)))
  rw [h4 _ (by omega)]
  refine ⟨fun z => ?_, fun z => no (fun y => z (of_decide_eq_true y.1.2))⟩
  have hd : ts T L p < L ∧ isD (T (ts T L p)) = true := ⟨by omega, decide_eq_true z⟩
  unfold nv at k
  rw [if_pos ⟨hd, q2⟩] at k
  have hdig := (dg_dig h3 hd).1
  rw [h5]
  have key : ∀ j i, i + j = te T L p - ts T L p → am_R E mX6_numberHere 44 [some (.ref 1), none, some (.int (nI (dn T (ts T L p) i))), some (.int (nI (ts T L p + i)))] [] (hp I J b) 64 64 Q := by
    intro j
    induction j with
    | zero =>
      intro i hi
      have e : i = te T L p - ts T L p := by omega
      rw [← e] at k
      exact bX6_numberHere_44 (le_br (n := te T L p) h6 rfl (by omega) (by omega) (fun _ => k) (fun z => by omega))
    | succ j ih =>
      intro i hi
      obtain ⟨c, c1, c2, e⟩ := dig_n (hdig i (by omega))
      refine bX6_numberHere_44 (le_br (n := te T L p) h6 rfl (by omega) (by omega) (fun z => by omega) (fun _ => ⟨ts T L p + i, rfl, by omega, ?_⟩))
      rw [h4 _ (by omega), e, show (10 : Int32) = nI 10 from rfl, show (48 : Int32) = nI 48 from rfl, pk_mul, nI_add, pk_sub (by omega), n1]
      have := ih (i + 1) (by omega)
      rw [dn, e, nI_clamp (by omega), show ts T L p + (i + 1) = ts T L p + i + 1 by omega] at this
      rw [show 10 * dn T (ts T L p) i + c - 48 = 10 * dn T (ts T L p) i + (c - 48) by omega]
      exact this
  exact key (te T L p - ts T L p) 0 (by omega)
end P19
