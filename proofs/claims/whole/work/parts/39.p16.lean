/-! ===== all ends: by numbers, the class ===== -/
section P16
variable {E : Nat × (Nat → Int32)} {I I' : Nat → Nat → Int32} {J J' : Nat → Nat → Int64} {b : Bool} {n : Nat} {Q : Option Value → am_H → Prop}
variable {N s : Nat} {sc : Nat → List Nat} {en : Nat → Bool} {gd : Nat → Nat}
/-- what can be come to -/
def Rch (sc : Nat → List Nat) (s c : Nat) : Prop := ∀ S : Nat → Prop, S s → (∀ c, S c → ∀ d, d ∈ sc c → S d) → S c
theorem Rch.st : Rch sc s s := fun _ h _ => h
theorem Rch.up {c d : Nat} (h : Rch sc s c) (hd : d ∈ sc c) : Rch sc s d := fun S h0 hs => hs c (h S h0 hs) d hd
/-- the best of a set -/
def Bs (gd : Nat → Nat) (S : Nat → Prop) (best : Option Nat) : Prop := match best with
  | none => ∀ c, ¬ S c
  | some c0 => S c0 ∧ ∀ c, S c → gd c < gd c0 ∨ (gd c = gd c0 ∧ c0 ≤ c)
theorem Bs.uniq {S : Nat → Prop} {x y : Option Nat} (h : Bs gd S x) (h' : Bs gd S y) : x = y := by
  cases x with
  | none =>
    cases y with
    | none => rfl
    | some c => exact absurd h'.1 (h c)
  | some c =>
    cases y with
    | none => exact absurd h.1 (h' c)
    | some d =>
      have h1 := h.2 d h'.1
      have h2 := h'.2 c h.1
      congr 1
      omega
theorem Bs.cong {S T : Nat → Prop} {x : Option Nat} (h : Bs gd S x) (e : ∀ c, S c ↔ T c) : Bs gd T x := by
  have : S = T := funext (fun c => propext (e c))
  rw [← this]; exact h
def ub (gd : Nat → Nat) (best : Option Nat) (c : Nat) : Option Nat := match best with
  | none => some c
  | some c0 => if gd c0 < gd c ∨ (gd c = gd c0 ∧ c < c0) then some c else some c0
theorem Bs.add {S : Nat → Prop} {x : Option Nat} {c : Nat} (h : Bs gd S x) : Bs gd (fun y => S y ∨ y = c) (ub gd x c) := by
  cases x with
  | none =>
    refine ⟨Or.inr rfl, fun y hy => ?_⟩
    rcases hy with hy | hy
    · exact absurd hy (h y)
    · subst hy; exact Or.inr ⟨rfl, Nat.le_refl _⟩
  | some c0 =>
    unfold ub
    by_cases q : gd c0 < gd c ∨ (gd c = gd c0 ∧ c < c0)
    · simp only [if_pos q]
      refine ⟨Or.inr rfl, fun y hy => ?_⟩
      rcases hy with hy | hy
      · have := h.2 y hy; omega
      · subst hy; exact Or.inr ⟨rfl, Nat.le_refl _⟩
    · simp only [if_neg q]
      refine ⟨Or.inl h.1, fun y hy => ?_⟩
      rcases hy with hy | hy
      · exact h.2 y hy
      · subst hy; omega
def gI (gd : Nat → Nat) : Option Nat → Int32
  | none => -1
  | some c => nI (gd c)
/-- what is found: how many, how glad, which number -/
def Fin (N : Nat) (sc : Nat → List Nat) (en : Nat → Bool) (gd : Nat → Nat) (s : Nat) (h g u : Int32) : Prop := ∃ P : Nat → Bool, (∀ c, P c = true ↔ Rch sc s c) ∧ h = nI (fb_ct (fun c => P c && en c) N) ∧ ∃ best, Bs gd (fun c => P c = true ∧ en c = true) best ∧ g = gI gd best ∧ u = oI best
theorem Fin.uniq {h g u h' g' u' : Int32} (x : Fin N sc en gd s h g u) (y : Fin N sc en gd s h' g' u') : h = h' ∧ g = g' ∧ u = u' := by
  obtain ⟨P, p1, p2, x1, x2, x3, x4⟩ := x
  obtain ⟨P', q1, q2, y1, y2, y3, y4⟩ := y
  have e : P = P' := by
    funext c
    have := (p1 c).trans (q1 c).symm
    cases h1 : P c <;> cases h2 : P' c <;> simp_all
  subst e
  have := x2.uniq y2
  subst this
  exact ⟨p2.trans q2.symm, x3.trans y3.symm, x4.trans y4.symm⟩
theorem Fin.ex (hs : s < N) (hsc : ∀ c, c < N → ∀ d, d ∈ sc c → d < N) : ∃ h g u, Fin N sc en gd s h g u := by
  have hlt : ∀ c, Rch sc s c → c < N := fun c hc => hc (fun x => x < N) hs hsc
  have hP : ∃ P : Nat → Bool, ∀ c, P c = true ↔ Rch sc s c := ⟨fun c => @decide (Rch sc s c) (Classical.propDecidable _), fun c => by
    exact @decide_eq_true_iff _ (Classical.propDecidable _)⟩
  obtain ⟨P, hP⟩ := hP
  have hb : ∀ k, ∃ best, Bs gd (fun c => c < k ∧ P c = true ∧ en c = true) best := by
    intro k
    induction k with
    | zero => exact ⟨none, fun c q => by omega⟩
    | succ k ih =>
      obtain ⟨best, hb⟩ := ih
      by_cases q : P k = true ∧ en k = true
      · refine ⟨ub gd best k, (hb.add (c := k)).cong (fun c => ?_)⟩
        constructor
        · rintro (⟨h1, h2⟩ | h1)
          · exact ⟨by omega, h2⟩
          · subst h1; exact ⟨by omega, q⟩
        · rintro ⟨h1, h2⟩
          by_cases e : c = k
          · exact Or.inr e
          · exact Or.inl ⟨by omega, h2⟩
      · refine ⟨best, hb.cong (fun c => ?_)⟩
        constructor
        · rintro ⟨h1, h2⟩; exact ⟨by omega, h2⟩
        · rintro ⟨h1, h2⟩
          by_cases e : c = k
          · subst e; exact absurd h2 q
          · exact ⟨by omega, h2⟩
  obtain ⟨best, hb⟩ := hb N
  exact ⟨_, _, _, P, hP, rfl, best, hb.cong (fun c => ⟨fun q => q.2, fun q => ⟨hlt c ((hP c).mp q.1), q⟩⟩), rfl, rfl⟩
/-- seen and waiting -/
def KI (N : Nat) (sc : Nat → List Nat) (s : Nat) (S W : Nat → Bool) : Prop := (∀ c, S c = true → c < N) ∧ (∀ c, W c = true → S c = true) ∧ S s = true ∧ (∀ c, S c = true → Rch sc s c) ∧ ∀ c, S c = true → W c = false → ∀ d, d ∈ sc c → S d = true
/-- what was looked at is told -/
def KT (N : Nat) (en : Nat → Bool) (gd : Nat → Nat) (S W : Nat → Bool) (h g u : Int32) : Prop := h = nI (fb_ct (fun c => (S c && !W c) && en c) N) ∧ ∃ best, Bs gd (fun c => (S c && !W c) = true ∧ en c = true) best ∧ g = gI gd best ∧ u = oI best
theorem KI.fin {S W : Nat → Bool} {h g u : Int32} (hk : KI N sc s S W) (ht : KT N en gd S W h g u) (hw : ∀ c, W c = false) : Fin N sc en gd s h g u := by
  obtain ⟨k1, k2, k3, k4, k5⟩ := hk
  obtain ⟨t1, best, t2, t3, t4⟩ := ht
  refine ⟨fun c => S c && !W c, fun c => ?_, t1, best, t2, t3, t4⟩
  show (S c && !W c) = true ↔ Rch sc s c
  rw [hw c]
  simp only [Bool.not_false, Bool.and_true]
  exact ⟨k4 c, fun q => q (fun x => S x = true) k3 (fun c hc d hd => k5 c hc (hw c) d hd)⟩
/-- seen and waiting behind the draws of a list -/
def aSW (q : (Nat → Bool) × (Nat → Bool)) (d : Nat) : (Nat → Bool) × (Nat → Bool) := (fun x => q.1 x || decide (x = d), fun x => q.2 x || (decide (x = d) && !q.1 x))
theorem aSW_in {q : (Nat → Bool) × (Nat → Bool)} {d : Nat} (h : q.1 d = true) : aSW q d = q := by
  have e1 : (fun x => q.1 x || decide (x = d)) = q.1 := by
    funext x
    by_cases e : x = d
    · subst e; rw [h]; rfl
    · simp [e]
  have e2 : (fun x => q.2 x || (decide (x = d) && !q.1 x)) = q.2 := by
    funext x
    by_cases e : x = d
    · subst e; rw [h]; simp
    · simp [e]
  unfold aSW
  rw [e1, e2]
theorem fold_S (L : List Nat) : ∀ (q : (Nat → Bool) × (Nat → Bool)) (x : Nat), (L.foldl aSW q).1 x = (q.1 x || decide (x ∈ L)) := by
  induction L with
  | nil => intro q x; simp
  | cons d L ih =>
    intro q x
    rw [List.foldl_cons, ih]
    unfold aSW
    by_cases e : x = d
    · simp [e]
    · simp [e]
theorem fold_W (L : List Nat) : ∀ (q : (Nat → Bool) × (Nat → Bool)) (x : Nat), (L.foldl aSW q).2 x = (q.2 x || (decide (x ∈ L) && !q.1 x)) := by
  induction L with
  | nil => intro q x; simp
  | cons d L ih =>
    intro q x
    rw [List.foldl_cons, ih]
    unfold aSW
    by_cases e : x = d
    · subst e; cases h1 : q.1 x <;> cases h2 : q.2 x <;> simp [h1, h2]
    · cases h1 : q.1 x <;> cases h2 : q.2 x <;> simp [h1, h2, e]
/-- one draw is looked at -/
theorem KI.step {S W : Nat → Bool} {c : Nat} (hk : KI N sc s S W) (hc : W c = true) (hsc : ∀ c, c < N → ∀ d, d ∈ sc c → d < N) : KI N sc s ((sc c).foldl aSW (S, fun x => W x && decide (x ≠ c))).1 ((sc c).foldl aSW (S, fun x => W x && decide (x ≠ c))).2 ∧ ∀ x, (((sc c).foldl aSW (S, fun x => W x && decide (x ≠ c))).1 x && !((sc c).foldl aSW (S, fun x => W x && decide (x ≠ c))).2 x) = if x = c then true else (S x && !W x) := by
  obtain ⟨k1, k2, k3, k4, k5⟩ := hk
  have hS := k2 c hc
  have eS : ∀ x, ((sc c).foldl aSW (S, fun x => W x && decide (x ≠ c))).1 x = (S x || decide (x ∈ sc c)) := fun x => fold_S (sc c) _ x
  have eW : ∀ x, ((sc c).foldl aSW (S, fun x => W x && decide (x ≠ c))).2 x = ((W x && decide (x ≠ c)) || (decide (x ∈ sc c) && !S x)) := fun x => fold_W (sc c) _ x
  refine ⟨⟨fun x hx => ?_, fun x hx => ?_, ?_, fun x hx => ?_, fun x hx hw d hd => ?_⟩, fun x => ?_⟩
  · rw [eS] at hx
    rcases Bool.or_eq_true_iff.mp hx with q | q
    · exact k1 x q
    · exact hsc c (k1 c hS) x (of_decide_eq_true q)
  · rw [eW] at hx
    rw [eS]
    rcases Bool.or_eq_true_iff.mp hx with q | q
    · rw [k2 x (Bool.and_eq_true_iff.mp q).1]; rfl
    · rw [(Bool.and_eq_true_iff.mp q).1, Bool.or_true]
  · rw [eS, k3]; rfl
  · rw [eS] at hx
    rcases Bool.or_eq_true_iff.mp hx with q | q
    · exact k4 x q
    · exact (k4 c hS).up (of_decide_eq_true q)
  · rw [eS] at hx ⊢
    rw [eW] at hw
    by_cases e : x = c
    · subst e; rw [decide_eq_true hd, Bool.or_true]
    · have hSx : S x = true := by
        cases q : S x with
        | true => rfl
        | false =>
          rw [q] at hx hw
          simp only [Bool.false_or] at hx
          rw [hx] at hw
          simp at hw
      have hWx : W x = false := by
        cases q : W x with
        | false => rfl
        | true => rw [q] at hw; simp [e] at hw
      rw [k5 x hSx hWx d hd]; rfl
  · rw [eS, eW]
    by_cases e : x = c
    · subst e
      rw [if_pos rfl, hS]
      simp
    · rw [if_neg e]
      cases h1 : S x <;> cases h2 : W x <;> cases h3 : decide (x ∈ sc c) <;> simp [e]
theorem KT.step {S W S' W' : Nat → Bool} {c : Nat} {h g u : Int32} (ht : KT N en gd S W h g u) (hc : c < N) (hSW : (S c && !W c) = false) (he : ∀ x, (S' x && !W' x) = if x = c then true else (S x && !W x)) : (en c = false → KT N en gd S' W' h g u) ∧ (en c = true → ∀ best, Bs gd (fun c => (S c && !W c) = true ∧ en c = true) best → g = gI gd best → u = oI best → KT N en gd S' W' (h + 1) (gI gd (ub gd best c)) (oI (ub gd best c))) := by
  obtain ⟨t1, best, t2, t3, t4⟩ := ht
  refine ⟨fun q => ⟨?_, best, t2.cong (fun x => ?_), t3, t4⟩, fun q best2 b2 g2 u2 => ⟨?_, ub gd best2 c, (b2.add (c := c)).cong (fun x => ?_), rfl, rfl⟩⟩
  · rw [t1]
    congr 1
    apply fb_ct_cong
    intro x hx
    rw [he x]
    by_cases e : x = c
    · subst e; rw [if_pos rfl, q]; simp
    · rw [if_neg e]
  · rw [he x]
    by_cases e : x = c
    · subst e; rw [q]; simp
    · rw [if_neg e]
  · rw [t1, n1]
    congr 1
    have up := fb_ct_upd (fun c => (S c && !W c) && en c) true hc
    have ec : fb_ct (fun x => (S' x && !W' x) && en x) N = fb_ct (fun k => if k = c then true else ((S k && !W k) && en k)) N := by
      apply fb_ct_cong
      intro x hx
      rw [he x]
      by_cases e : x = c
      · subst e; rw [if_pos rfl, if_pos rfl, q]; rfl
      · rw [if_neg e, if_neg e]
    rw [ec]
    rw [hSW] at up
    simp only [Bool.false_and, Bool.false_eq_true, if_false, if_true] at up
    omega
  · rw [he x]
    by_cases e : x = c
    · subst e; simp [q]
    · rw [if_neg e]; simp [e]
/-! the class -/
/-- the class's bits -/
def Rp (J : Nat → Nat → Int64) (S W : Nat → Bool) : Prop := ∀ d, d < 5056 → bj (J 39 (d / 64)) (d % 64) = S d ∧ bj (J 40 (d / 64)) (d % 64) = W d
theorem c64 : ∀ c, c < 5040 → nI c >>> (6 &&& 31) = nI (c / 64) ∧ nI c &&& 63 = nI (c % 64) := by
  intro c hc
  refine ⟨?_, ?_⟩
  · apply Int32.toBitVec_inj.mp
    rw [Int32.toBitVec_shiftRight]
    have e1 : (nI c).toBitVec = BitVec.ofNat 32 c := rfl
    have e2 : (nI (c / 64)).toBitVec = BitVec.ofNat 32 (c / 64) := rfl
    have e3 : ((6 &&& 31 : Int32).toBitVec.smod 32) = 6#32 := by decide
    rw [e1, e2, e3]
    apply BitVec.eq_of_toNat_eq
    have hm : (BitVec.ofNat 32 c).msb = false := by
      rw [BitVec.msb_eq_decide, BitVec.toNat_ofNat, Nat.mod_eq_of_lt (by omega)]
      exact decide_eq_false (by omega)
    show ((BitVec.ofNat 32 c).sshiftRight 6).toNat = _
    rw [BitVec.sshiftRight_eq_of_msb_false hm, BitVec.toNat_ushiftRight, BitVec.toNat_ofNat, BitVec.toNat_ofNat, Nat.mod_eq_of_lt (by omega), Nat.mod_eq_of_lt (by omega), Nat.shiftRight_eq_div_pow]
  · exact fa_mask c 6
theorem bX7_reach_0 {E : Nat × (Nat → Int32)} {I : Nat → Nat → Int32} {J : Nat → Nat → Int64} {b : Bool} {a1 : Int32} {Q : Option Value → am_H → Prop}  (wp : ∃ j1, (a1 >>> (6 &&& 31)) = nI j1 ∧ j1 < 79 ∧ ((¬ (lg_cmp ((J 39 j1) &&& (1 <<< (Int32.toInt64 (a1 &&& 63) &&& 63))) 0) = 0 → Q none (hp I J b)) ∧ ((lg_cmp ((J 39 j1) &&& (1 <<< (Int32.toInt64 (a1 &&& 63) &&& 63))) 0) = 0 → Q none (hp I (v2 (v2 J 39 j1 ((J 39 j1) ||| (1 <<< (Int32.toInt64 (a1 &&& 63) &&& 63)))) 40 j1 ((J 40 j1) ||| (1 <<< (Int32.toInt64 (a1 &&& 63) &&& 63)))) b)))) : am_R E mX7_reach 0 [some (.ref 36), some (.int a1), none, none] [] (hp I J b) 64 64 Q := by
  refine am_lconst 1 rfl dX7_reach_0 ?_
  refine am_iload_n rfl rfl dX7_reach_1 ?_
  refine am_bipush 63 rfl dX7_reach_2 ?_
  refine am_iand dX7_reach_4 ?_
  refine am_lshl dX7_reach_5 ?_
  refine am_lstore_n (ls' := [some (.ref 36), some (.int a1), some (.long (1 <<< (Int32.toInt64 (a1 &&& 63) &&& 63))), none]) rfl (by decide) rfl rfl dX7_reach_6 ?_
  refine am_aload_n rfl rfl dX7_reach_7 ?_
  refine am_getA (r := 39) dX7_reach_8 flX7_18 (Or.inr ⟨_, rfl⟩) rfl (by decide) rfl ?_
  refine am_iload_n rfl rfl dX7_reach_11 ?_
  refine am_bipush 6 rfl dX7_reach_12 ?_
  refine am_ishr dX7_reach_14 ?_
  obtain ⟨j1, e1, w1, wp⟩ := wp
  refine am_laldN (j := j1) dX7_reach_15 rfl (by decide) e1 w1 (by decide) ?_
  refine am_lload_n rfl rfl dX7_reach_16 ?_
  refine am_land dX7_reach_17 ?_
  refine am_lconst 0 rfl dX7_reach_18 ?_
  refine am_lcmp dX7_reach_19 ?_
  refine am_if_ne dX7_reach_20 (tgt := 49) rfl (fun hc2 => ?_) (fun hc2 => ?_)
  · have wp := wp.1 hc2
    exact am_vret dX7_reach_49 rfl wp
  · have wp := wp.2 hc2
    refine am_aload_n rfl rfl dX7_reach_23 ?_
    refine am_getA (r := 39) dX7_reach_24 flX7_18 (Or.inr ⟨_, rfl⟩) rfl (by decide) rfl ?_
    refine am_iload_n rfl rfl dX7_reach_27 ?_
    refine am_bipush 6 rfl dX7_reach_28 ?_
    refine am_ishr dX7_reach_30 ?_
    refine am_dup2 rfl rfl dX7_reach_31 ?_
    refine am_laldN (j := j1) dX7_reach_32 rfl (by decide) e1 w1 (by decide) ?_
    refine am_lload_n rfl rfl dX7_reach_33 ?_
    refine am_lor dX7_reach_34 ?_
    refine am_lastN (j := j1) dX7_reach_35 rfl (by decide) e1 w1 (by decide) ?_
    refine am_aload_n rfl rfl dX7_reach_36 ?_
    refine am_getA (r := 40) dX7_reach_37 flX7_22 (Or.inr ⟨_, rfl⟩) rfl (by decide) rfl ?_
    refine am_iload_n rfl rfl dX7_reach_40 ?_
    refine am_bipush 6 rfl dX7_reach_41 ?_
    refine am_ishr dX7_reach_43 ?_
    refine am_dup2 rfl rfl dX7_reach_44 ?_
    refine am_laldN (j := j1) dX7_reach_45 rfl (by decide) e1 w1 (by decide) ?_
    show am_R E mX7_reach 46 [some (.ref 36), some (.int a1), some (.long (1 <<< (Int32.toInt64 (a1 &&& 63) &&& 63))), none] [.long (J 40 j1), .int (a1 >>> (6 &&& 31)), .ref 40] (hp I (v2 J 39 j1 ((J 39 j1) ||| (1 <<< (Int32.toInt64 (a1 &&& 63) &&& 63)))) b) 64 64 Q
    refine am_lload_n rfl rfl dX7_reach_46 ?_
    refine am_lor dX7_reach_47 ?_
    refine am_lastN (j := j1) dX7_reach_48 rfl (by decide) e1 w1 (by decide) ?_
    exact am_vret dX7_reach_49 rfl wp
theorem tX7_reach {a1 : Int32} {d : Nat} {S W : Nat → Bool} (ed : a1 = nI d) (hd : d < 5040) (hR : Rp J S W) (k : ∀ J', Rp J' (aSW (S, W) d).1 (aSW (S, W) d).2 → Q none (hp I J' b)) : am_R E mX7_reach 0 [some (.ref 36), some (.int a1), none, none] [] (hp I J b) 64 64 Q := by
  subst ed
  obtain ⟨e1, e2⟩ := c64 d hd
  have hm : d % 64 < 64 := Nat.mod_lt _ (by decide)
  refine bX7_reach_0 ⟨d / 64, e1, by omega, ?_⟩
  rw [e2]
  have hS := (hR d (by omega)).1
  refine ⟨fun q => ?_, fun q => ?_⟩
  · have z : S d = true := by
      rw [← hS]
      cases h : bj (J 39 (d / 64)) (d % 64) with
      | true => rfl
      | false => exact absurd ((bj_test hm).mpr h) q
    refine k J ?_
    rw [aSW_in (q := (S, W)) z]
    exact hR
  · have z : S d = false := by rw [← hS]; exact (bj_test hm).mp q
    refine k _ (fun x hx => ?_)
    obtain ⟨r1, r2⟩ := hR x hx
    rw [v2_n _ _ _ (by decide), v2_s, v2_s]
    unfold vp_updL aSW
    by_cases e : x / 64 = d / 64
    · simp only [if_pos e]
      rw [bj_or hm, bj_or hm, ← e, r1, r2]
      by_cases f : x = d
      · subst f; rw [z]; simp
      · have : ¬ d % 64 = x % 64 := by omega
        simp [f, this]
    · simp only [if_neg e]
      have f : ¬ x = d := fun q => e (by rw [q])
      rw [v2_n _ _ _ (by decide), r1, r2]
      simp [f]
theorem bX7_takeWaiting_0 {E : Nat × (Nat → Int32)} {I : Nat → Nat → Int32} {J : Nat → Nat → Int64} {b : Bool}  {Q : Option Value → am_H → Prop}  (wp : am_R E mX7_takeWaiting 2 [some (.ref 36), some (.int 0), none] [] (hp I J b) 64 64 Q) : am_R E mX7_takeWaiting 0 [some (.ref 36), none, none] [] (hp I J b) 64 64 Q := by
  refine am_iconst 0 rfl dX7_takeWaiting_0 ?_
  refine am_istore_n (ls' := [some (.ref 36), some (.int 0), none]) rfl (by decide) rfl rfl dX7_takeWaiting_1 ?_
  exact am_R.forget wp ⟨rfl, ⟨rfl, trivial⟩⟩
theorem bX7_takeWaiting_2 {E : Nat × (Nat → Int32)} {I : Nat → Nat → Int32} {J : Nat → Nat → Int64} {b : Bool} {a1 : Int32} {Q : Option Value → am_H → Prop}  (wp : ((79 ≤ a1 → Q (some (.int (-1))) (hp I J b)) ∧ (¬ 79 ≤ a1 → ∃ j2, a1 = nI j2 ∧ j2 < 79 ∧ (((lg_cmp (J 40 j2) 0) = 0 → am_R E mX7_takeWaiting 2 [some (.ref 36), some (.int (a1 + 1)), none] [] (hp I J b) 64 64 Q) ∧ (¬ (lg_cmp (J 40 j2) 0) = 0 → am_R E mJ13_numberOfTrailingZeros_95d88 0 [some (.long (J 40 j2)), none, none] [] (hp I J b) 64 64 (fun r h' => am_R E mX7_takeWaiting 32 [some (.ref 36), some (.int a1), none] (r.toList ++ [.int (a1 * 64)]) h' 64 64 Q)))))) : am_R E mX7_takeWaiting 2 [some (.ref 36), some (.int a1), none] [] (hp I J b) 64 64 Q := by
  refine am_iload_n rfl rfl dX7_takeWaiting_2 ?_
  refine am_bipush 79 rfl dX7_takeWaiting_3 ?_
  refine am_icmp_ge dX7_takeWaiting_5 (tgt := 59) rfl (fun hc1 => ?_) (fun hc1 => ?_)
  · have wp := wp.1 hc1
    refine am_iconst (-1) rfl dX7_takeWaiting_59 ?_
    exact am_iret dX7_takeWaiting_60 rfl rfl wp
  · have wp := wp.2 hc1
    refine am_aload_n rfl rfl dX7_takeWaiting_8 ?_
    refine am_getA (r := 40) dX7_takeWaiting_9 flX7_22 (Or.inr ⟨_, rfl⟩) rfl (by decide) rfl ?_
    refine am_iload_n rfl rfl dX7_takeWaiting_12 ?_
    obtain ⟨j2, e2, w2, wp⟩ := wp
    refine am_laldN (j := j2) dX7_takeWaiting_13 rfl (by decide) e2 w2 (by decide) ?_
    refine am_lconst 0 rfl dX7_takeWaiting_14 ?_
    refine am_lcmp dX7_takeWaiting_15 ?_
    refine am_if_eq dX7_takeWaiting_16 (tgt := 53) rfl (fun hc3 => ?_) (fun hc3 => ?_)
    · have wp := wp.1 hc3
      refine am_iinc (ls' := [some (.ref 36), some (.int (a1 + 1)), none]) (by decide) rfl rfl rfl dX7_takeWaiting_53 ?_
      refine am_goto dX7_takeWaiting_56 (tgt := 2) rfl ?_
      exact am_R.forget wp ⟨rfl, ⟨rfl, trivial⟩⟩
    · have wp := wp.2 hc3
      refine am_iload_n rfl rfl dX7_takeWaiting_19 ?_
      refine am_bipush 64 rfl dX7_takeWaiting_20 ?_
      refine am_imul dX7_takeWaiting_22 ?_
      refine am_aload_n rfl rfl dX7_takeWaiting_23 ?_
      refine am_getA (r := 40) dX7_takeWaiting_24 flX7_22 (Or.inr ⟨_, rfl⟩) rfl (by decide) rfl ?_
      refine am_iload_n rfl rfl dX7_takeWaiting_27 ?_
      refine am_laldN (j := j2) dX7_takeWaiting_28 rfl (by decide) e2 w2 (by decide) ?_
      refine am_invS (As := [.long (J 40 j2)]) (lsZ := [some (.long (J 40 j2)), none, none]) (st := [.int (a1 * 64)]) dX7_takeWaiting_29 hJ13_numberOfTrailingZeros_95d88 lkX7_68 ⟨by decide, by decide⟩ rfl rfl (Nat.le_of_ble_eq_true rfl) rfl (Nat.le_of_ble_eq_true rfl) ⟨Nat.le_refl _, Nat.le_refl _⟩ (am_R.mono wp (fun r h' q => am_R.forget q ⟨rfl, ⟨rfl, trivial⟩⟩))
theorem bX7_takeWaiting_32 {E : Nat × (Nat → Int32)} {I : Nat → Nat → Int32} {J : Nat → Nat → Int64} {b : Bool} {a1 : Int32} {x0 : Int32} {x1 : Int32} {Q : Option Value → am_H → Prop}  (wp : ∃ j1, a1 = nI j1 ∧ j1 < 79 ∧ Q (some (.int (x1 + x0))) (hp I (v2 J 40 j1 ((J 40 j1) &&& ((J 40 j1) - 1))) b)) : am_R E mX7_takeWaiting 32 [some (.ref 36), some (.int a1), none] [.int x0, .int x1] (hp I J b) 64 64 Q := by
  refine am_iadd dX7_takeWaiting_32 ?_
  refine am_istore_n (ls' := [some (.ref 36), some (.int a1), some (.int (x1 + x0))]) rfl (by decide) rfl rfl dX7_takeWaiting_33 ?_
  refine am_aload_n rfl rfl dX7_takeWaiting_34 ?_
  refine am_getA (r := 40) dX7_takeWaiting_35 flX7_22 (Or.inr ⟨_, rfl⟩) rfl (by decide) rfl ?_
  refine am_iload_n rfl rfl dX7_takeWaiting_38 ?_
  refine am_dup2 rfl rfl dX7_takeWaiting_39 ?_
  obtain ⟨j1, e1, w1, wp⟩ := wp
  refine am_laldN (j := j1) dX7_takeWaiting_40 rfl (by decide) e1 w1 (by decide) ?_
  refine am_aload_n rfl rfl dX7_takeWaiting_41 ?_
  refine am_getA (r := 40) dX7_takeWaiting_42 flX7_22 (Or.inr ⟨_, rfl⟩) rfl (by decide) rfl ?_
  refine am_iload_n rfl rfl dX7_takeWaiting_45 ?_
  refine am_laldN (j := j1) dX7_takeWaiting_46 rfl (by decide) e1 w1 (by decide) ?_
  refine am_lconst 1 rfl dX7_takeWaiting_47 ?_
  refine am_lsub dX7_takeWaiting_48 ?_
  refine am_land dX7_takeWaiting_49 ?_
  refine am_lastN (j := j1) dX7_takeWaiting_50 rfl (by decide) e1 w1 (by decide) ?_
  refine am_iload_n rfl rfl dX7_takeWaiting_51 ?_
  exact am_iret dX7_takeWaiting_52 rfl rfl wp
theorem tX7_takeWaiting {S W : Nat → Bool} (hR : Rp J S W) (kN : (∀ d, d < 5056 → W d = false) → Q (some (.int (-1))) (hp I J b)) (kS : ∀ c J', c < 5056 → W c = true → Rp J' S (fun x => W x && decide (x ≠ c)) → Q (some (.int (nI c))) (hp I J' b)) : am_R E mX7_takeWaiting 0 [some (.ref 36), none, none] [] (hp I J b) 64 64 Q := by
  have key : ∀ j w, w + j = 79 → (∀ d, d < 64 * w → W d = false) → am_R E mX7_takeWaiting 2 [some (.ref 36), some (.int (nI w)), none] [] (hp I J b) 64 64 Q := by
    intro j
    induction j with
    | zero =>
      intro w hw h0
      have e : w = 79 := by omega
      subst e
      exact bX7_takeWaiting_2 (le_br (n := 79) rfl rfl (by omega) (by omega) (fun _ => kN h0) (fun q => by omega))
    | succ j ih =>
      intro w hw h0
      refine bX7_takeWaiting_2 (le_br (n := 79) rfl rfl (by omega) (by omega) (fun q => by omega) (fun _ => ⟨w, rfl, by omega, fun q => ?_, fun q => ?_⟩))
      · rw [n1]
        refine ih (w + 1) (by omega) (fun d hd => ?_)
        rcases Nat.lt_or_ge d (64 * w) with z | z
        · exact h0 d z
        · have := (hR d (by omega)).2
          rw [show d / 64 = w by omega, (lg_cmp_eq _ _).mp q, bj_0] at this
          exact this.symm
      · have nz : (J 40 w).toBitVec ≠ 0#64 := fun z => q ((lg_cmp_eq _ _).mpr (Int64.toBitVec_inj.mp z))
        obtain ⟨t, ht⟩ := lw_ex nz
        refine tJ13_ntz ht (bX7_takeWaiting_32 ⟨w, rfl, by omega, ?_⟩)
        rw [show (64 : Int32) = nI 64 from rfl, pk_mul, nI_add, Nat.mul_comm]
        have t64 := ht.1
        refine kS (64 * w + t) _ (by omega) ?_ (fun x hx => ?_)
        · have := (hR (64 * w + t) (by omega)).2
          rw [show (64 * w + t) / 64 = w by omega, show (64 * w + t) % 64 = t by omega] at this
          rw [← this]; exact ht.2.1
        · obtain ⟨r1, r2⟩ := hR x hx
          rw [v2_n _ _ _ (by decide), v2_s]
          refine ⟨r1, ?_⟩
          unfold vp_updL
          by_cases e : x / 64 = w
          · simp only [if_pos e]
            rw [bj_clr ht (Nat.mod_lt _ (by decide)), ← r2, e]
            congr 1
            exact decide_eq_decide.mpr (by omega)
          · simp only [if_neg e]
            rw [r2]
            have : x ≠ 64 * w + t := by omega
            simp [this]
  exact bX7_takeWaiting_0 (key 79 0 (by omega) (fun d hd => by omega))
/-! the draws as a graph -/
def scI (I : Nat → Nat → Int32) (n by' c : Nat) : List Nat := (wl I n by' (ur n c) 448).map (fun w => rk n (nx by' (ur n c) w))
def enI (I : Nat → Nat → Int32) (n by' c : Nat) : Bool := (wl I n by' (ur n c) 448).isEmpty
def gdI (I : Nat → Nat → Int32) (n c : Nat) : Nat := (sm (fun m => I 50 (7 * m + ur n c m)) n).toNatClampNeg
theorem gd_ok (h7 : n ≤ 7) (hL : Lk I) {c : Nat} (hc : c < fct n) : sm (fun m => I 50 (7 * m + ur n c m)) n = nI (gdI I n c) ∧ gdI I n c ≤ 63 := by
  obtain ⟨S, h1, h2⟩ := sm_ex (f := fun m => I 50 (7 * m + ur n c m)) (B := 9) n (fun m hm => hL _ (by have := (ur_pm h7 hc).1 m hm; omega))
  unfold gdI
  rw [h2, nI_clamp (by omega)]
  exact ⟨rfl, by omega⟩
theorem sc_lt {by' c d : Nat} (h : d ∈ scI I n by' c) : d < fct n := by
  unfold scI at h
  obtain ⟨w, -, rfl⟩ := List.mem_map.mp h
  exact rk_lt
theorem graph_eq (h1 : I' 49 = I 49) (h0 : I' 50 = I 50) (h2 : I' 51 = I 51) (h3 : ∀ m, I' 55 (8 + m) = I 55 (8 + m)) : scI I' = scI I ∧ enI I' = enI I ∧ gdI I' = gdI I := by
  refine ⟨?_, ?_, ?_⟩
  · funext n by' c; unfold scI; rw [wl_eq h1 h0 h2 h3]
  · funext n by' c; unfold enI; rw [wl_eq h1 h0 h2 h3]
  · funext n c; unfold gdI; rw [h0]
theorem gI_lt {best : Option Nat} {c : Nat} (hb : ∀ x, best = some x → gd x ≤ 63) (hc : gd c ≤ 63) : gI gd best < nI (gd c) ↔ (∀ x, best = some x → gd x < gd c) := by
  cases best with
  | none => exact ⟨fun _ x q => (by cases q), fun _ => m1_lt (by omega)⟩
  | some x =>
    have := hb x rfl
    show nI (gd x) < nI (gd c) ↔ _
    rw [nI_ltI (by omega) (by omega)]
    exact ⟨fun q y e => by cases e; exact q, fun q => q x rfl⟩
/-- the cells that the search may change -/
def eS : List Nat := [23, 25, 36, 37, 38]
theorem rc37 : rowc 37 := Or.inr (Or.inr (Or.inr (Or.inr (Or.inl rfl))))
theorem rc38 : rowc 38 := Or.inr (Or.inr (Or.inr (Or.inr (Or.inr (Or.inl rfl)))))
theorem bX7_addEnd_0 {E : Nat × (Nat → Int32)} {I : Nat → Nat → Int32} {J : Nat → Nat → Int64} {b : Bool} {a1 : Int32} {Q : Option Value → am_H → Prop}  (wp : am_R E mX2_gladnessOf 0 [some (.ref 4), some (.ref 37), none, none] [] (hp I J b) 64 64 (fun r h' => am_R E mX7_addEnd 14 [some (.ref 36), some (.int a1), none] (r.toList ++ []) h' 64 64 Q)) : am_R E mX7_addEnd 0 [some (.ref 36), some (.int a1), none] [] (hp I J b) 64 64 Q := by
  refine am_aload_n rfl rfl dX7_addEnd_0 ?_
  refine am_getA (r := 23) dX7_addEnd_1 flX7_25 (Or.inl ⟨_, rfl⟩) rfl (by decide) rfl ?_
  refine am_getA (r := 4) dX7_addEnd_4 flX7_39 (Or.inl ⟨_, rfl⟩) rfl (by decide) rfl ?_
  refine am_aload_n rfl rfl dX7_addEnd_7 ?_
  refine am_getA (r := 37) dX7_addEnd_8 flX7_9 (Or.inr ⟨_, rfl⟩) rfl (by decide) rfl ?_
  refine am_invV (ci := 1) (As := [.ref 37]) (lsZ := [some (.ref 4), some (.ref 37), none, none]) (st := []) dX7_addEnd_11 hX2_gladnessOf lkX7_97 ⟨by decide, by decide⟩ (by decide) rfl (by decide) rfl rfl rfl (Nat.le_of_ble_eq_true rfl) rfl (Nat.le_of_ble_eq_true rfl) ⟨Nat.le_refl _, Nat.le_refl _⟩ (am_R.mono wp (fun r h' q => am_R.forget q ⟨rfl, ⟨rfl, trivial⟩⟩))
theorem bX7_addEnd_14 {E : Nat × (Nat → Int32)} {I : Nat → Nat → Int32} {J : Nat → Nat → Int64} {b : Bool} {a1 : Int32} {x0 : Int32} {Q : Option Value → am_H → Prop}  (wp : (((I 36 6) < x0 → Q none (hp (u2 (u2 (u2 I 36 5 ((I 36 5) + 1)) 36 6 x0) 36 7 a1) J b)) ∧ (¬ (I 36 6) < x0 → ((¬ x0 = (I 36 6) → Q none (hp (u2 I 36 5 ((I 36 5) + 1)) J b)) ∧ (x0 = (I 36 6) → (((I 36 7) ≤ a1 → Q none (hp (u2 I 36 5 ((I 36 5) + 1)) J b)) ∧ (¬ (I 36 7) ≤ a1 → Q none (hp (u2 (u2 (u2 I 36 5 ((I 36 5) + 1)) 36 6 x0) 36 7 a1) J b)))))))) : am_R E mX7_addEnd 14 [some (.ref 36), some (.int a1), none] [.int x0] (hp I J b) 64 64 Q := by
  refine am_istore_n (ls' := [some (.ref 36), some (.int a1), some (.int x0)]) rfl (by decide) rfl rfl dX7_addEnd_14 ?_
  refine am_aload_n rfl rfl dX7_addEnd_15 ?_
  refine am_dup rfl dX7_addEnd_16 ?_
  refine am_getI dX7_addEnd_17 flX7_29 (Or.inl rfl) rfl (by decide) ?_
  refine am_iconst 1 rfl dX7_addEnd_20 ?_
  refine am_iadd dX7_addEnd_21 ?_
  refine am_putI dX7_addEnd_22 flX7_29 (Or.inl rfl) rfl rfl (by decide) ?_
  refine am_iload_n rfl rfl dX7_addEnd_25 ?_
  refine am_aload_n rfl rfl dX7_addEnd_26 ?_
  refine am_getI dX7_addEnd_27 flX7_33 (Or.inl rfl) rfl (by decide) ?_
  show am_R E mX7_addEnd 30 [some (.ref 36), some (.int a1), some (.int x0)] [.int (I 36 6), .int x0] (hp (u2 I 36 5 ((I 36 5) + 1)) J b) 64 64 Q
  refine am_icmp_gt dX7_addEnd_30 (tgt := 49) rfl (fun hc1 => ?_) (fun hc1 => ?_)
  · have wp := wp.1 hc1
    refine am_aload_n rfl rfl dX7_addEnd_49 ?_
    refine am_iload_n rfl rfl dX7_addEnd_50 ?_
    refine am_putI dX7_addEnd_51 flX7_33 (Or.inl rfl) rfl rfl (by decide) ?_
    refine am_aload_n rfl rfl dX7_addEnd_54 ?_
    refine am_iload_n rfl rfl dX7_addEnd_55 ?_
    refine am_putI dX7_addEnd_56 flX7_36 (Or.inl rfl) rfl rfl (by decide) ?_
    exact am_vret dX7_addEnd_59 rfl wp
  · have wp := wp.2 hc1
    refine am_iload_n rfl rfl dX7_addEnd_33 ?_
    refine am_aload_n rfl rfl dX7_addEnd_34 ?_
    refine am_getI dX7_addEnd_35 flX7_33 (Or.inl rfl) rfl (by decide) ?_
    show am_R E mX7_addEnd 38 [some (.ref 36), some (.int a1), some (.int x0)] [.int (I 36 6), .int x0] (hp (u2 I 36 5 ((I 36 5) + 1)) J b) 64 64 Q
    refine am_icmp_ne dX7_addEnd_38 (tgt := 59) rfl (fun hc2 => ?_) (fun hc2 => ?_)
    · have wp := wp.1 hc2
      exact am_vret dX7_addEnd_59 rfl wp
    · have wp := wp.2 hc2
      refine am_iload_n rfl rfl dX7_addEnd_41 ?_
      refine am_aload_n rfl rfl dX7_addEnd_42 ?_
      refine am_getI dX7_addEnd_43 flX7_36 (Or.inl rfl) rfl (by decide) ?_
      show am_R E mX7_addEnd 46 [some (.ref 36), some (.int a1), some (.int x0)] [.int (I 36 7), .int a1] (hp (u2 I 36 5 ((I 36 5) + 1)) J b) 64 64 Q
      refine am_icmp_ge dX7_addEnd_46 (tgt := 59) rfl (fun hc3 => ?_) (fun hc3 => ?_)
      · have wp := wp.1 hc3
        exact am_vret dX7_addEnd_59 rfl wp
      · have wp := wp.2 hc3
        refine am_aload_n rfl rfl dX7_addEnd_49 ?_
        refine am_iload_n rfl rfl dX7_addEnd_50 ?_
        refine am_putI dX7_addEnd_51 flX7_33 (Or.inl rfl) rfl rfl (by decide) ?_
        refine am_aload_n rfl rfl dX7_addEnd_54 ?_
        refine am_iload_n rfl rfl dX7_addEnd_55 ?_
        refine am_putI dX7_addEnd_56 flX7_36 (Or.inl rfl) rfl rfl (by decide) ?_
        exact am_vret dX7_addEnd_59 rfl wp
theorem tX7_addEnd {a1 : Int32} {c : Nat} {best : Option Nat} (hC : CH I n) (hL : Lk I) (hc : c < fct n) (ec : a1 = nI c) (hR : Rw (I 37) (ur n c) n) (hb : ∀ x, best = some x → x < fct n) (e6 : I 36 6 = gI (gdI I n) best) (e7 : I 36 7 = oI best) (k : ∀ I', Ag [36] I I' → I' 36 5 = I 36 5 + 1 → I' 36 6 = gI (gdI I n) (ub (gdI I n) best c) → I' 36 7 = oI (ub (gdI I n) best c) → Q none (hp I' J b)) : am_R E mX7_addEnd 0 [some (.ref 36), some (.int a1), none] [] (hp I J b) 64 64 Q := by
  subst ec
  have h7 := hC.2.1.2
  have hfl := fct_le n (by omega)
  obtain ⟨g1, g2⟩ := gd_ok (n := n) h7 hL hc
  have hbg : ∀ x, best = some x → gdI I n x ≤ 63 := fun x hx => (gd_ok (n := n) h7 hL (hb x hx)).2
  refine bX7_addEnd_0 (tX2_gladnessOf (p := ur n c) rc37 hC hR (bX7_addEnd_14 ?_))
  rw [g1, e6, e7]
  have up : ub (gdI I n) best c = some c → Q none (hp (u2 (u2 (u2 I 36 5 (I 36 5 + 1)) 36 6 (nI (gdI I n c))) 36 7 (nI c)) J b) := fun q => by
    rw [q] at k
    exact k _ ((((Ag.rf [36] I).u2 (by decide)).u2 (by decide)).u2 (by decide)) rfl rfl rfl
  have no : ub (gdI I n) best c = best → Q none (hp (u2 I 36 5 (I 36 5 + 1)) J b) := fun q => by
    rw [q] at k
    exact k _ ((Ag.rf [36] I).u2 (by decide)) rfl e6 e7
  have hlt := gI_lt (gd := gdI I n) (best := best) (c := c) hbg g2
  refine ⟨fun z => up ?_, fun z => ?_⟩
  · cases best with
    | none => rfl
    | some x => exact if_pos (Or.inl (hlt.mp z x rfl))
  · cases best with
    | none => exact absurd (hlt.mpr (fun x q => by cases q)) z
    | some x =>
      have hx := hb x rfl
      have hgx := hbg x rfl
      have nl : ¬ gdI I n x < gdI I n c := fun q => z (hlt.mpr (fun y e => by cases e; exact q))
      refine ne_br (n := gdI I n c) (m := gdI I n x) rfl rfl (by omega) (by omega) (fun q => ?_) (fun q => no (if_neg (fun w => by omega)))
      exact le_br (n := x) (m := c) rfl rfl (by omega) (by omega) (fun w => no (if_neg (fun w2 => by omega))) (fun w => up (if_pos (Or.inr ⟨q, w⟩)))
theorem bX7_lookAt_0 {E : Nat × (Nat → Int32)} {I : Nat → Nat → Int32} {J : Nat → Nat → Int64} {b : Bool} {a1 : Int32} {a2 : Int32} {Q : Option Value → am_H → Prop}  (wp : am_R E mX3_fill 0 [some (.ref 37), some (.int (I 4 0)), some (.int a1), none, none, none, none, none, none] [] (hp I J b) 64 64 (fun r h' => am_R E mX7_lookAt 20 [some (.ref 36), some (.int a1), some (.int a2), some (.int (I 4 0)), none] (r.toList ++ []) h' 64 64 Q)) : am_R E mX7_lookAt 0 [some (.ref 36), some (.int a1), some (.int a2), none, none] [] (hp I J b) 64 64 Q := by
  refine am_aload_n rfl rfl dX7_lookAt_0 ?_
  refine am_getA (r := 23) dX7_lookAt_1 flX7_25 (Or.inl ⟨_, rfl⟩) rfl (by decide) rfl ?_
  refine am_getA (r := 4) dX7_lookAt_4 flX7_39 (Or.inl ⟨_, rfl⟩) rfl (by decide) rfl ?_
  refine am_getI dX7_lookAt_7 flX7_45 (Or.inl rfl) rfl (by decide) ?_
  refine am_istore_n (ls' := [some (.ref 36), some (.int a1), some (.int a2), some (.int (I 4 0)), none]) rfl (by decide) rfl rfl dX7_lookAt_10 ?_
  refine am_aload_n rfl rfl dX7_lookAt_11 ?_
  refine am_getA (r := 37) dX7_lookAt_12 flX7_9 (Or.inr ⟨_, rfl⟩) rfl (by decide) rfl ?_
  refine am_iload_n rfl rfl dX7_lookAt_15 ?_
  refine am_iload_n rfl rfl dX7_lookAt_16 ?_
  refine am_invS (As := [.ref 37, .int (I 4 0), .int a1]) (lsZ := [some (.ref 37), some (.int (I 4 0)), some (.int a1), none, none, none, none, none, none]) (st := []) dX7_lookAt_17 hX3_fill lkX7_74 ⟨by decide, by decide⟩ rfl rfl (Nat.le_of_ble_eq_true rfl) rfl (Nat.le_of_ble_eq_true rfl) ⟨Nat.le_refl _, Nat.le_refl _⟩ (am_R.mono wp (fun r h' q => am_R.forget q ⟨rfl, ⟨rfl, ⟨rfl, ⟨rfl, trivial⟩⟩⟩⟩))
theorem bX7_lookAt_20 {E : Nat × (Nat → Int32)} {I : Nat → Nat → Int32} {J : Nat → Nat → Int64} {b : Bool} {a1 : Int32} {a2 : Int32} {a3 : Int32} {Q : Option Value → am_H → Prop}  (wp : am_R E mX5_find 0 [some (.ref 23), some (.ref 37), some (.int a2), some (.int 70), none, none] [] (hp I J b) 64 64 (fun r h' => am_R E mX7_lookAt 34 [some (.ref 36), some (.int a1), none, some (.int a3), none] (r.toList ++ []) h' 64 64 Q)) : am_R E mX7_lookAt 20 [some (.ref 36), some (.int a1), some (.int a2), some (.int a3), none] [] (hp I J b) 64 64 Q := by
  refine am_aload_n rfl rfl dX7_lookAt_20 ?_
  refine am_getA (r := 23) dX7_lookAt_21 flX7_25 (Or.inl ⟨_, rfl⟩) rfl (by decide) rfl ?_
  refine am_aload_n rfl rfl dX7_lookAt_24 ?_
  refine am_getA (r := 37) dX7_lookAt_25 flX7_9 (Or.inr ⟨_, rfl⟩) rfl (by decide) rfl ?_
  refine am_iload_n rfl rfl dX7_lookAt_28 ?_
  refine am_bipush 70 rfl dX7_lookAt_29 ?_
  refine am_invV (ci := 3) (As := [.ref 37, .int a2, .int 70]) (lsZ := [some (.ref 23), some (.ref 37), some (.int a2), some (.int 70), none, none]) (st := []) dX7_lookAt_31 hX5_find lkX7_78 ⟨by decide, by decide⟩ (by decide) rfl (by decide) rfl rfl rfl (Nat.le_of_ble_eq_true rfl) rfl (Nat.le_of_ble_eq_true rfl) ⟨Nat.le_refl _, Nat.le_refl _⟩ (am_R.mono wp (fun r h' q => am_R.forget q ⟨rfl, ⟨rfl, ⟨rfl, trivial⟩⟩⟩))
theorem bX7_lookAt_34 {E : Nat × (Nat → Int32)} {I : Nat → Nat → Int32} {J : Nat → Nat → Int64} {b : Bool} {a1 : Int32} {a3 : Int32} {Q : Option Value → am_H → Prop}  (wp : ((¬ (I 23 3) = 0 → am_R E mX7_lookAt 52 [some (.ref 36), none, none, some (.int a3), some (.int 0)] [] (hp I J b) 64 64 Q) ∧ ((I 23 3) = 0 → am_R E mX7_addEnd 0 [some (.ref 36), some (.int a1), none] [] (hp I J b) 64 64 (fun r h' => am_R E mX7_lookAt 49 [some (.ref 36), none, none, some (.int a3), none] (r.toList ++ []) h' 64 64 Q)))) : am_R E mX7_lookAt 34 [some (.ref 36), some (.int a1), none, some (.int a3), none] [] (hp I J b) 64 64 Q := by
  refine am_aload_n rfl rfl dX7_lookAt_34 ?_
  refine am_getA (r := 23) dX7_lookAt_35 flX7_25 (Or.inl ⟨_, rfl⟩) rfl (by decide) rfl ?_
  refine am_getI dX7_lookAt_38 flX7_81 (Or.inl rfl) rfl (by decide) ?_
  refine am_if_ne dX7_lookAt_41 (tgt := 49) rfl (fun hc1 => ?_) (fun hc1 => ?_)
  · have wp := wp.1 hc1
    refine am_iconst 0 rfl dX7_lookAt_49 ?_
    refine am_istore (ls' := [some (.ref 36), some (.int a1), none, some (.int a3), some (.int 0)]) (by decide) rfl rfl dX7_lookAt_50 ?_
    exact am_R.forget wp ⟨rfl, ⟨rfl, ⟨rfl, trivial⟩⟩⟩
  · have wp := wp.2 hc1
    refine am_aload_n rfl rfl dX7_lookAt_44 ?_
    refine am_iload_n rfl rfl dX7_lookAt_45 ?_
    refine am_invV (ci := 5) (As := [.int a1]) (lsZ := [some (.ref 36), some (.int a1), none]) (st := []) dX7_lookAt_46 hX7_addEnd lkX7_84 ⟨by decide, by decide⟩ (by decide) rfl (by decide) rfl rfl rfl (Nat.le_of_ble_eq_true rfl) rfl (Nat.le_of_ble_eq_true rfl) ⟨Nat.le_refl _, Nat.le_refl _⟩ (am_R.mono wp (fun r h' q => am_R.forget q ⟨rfl, ⟨rfl, trivial⟩⟩))
theorem bX7_lookAt_49 {E : Nat × (Nat → Int32)} {I : Nat → Nat → Int32} {J : Nat → Nat → Int64} {b : Bool} {a3 : Int32} {Q : Option Value → am_H → Prop}  (wp : am_R E mX7_lookAt 52 [some (.ref 36), none, none, some (.int a3), some (.int 0)] [] (hp I J b) 64 64 Q) : am_R E mX7_lookAt 49 [some (.ref 36), none, none, some (.int a3), none] [] (hp I J b) 64 64 Q := by
  refine am_iconst 0 rfl dX7_lookAt_49 ?_
  refine am_istore (ls' := [some (.ref 36), none, none, some (.int a3), some (.int 0)]) (by decide) rfl rfl dX7_lookAt_50 ?_
  exact am_R.forget wp ⟨rfl, ⟨rfl, ⟨rfl, trivial⟩⟩⟩
theorem bX7_lookAt_52 {E : Nat × (Nat → Int32)} {I : Nat → Nat → Int32} {J : Nat → Nat → Int64} {b : Bool} {a3 : Int32} {a4 : Int32} {Q : Option Value → am_H → Prop}  (wp : (((I 23 3) ≤ a4 → Q none (hp I J b)) ∧ (¬ (I 23 3) ≤ a4 → am_R E mX5_passFound 0 [some (.ref 23), some (.ref 38), some (.int a4)] [] (hp (u1 I 38 (va_cpy (I 37) (I 38) 0 0 7)) J b) 64 64 (fun r h' => am_R E mX7_lookAt 92 [some (.ref 36), none, none, some (.int a3), some (.int a4)] (r.toList ++ []) h' 64 64 Q)))) : am_R E mX7_lookAt 52 [some (.ref 36), none, none, some (.int a3), some (.int a4)] [] (hp I J b) 64 64 Q := by
  refine am_iload rfl dX7_lookAt_52 ?_
  refine am_aload_n rfl rfl dX7_lookAt_54 ?_
  refine am_getA (r := 23) dX7_lookAt_55 flX7_25 (Or.inl ⟨_, rfl⟩) rfl (by decide) rfl ?_
  refine am_getI dX7_lookAt_58 flX7_81 (Or.inl rfl) rfl (by decide) ?_
  refine am_icmp_ge dX7_lookAt_61 (tgt := 110) rfl (fun hc1 => ?_) (fun hc1 => ?_)
  · have wp := wp.1 hc1
    exact am_vret dX7_lookAt_110 rfl wp
  · have wp := wp.2 hc1
    refine am_aload_n rfl rfl dX7_lookAt_64 ?_
    refine am_getA (r := 37) dX7_lookAt_65 flX7_9 (Or.inr ⟨_, rfl⟩) rfl (by decide) rfl ?_
    refine am_iconst 0 rfl dX7_lookAt_68 ?_
    refine am_aload_n rfl rfl dX7_lookAt_69 ?_
    refine am_getA (r := 38) dX7_lookAt_70 flX7_15 (Or.inr ⟨_, rfl⟩) rfl (by decide) rfl ?_
    refine am_iconst 0 rfl dX7_lookAt_73 ?_
    refine am_bipush 7 rfl dX7_lookAt_74 ?_
    refine am_copyN (s0 := 0) (d0 := 0) (x0 := 7) dX7_lookAt_76 lkX7_87 kn_copy rfl rfl (by decide) (by decide) rfl rfl rfl (by decide) (by decide) (by decide) (Nat.le_of_ble_eq_true rfl) (by decide) ?_
    show am_R E mX7_lookAt 79 [some (.ref 36), none, none, some (.int a3), some (.int a4)] [] (hp (u1 I 38 (va_cpy (I 37) (I 38) 0 0 7)) J b) 64 64 Q
    refine am_aload_n rfl rfl dX7_lookAt_79 ?_
    refine am_getA (r := 23) dX7_lookAt_80 flX7_25 (Or.inl ⟨_, rfl⟩) rfl (by decide) rfl ?_
    refine am_aload_n rfl rfl dX7_lookAt_83 ?_
    refine am_getA (r := 38) dX7_lookAt_84 flX7_15 (Or.inr ⟨_, rfl⟩) rfl (by decide) rfl ?_
    refine am_iload rfl dX7_lookAt_87 ?_
    refine am_invV (ci := 3) (As := [.ref 38, .int a4]) (lsZ := [some (.ref 23), some (.ref 38), some (.int a4)]) (st := []) dX7_lookAt_89 hX5_passFound lkX7_93 ⟨by decide, by decide⟩ (by decide) rfl (by decide) rfl rfl rfl (Nat.le_of_ble_eq_true rfl) rfl (Nat.le_of_ble_eq_true rfl) ⟨Nat.le_refl _, Nat.le_refl _⟩ (am_R.mono wp (fun r h' q => am_R.forget q ⟨rfl, ⟨rfl, ⟨rfl, trivial⟩⟩⟩))
theorem bX7_lookAt_92 {E : Nat × (Nat → Int32)} {I : Nat → Nat → Int32} {J : Nat → Nat → Int64} {b : Bool} {a3 : Int32} {a4 : Int32} {Q : Option Value → am_H → Prop}  (wp : am_R E mX3_numberOf 0 [some (.ref 38), some (.int a3), none, none, none, none] [] (hp I J b) 64 64 (fun r h' => am_R E mX7_lookAt 101 [some (.ref 36), none, none, some (.int a3), some (.int a4)] (r.toList ++ [.ref 36]) h' 64 64 Q)) : am_R E mX7_lookAt 92 [some (.ref 36), none, none, some (.int a3), some (.int a4)] [] (hp I J b) 64 64 Q := by
  refine am_aload_n rfl rfl dX7_lookAt_92 ?_
  refine am_aload_n rfl rfl dX7_lookAt_93 ?_
  refine am_getA (r := 38) dX7_lookAt_94 flX7_15 (Or.inr ⟨_, rfl⟩) rfl (by decide) rfl ?_
  refine am_iload_n rfl rfl dX7_lookAt_97 ?_
  refine am_invS (As := [.ref 38, .int a3]) (lsZ := [some (.ref 38), some (.int a3), none, none, none, none]) (st := [.ref 36]) dX7_lookAt_98 hX3_numberOf lkX7_50 ⟨by decide, by decide⟩ rfl rfl (Nat.le_of_ble_eq_true rfl) rfl (Nat.le_of_ble_eq_true rfl) ⟨Nat.le_refl _, Nat.le_refl _⟩ (am_R.mono wp (fun r h' q => am_R.forget q ⟨rfl, ⟨rfl, ⟨rfl, trivial⟩⟩⟩))
theorem bX7_lookAt_101 {E : Nat × (Nat → Int32)} {I : Nat → Nat → Int32} {J : Nat → Nat → Int64} {b : Bool} {a3 : Int32} {a4 : Int32} {x0 : Int32} {Q : Option Value → am_H → Prop}  (wp : am_R E mX7_reach 0 [some (.ref 36), some (.int x0), none, none] [] (hp I J b) 64 64 (fun r h' => am_R E mX7_lookAt 104 [some (.ref 36), none, none, some (.int a3), some (.int a4)] (r.toList ++ []) h' 64 64 Q)) : am_R E mX7_lookAt 101 [some (.ref 36), none, none, some (.int a3), some (.int a4)] [.int x0, .ref 36] (hp I J b) 64 64 Q := by
  refine am_invV (ci := 5) (As := [.int x0]) (lsZ := [some (.ref 36), some (.int x0), none, none]) (st := []) dX7_lookAt_101 hX7_reach lkX7_56 ⟨by decide, by decide⟩ (by decide) rfl (by decide) rfl rfl rfl (Nat.le_of_ble_eq_true rfl) rfl (Nat.le_of_ble_eq_true rfl) ⟨Nat.le_refl _, Nat.le_refl _⟩ (am_R.mono wp (fun r h' q => am_R.forget q ⟨rfl, ⟨rfl, ⟨rfl, trivial⟩⟩⟩))
theorem bX7_lookAt_104 {E : Nat × (Nat → Int32)} {I : Nat → Nat → Int32} {J : Nat → Nat → Int64} {b : Bool} {a3 : Int32} {a4 : Int32} {Q : Option Value → am_H → Prop}  (wp : am_R E mX7_lookAt 52 [some (.ref 36), none, none, some (.int a3), some (.int (a4 + 1))] [] (hp I J b) 64 64 Q) : am_R E mX7_lookAt 104 [some (.ref 36), none, none, some (.int a3), some (.int a4)] [] (hp I J b) 64 64 Q := by
  refine am_iinc (ls' := [some (.ref 36), none, none, some (.int a3), some (.int (a4 + 1))]) (by decide) rfl rfl rfl dX7_lookAt_104 ?_
  refine am_goto dX7_lookAt_107 (tgt := 52) rfl ?_
  exact am_R.forget wp ⟨rfl, ⟨rfl, ⟨rfl, trivial⟩⟩⟩
theorem tX7_lookAt {a1 a2 : Int32} {c by' : Nat} {S W : Nat → Bool} {best : Option Nat} (hC : CH I n) (hL : Lk I) (hc : c < fct n) (ec : a1 = nI c) (hb : by' = 0 ∨ by' = 2 ∨ by' = 3) (eb : a2 = nI by') (hB : ∀ x, best = some x → x < fct n) (e6 : I 36 6 = gI (gdI I n) best) (e7 : I 36 7 = oI best) (hR : Rp J S W) (k : ∀ I' J', Ag eS I I' → Rp J' ((scI I n by' c).foldl aSW (S, W)).1 ((scI I n by' c).foldl aSW (S, W)).2 → (enI I n by' c = true → I' 36 5 = I 36 5 + 1 ∧ I' 36 6 = gI (gdI I n) (ub (gdI I n) best c) ∧ I' 36 7 = oI (ub (gdI I n) best c)) → (enI I n by' c = false → I' 36 = I 36) → Q none (hp I' J' b)) : am_R E mX7_lookAt 0 [some (.ref 36), some (.int a1), some (.int a2), none, none] [] (hp I J b) 64 64 Q := by
  subst ec; subst eb
  have h7 := hC.2.1.2
  have h2 := hC.2.1.1
  have hfl := fct_le n (by omega)
  have hup := ur_pm h7 hc
  refine bX7_lookAt_0 ?_
  rw [hC.1]
  refine tX3_fill (n := n) rc37 h2 h7 rfl rfl hc (fun f hf => bX7_lookAt_20 ?_)
  have hC1 : CH (u1 I 37 f) n := hC.row rc37 f
  refine tX5_find (M := 70) (n := n) (p := ur n c) rc37 hC1 (by rw [u1_s]; exact hf) hb rfl rfl (by omega) (fun F hF => bX7_lookAt_34 ?_)
  rw [tk_70 h7, wl_eq (I := I) (I' := u1 I 37 f) rfl rfl rfl (fun _ => rfl)] at hF ⊢
  have h70 := wl_70 (I := I) (by' := by') (p := ur n c) h7
  have hwc : ∀ w, w ∈ wl I n by' (ur n c) 448 → wc I n by' (ur n c) w := fun w h => wl_wc h
  have e23 : ∀ (I1 : Nat → Nat → Int32) (x : Int32), fh I1 F x 23 3 = x := fun _ _ => rfl
  -- the loop over what was found
  have loop : ∀ (R pre : List Nat) (I1 : Nat → Nat → Int32) (J1 : Nat → Nat → Int64) (q : (Nat → Bool) × (Nat → Bool)), pre ++ R = wl I n by' (ur n c) 448 → Ag eS I I1 → I1 23 3 = nI (wl I n by' (ur n c) 448).length → I1 25 = F → Rw (I1 37) (ur n c) n → Rp J1 q.1 q.2 → (∀ I' J', Ag eS I I' → I' 36 = I1 36 → Rp J' ((R.map (fun w => rk n (nx by' (ur n c) w))).foldl aSW q).1 ((R.map (fun w => rk n (nx by' (ur n c) w))).foldl aSW q).2 → Q none (hp I' J' b)) → am_R E mX7_lookAt 52 [some (.ref 36), none, none, some (.int (nI n)), some (.int (nI pre.length))] [] (hp I1 J1 b) 64 64 Q := by
    intro R
    induction R with
    | nil =>
      intro pre I1 J1 q he hA e3 e25 hR37 hRp kk
      rw [List.append_nil] at he
      rw [← he] at e3
      exact bX7_lookAt_52 (le_br (n := pre.length) e3 rfl (by rw [he]; omega) (by rw [he]; omega) (fun _ => kk I1 J1 hA rfl hRp) (fun z => by omega))
    | cons w R ih =>
      intro pre I1 J1 q he hA e3 e25 hR37 hRp kk
      have hlen : (wl I n by' (ur n c) 448).length = pre.length + (R.length + 1) := by rw [← he, List.length_append, List.length_cons]
      have hat : (wl I n by' (ur n c) 448)[pre.length]? = some w := by rw [← he, List.getElem?_append_right (Nat.le_refl _), Nat.sub_self]; rfl
      have hw := hwc w (by rw [← he]; simp)
      have hpm := hup.nxt hw
      refine bX7_lookAt_52 (le_br (n := (wl I n by' (ur n c) 448).length) e3 rfl (by omega) (by omega) (fun z => by omega) (fun _ => ?_))
      -- the row is copied
      have eI : u1 I1 38 (va_cpy (I1 37) (I1 38) 0 0 7) = fh (u1 I1 38 (va_cpy (I1 37) (I1 38) 0 0 7)) F (I1 23 3) := by
        have := fh_self (u1 I1 38 (va_cpy (I1 37) (I1 38) 0 0 7))
        rw [u1_n _ _ (by decide), u1_n _ _ (by decide), e25] at this
        exact this.symm
      rw [eI]
      have hcp : Rw (va_cpy (I1 37) (I1 38) 0 0 7) (ur n c) n := fun m hm => ⟨hR37.cpy h7 m hm, hup.1 m hm⟩
      have h49 := hA 49 (by decide)
      have h50 := hA 50 (by decide)
      have h51 := hA 51 (by decide)
      have h55 : ∀ m, I1 55 (8 + m) = I 55 (8 + m) := fun m => by rw [hA 55 (by decide)]
      have hw1 : wc (u1 I1 38 (va_cpy (I1 37) (I1 38) 0 0 7)) n by' (ur n c) w := by
        rw [wc_row rc38, wc_eq h49 h50 h51 h55]; exact hw
      refine tX5_passFound (I := u1 I1 38 (va_cpy (I1 37) (I1 38) 0 0 7)) (n := n) (by' := by') (i := pre.length) (c := w) (p := ur n c) rc38 h7 rfl (by omega) (hF _ w hat) hw1 (bX7_lookAt_92 ?_)
      rw [u1_u1, u1_s]
      generalize hG : (if by' = 2 then sw2 (va_cpy (I1 37) (I1 38) 0 0 7) (w / 64) (w / 8 % 8) else sw3 (va_cpy (I1 37) (I1 38) 0 0 7) (w / 64) (w / 8 % 8) (w % 8)) = G
      have hRG : Rw G (nx by' (ur n c) w) n := by rw [← hG]; exact Rw.nx (I := I) hcp hw
      have hA2 : Ag eS I (fh (u1 I1 38 G) F (I1 23 3)) := (hA.u1 (by decide)).fh (by decide) (by decide)
      refine tX3_numberOf (n := n) (p := nx by' (ur n c) w) rc38 h7 rfl (by rw [fh_r _ rc38, u1_s]; exact hRG) hpm (bX7_lookAt_101 ?_)
      have hrl : rk n (nx by' (ur n c) w) < fct n := rk_lt
      refine tX7_reach (S := q.1) (W := q.2) rfl (by omega) hRp (fun J2 hR2 => bX7_lookAt_104 ?_)
      rw [n1]
      have := ih (pre ++ [w]) (fh (u1 I1 38 G) F (I1 23 3)) J2 (aSW q (rk n (nx by' (ur n c) w))) (by rw [← he]; simp) hA2 e3 rfl (by rw [fh_r _ rc37, u1_n _ _ (by decide)]; exact hR37) hR2 (fun I' J' a1 a2 a3 => kk I' J' a1 (a2.trans (by rw [fh_n _ (by decide) (by decide)]; exact u1_n _ _ (by decide))) a3)
      rw [List.length_append, List.length_singleton] at this
      exact this
  have hAg : ∀ x, Ag eS I (fh (u1 I 37 f) F x) := fun x => ((Ag.rf eS I).u1 (by decide)).fh (by decide) (by decide)
  have h37 : ∀ x, Rw (fh (u1 I 37 f) F x 37) (ur n c) n := fun x => by rw [fh_r _ rc37, u1_s]; exact hf
  refine ne_br (n := (wl I n by' (ur n c) 448).length) (m := 0) (e23 _ _) rfl (by omega) (by omega) (fun z => ?_) (fun z => ?_)
  · have hnil : wl I n by' (ur n c) 448 = [] := List.length_eq_zero_iff.mp z
    have hen : enI I n by' c = true := by unfold enI; rw [hnil]; rfl
    have hsc : scI I n by' c = [] := by unfold scI; rw [hnil]; rfl
    have hC2 : CH (fh (u1 I 37 f) F (nI (wl I n by' (ur n c) 448).length)) n := hC1.fh _ _
    refine tX7_addEnd (I := fh (u1 I 37 f) F (nI (wl I n by' (ur n c) 448).length)) (n := n) (c := c) (best := best) hC2 hL hc rfl (h37 _) hB e6 e7 (fun I2 hA2 k5 k6 k7 => bX7_lookAt_49 ?_)
    have := loop [] [] I2 J (S, W) (by rw [hnil]; rfl) ((hAg _).tr (hA2.mono (by decide))) (by rw [hA2 23 (by decide)]; rfl) (by rw [hA2 25 (by decide)]; rfl) (by rw [hA2 37 (by decide)]; exact h37 _) hR (fun I' J' a1 a2 a3 => k I' J' a1 (by rw [hsc]; exact a3) (fun _ => by rw [a2]; exact ⟨k5, k6, k7⟩) (fun q => by rw [hen] at q; cases q))
    exact this
  · have hen : enI I n by' c = false := by
      unfold enI
      cases hl : wl I n by' (ur n c) 448 with
      | nil => rw [hl] at z; exact absurd rfl z
      | cons a L => rfl
    exact loop (wl I n by' (ur n c) 448) [] _ J (S, W) rfl (hAg _) rfl rfl (h37 _) hR (fun I' J' a1 a2 a3 => k I' J' a1 a3 (fun q => by rw [hen] at q; cases q) (fun _ => by rw [a2]; rfl))
theorem bX7_from_0 {E : Nat × (Nat → Int32)} {I : Nat → Nat → Int32} {J : Nat → Nat → Int64} {b : Bool} {a2 : Int32} {Q : Option Value → am_H → Prop}  (wp : am_R E mX7_from 17 [some (.ref 36), some (.ref 10), some (.int a2), some (.int 0), none] [] (hp (u2 (u2 (u2 I 36 5 0) 36 6 (-1)) 36 7 (-1)) J b) 64 64 Q) : am_R E mX7_from 0 [some (.ref 36), some (.ref 10), some (.int a2), none, none] [] (hp I J b) 64 64 Q := by
  refine am_aload_n rfl rfl dX7_from_0 ?_
  refine am_iconst 0 rfl dX7_from_1 ?_
  refine am_putI dX7_from_2 flX7_29 (Or.inl rfl) rfl rfl (by decide) ?_
  refine am_aload_n rfl rfl dX7_from_5 ?_
  refine am_iconst (-1) rfl dX7_from_6 ?_
  refine am_putI dX7_from_7 flX7_33 (Or.inl rfl) rfl rfl (by decide) ?_
  refine am_aload_n rfl rfl dX7_from_10 ?_
  refine am_iconst (-1) rfl dX7_from_11 ?_
  refine am_putI dX7_from_12 flX7_36 (Or.inl rfl) rfl rfl (by decide) ?_
  refine am_iconst 0 rfl dX7_from_15 ?_
  refine am_istore_n (ls' := [some (.ref 36), some (.ref 10), some (.int a2), some (.int 0), none]) rfl (by decide) rfl rfl dX7_from_16 ?_
  exact am_R.forget wp ⟨rfl, ⟨rfl, ⟨rfl, ⟨rfl, trivial⟩⟩⟩⟩
theorem bX7_from_17 {E : Nat × (Nat → Int32)} {I : Nat → Nat → Int32} {J : Nat → Nat → Int64} {b : Bool} {a2 : Int32} {a3 : Int32} {Q : Option Value → am_H → Prop}  (wp : ((79 ≤ a3 → am_R E mX3_numberOf 0 [some (.ref 10), some (.int (I 4 0)), none, none, none, none] [] (hp I J b) 64 64 (fun r h' => am_R E mX7_from 58 [some (.ref 36), none, some (.int a2), none, none] (r.toList ++ [.ref 36]) h' 64 64 Q)) ∧ (¬ 79 ≤ a3 → ∃ j2, a3 = nI j2 ∧ j2 < 79 ∧ am_R E mX7_from 17 [some (.ref 36), some (.ref 10), some (.int a2), some (.int (a3 + 1)), none] [] (hp I (v2 (v2 J 39 j2 0) 40 j2 0) b) 64 64 Q))) : am_R E mX7_from 17 [some (.ref 36), some (.ref 10), some (.int a2), some (.int a3), none] [] (hp I J b) 64 64 Q := by
  refine am_iload_n rfl rfl dX7_from_17 ?_
  refine am_bipush 79 rfl dX7_from_18 ?_
  refine am_icmp_ge dX7_from_20 (tgt := 43) rfl (fun hc1 => ?_) (fun hc1 => ?_)
  · have wp := wp.1 hc1
    refine am_aload_n rfl rfl dX7_from_43 ?_
    refine am_aload_n rfl rfl dX7_from_44 ?_
    refine am_aload_n rfl rfl dX7_from_45 ?_
    refine am_getA (r := 23) dX7_from_46 flX7_25 (Or.inl ⟨_, rfl⟩) rfl (by decide) rfl ?_
    refine am_getA (r := 4) dX7_from_49 flX7_39 (Or.inl ⟨_, rfl⟩) rfl (by decide) rfl ?_
    refine am_getI dX7_from_52 flX7_45 (Or.inl rfl) rfl (by decide) ?_
    refine am_invS (As := [.ref 10, .int (I 4 0)]) (lsZ := [some (.ref 10), some (.int (I 4 0)), none, none, none, none]) (st := [.ref 36]) dX7_from_55 hX3_numberOf lkX7_50 ⟨by decide, by decide⟩ rfl rfl (Nat.le_of_ble_eq_true rfl) rfl (Nat.le_of_ble_eq_true rfl) ⟨Nat.le_refl _, Nat.le_refl _⟩ (am_R.mono wp (fun r h' q => am_R.forget q ⟨rfl, ⟨rfl, trivial⟩⟩))
  · have wp := wp.2 hc1
    refine am_aload_n rfl rfl dX7_from_23 ?_
    refine am_getA (r := 39) dX7_from_24 flX7_18 (Or.inr ⟨_, rfl⟩) rfl (by decide) rfl ?_
    refine am_iload_n rfl rfl dX7_from_27 ?_
    refine am_lconst 0 rfl dX7_from_28 ?_
    obtain ⟨j2, e2, w2, wp⟩ := wp
    refine am_lastN (j := j2) dX7_from_29 rfl (by decide) e2 w2 (by decide) ?_
    refine am_aload_n rfl rfl dX7_from_30 ?_
    refine am_getA (r := 40) dX7_from_31 flX7_22 (Or.inr ⟨_, rfl⟩) rfl (by decide) rfl ?_
    refine am_iload_n rfl rfl dX7_from_34 ?_
    refine am_lconst 0 rfl dX7_from_35 ?_
    refine am_lastN (j := j2) dX7_from_36 rfl (by decide) e2 w2 (by decide) ?_
    refine am_iinc (ls' := [some (.ref 36), some (.ref 10), some (.int a2), some (.int (a3 + 1)), none]) (by decide) rfl rfl rfl dX7_from_37 ?_
    refine am_goto dX7_from_40 (tgt := 17) rfl ?_
    exact am_R.forget wp ⟨rfl, ⟨rfl, ⟨rfl, ⟨rfl, trivial⟩⟩⟩⟩
theorem bX7_from_58 {E : Nat × (Nat → Int32)} {I : Nat → Nat → Int32} {J : Nat → Nat → Int64} {b : Bool} {a2 : Int32} {x0 : Int32} {Q : Option Value → am_H → Prop}  (wp : am_R E mX7_reach 0 [some (.ref 36), some (.int x0), none, none] [] (hp I J b) 64 64 (fun r h' => am_R E mX7_from 61 [some (.ref 36), none, some (.int a2), none, none] (r.toList ++ []) h' 64 64 Q)) : am_R E mX7_from 58 [some (.ref 36), none, some (.int a2), none, none] [.int x0, .ref 36] (hp I J b) 64 64 Q := by
  refine am_invV (ci := 5) (As := [.int x0]) (lsZ := [some (.ref 36), some (.int x0), none, none]) (st := []) dX7_from_58 hX7_reach lkX7_56 ⟨by decide, by decide⟩ (by decide) rfl (by decide) rfl rfl rfl (Nat.le_of_ble_eq_true rfl) rfl (Nat.le_of_ble_eq_true rfl) ⟨Nat.le_refl _, Nat.le_refl _⟩ (am_R.mono wp (fun r h' q => am_R.forget q ⟨rfl, ⟨rfl, trivial⟩⟩))
theorem bX7_from_61 {E : Nat × (Nat → Int32)} {I : Nat → Nat → Int32} {J : Nat → Nat → Int64} {b : Bool} {a2 : Int32} {Q : Option Value → am_H → Prop}  (wp : am_R E mX7_from 63 [some (.ref 36), none, some (.int a2), some (.int 0), none] [] (hp I J b) 64 64 Q) : am_R E mX7_from 61 [some (.ref 36), none, some (.int a2), none, none] [] (hp I J b) 64 64 Q := by
  refine am_iconst 0 rfl dX7_from_61 ?_
  refine am_istore_n (ls' := [some (.ref 36), none, some (.int a2), some (.int 0), none]) rfl (by decide) rfl rfl dX7_from_62 ?_
  exact am_R.forget wp ⟨rfl, ⟨rfl, ⟨rfl, trivial⟩⟩⟩
theorem bX7_from_63 {E : Nat × (Nat → Int32)} {I : Nat → Nat → Int32} {J : Nat → Nat → Int64} {b : Bool} {a2 : Int32} {a3 : Int32} {Q : Option Value → am_H → Prop}  (wp : ((5040 ≤ a3 → Q none (hp I J b)) ∧ (¬ 5040 ≤ a3 → am_R E mX7_takeWaiting 0 [some (.ref 36), none, none] [] (hp I J b) 64 64 (fun r h' => am_R E mX7_from 74 [some (.ref 36), none, some (.int a2), some (.int a3), none] (r.toList ++ []) h' 64 64 Q)))) : am_R E mX7_from 63 [some (.ref 36), none, some (.int a2), some (.int a3), none] [] (hp I J b) 64 64 Q := by
  refine am_iload_n rfl rfl dX7_from_63 ?_
  refine am_sipush 5040 rfl dX7_from_64 ?_
  refine am_icmp_ge dX7_from_67 (tgt := 96) rfl (fun hc1 => ?_) (fun hc1 => ?_)
  · have wp := wp.1 hc1
    exact am_vret dX7_from_96 rfl wp
  · have wp := wp.2 hc1
    refine am_aload_n rfl rfl dX7_from_70 ?_
    refine am_invV (ci := 5) (As := []) (lsZ := [some (.ref 36), none, none]) (st := []) dX7_from_71 hX7_takeWaiting lkX7_60 ⟨by decide, by decide⟩ (by decide) rfl (by decide) rfl rfl rfl (Nat.le_of_ble_eq_true rfl) rfl (Nat.le_of_ble_eq_true rfl) ⟨Nat.le_refl _, Nat.le_refl _⟩ (am_R.mono wp (fun r h' q => am_R.forget q ⟨rfl, ⟨rfl, ⟨rfl, trivial⟩⟩⟩))
theorem bX7_from_74 {E : Nat × (Nat → Int32)} {I : Nat → Nat → Int32} {J : Nat → Nat → Int64} {b : Bool} {a2 : Int32} {a3 : Int32} {x0 : Int32} {Q : Option Value → am_H → Prop}  (wp : ((¬ x0 = (-1) → am_R E mX7_lookAt 0 [some (.ref 36), some (.int x0), some (.int a2), none, none] [] (hp I J b) 64 64 (fun r h' => am_R E mX7_from 90 [some (.ref 36), none, some (.int a2), some (.int a3), none] (r.toList ++ []) h' 64 64 Q)) ∧ (x0 = (-1) → Q none (hp I J b)))) : am_R E mX7_from 74 [some (.ref 36), none, some (.int a2), some (.int a3), none] [.int x0] (hp I J b) 64 64 Q := by
  refine am_istore (ls' := [some (.ref 36), none, some (.int a2), some (.int a3), some (.int x0)]) (by decide) rfl rfl dX7_from_74 ?_
  refine am_iload rfl dX7_from_76 ?_
  refine am_iconst (-1) rfl dX7_from_78 ?_
  refine am_icmp_ne dX7_from_79 (tgt := 83) rfl (fun hc1 => ?_) (fun hc1 => ?_)
  · have wp := wp.1 hc1
    refine am_aload_n rfl rfl dX7_from_83 ?_
    refine am_iload rfl dX7_from_84 ?_
    refine am_iload_n rfl rfl dX7_from_86 ?_
    refine am_invV (ci := 5) (As := [.int x0, .int a2]) (lsZ := [some (.ref 36), some (.int x0), some (.int a2), none, none]) (st := []) dX7_from_87 hX7_lookAt lkX7_64 ⟨by decide, by decide⟩ (by decide) rfl (by decide) rfl rfl rfl (Nat.le_of_ble_eq_true rfl) rfl (Nat.le_of_ble_eq_true rfl) ⟨Nat.le_refl _, Nat.le_refl _⟩ (am_R.mono wp (fun r h' q => am_R.forget q ⟨rfl, ⟨rfl, ⟨rfl, trivial⟩⟩⟩))
  · have wp := wp.2 hc1
    exact am_vret dX7_from_82 rfl wp
theorem bX7_from_90 {E : Nat × (Nat → Int32)} {I : Nat → Nat → Int32} {J : Nat → Nat → Int64} {b : Bool} {a2 : Int32} {a3 : Int32} {Q : Option Value → am_H → Prop}  (wp : am_R E mX7_from 63 [some (.ref 36), none, some (.int a2), some (.int (a3 + 1)), none] [] (hp I J b) 64 64 Q) : am_R E mX7_from 90 [some (.ref 36), none, some (.int a2), some (.int a3), none] [] (hp I J b) 64 64 Q := by
  refine am_iinc (ls' := [some (.ref 36), none, some (.int a2), some (.int (a3 + 1)), none]) (by decide) rfl rfl rfl dX7_from_90 ?_
  refine am_goto dX7_from_93 (tgt := 63) rfl ?_
  exact am_R.forget wp ⟨rfl, ⟨rfl, ⟨rfl, trivial⟩⟩⟩
theorem tX7_from {a2 : Int32} {by' : Nat} {p : Nat → Nat} (hC : CH I n) (hL : Lk I) (hb : by' = 0 ∨ by' = 2 ∨ by' = 3) (eb : a2 = nI by') (hR : Rw (I 10) p n) (hp' : Pm p n) (k : ∀ I' J', Ag eS I I' → Fin (fct n) (scI I n by') (enI I n by') (gdI I n) (rk n p) (I' 36 5) (I' 36 6) (I' 36 7) → Q none (hp I' J' b)) : am_R E mX7_from 0 [some (.ref 36), some (.ref 10), some (.int a2), none, none] [] (hp I J b) 64 64 Q := by
  subst eb
  have h7 := hC.2.1.2
  have hfl := fct_le n (by omega)
  have r10 : rowc 10 := Or.inl rfl
  have hrl : rk n p < fct n := rk_lt
  have hscl : ∀ c, c < fct n → ∀ d, d ∈ scI I n by' c → d < fct n := fun c _ d hd => sc_lt hd
  -- the looks
  have loop : ∀ j m, m + j = 5040 → ∀ (I1 : Nat → Nat → Int32) (J1 : Nat → Nat → Int64) (S W : Nat → Bool), Ag eS I I1 → Rp J1 S W → KI (fct n) (scI I n by') (rk n p) S W → KT (fct n) (enI I n by') (gdI I n) S W (I1 36 5) (I1 36 6) (I1 36 7) → fb_ct (fun c => S c && !W c) (fct n) = m → am_R E mX7_from 63 [some (.ref 36), none, some (.int (nI by')), some (.int (nI m)), none] [] (hp I1 J1 b) 64 64 Q := by
    intro j
    induction j with
    | zero =>
      intro m hm I1 J1 S W hA hRp hK hT hct
      have e : m = 5040 := by omega
      subst e
      refine bX7_from_63 (le_br (n := 5040) rfl rfl (by omega) (by omega) (fun _ => k I1 J1 hA (hK.fin hT (fun c => ?_))) (fun z => by omega))
      have hle := fb_ct_le (fun c => S c && !W c) (fct n)
      have hall := fb_ct_all.mp (show fb_ct (fun c => S c && !W c) (fct n) = fct n by omega)
      cases hw : W c with
      | false => rfl
      | true =>
        have := hall c (hK.1 c (hK.2.1 c hw))
        rw [hw] at this
        simp at this
    | succ j ih =>
      intro m hm I1 J1 S W hA hRp hK hT hct
      refine bX7_from_63 (le_br (n := 5040) rfl rfl (by omega) (by omega) (fun z => by omega) (fun _ => ?_))
      refine tX7_takeWaiting hRp (fun hw => bX7_from_74 ⟨fun q => absurd rfl q, fun _ => k I1 J1 hA (hK.fin hT (fun c => ?_))⟩) (fun c J2 hc hWc hR2 => ?_)
      · cases hw2 : W c with
        | false => rfl
        | true =>
          have h1 := hK.1 c (hK.2.1 c hw2)
          rw [hw c (by omega)] at hw2
          cases hw2
      · have hSc := hK.2.1 c hWc
        have hcl := hK.1 c hSc
        have nm : ¬ nI c = (-1 : Int32) := fun q => by have := m1_lt (v := c) (by omega); rw [q] at this; exact absurd this (by decide)
        refine bX7_from_74 ⟨fun _ => ?_, fun q => absurd q nm⟩
        obtain ⟨g1, g2, g3⟩ := graph_eq (I := I) (I' := I1) (hA 49 (by decide)) (hA 50 (by decide)) (hA 51 (by decide)) (fun m => by rw [hA 55 (by decide)])
        have hC1 : CH I1 n := by
          rw [CH_eq (hA 4 (by decide)) (hA 5 (by decide)) (hA 6 (by decide)) (hA 24 (by decide)) (hA 49 (by decide)) (hA 50 (by decide)) (hA 51 (by decide)) (fun m => by rw [hA 55 (by decide)])]; exact hC
        have hL1 : Lk I1 := by unfold Lk; rw [hA 50 (by decide)]; exact hL
        have hT0 := hT
        obtain ⟨t1, best, t2, t3, t4⟩ := hT
        have hB : ∀ x, best = some x → x < fct n := fun x hx => by
          subst hx
          have := (Bool.and_eq_true_iff.mp t2.1.1).1
          exact hK.1 x this
        obtain ⟨ks1, ks2⟩ := hK.step hWc hscl
        have hSW : (S c && !W c) = false := by rw [hWc]; simp
        have hts := hT0.step (S' := ((scI I n by' c).foldl aSW (S, fun x => W x && decide (x ≠ c))).1) (W' := ((scI I n by' c).foldl aSW (S, fun x => W x && decide (x ≠ c))).2) hcl hSW ks2
        refine tX7_lookAt (I := I1) (J := J2) (n := n) (c := c) (by' := by') (S := S) (W := fun x => W x && decide (x ≠ c)) (best := best) hC1 hL1 hcl rfl hb rfl hB (by rw [g3]; exact t3) t4 hR2 (fun I2 J3 hA2 hR3 kE kN => bX7_from_90 ?_)
        rw [g1] at hR3
        rw [g2, g3] at kE
        rw [g2] at kN
        rw [n1]
        refine ih (m + 1) (by omega) I2 J3 _ _ (hA.tr hA2) hR3 ks1 ?_ ?_
        · cases hen : enI I n by' c with
          | true =>
            obtain ⟨x1, x2, x3⟩ := kE hen
            rw [x1, x2, x3]
            exact hts.2 hen best t2 t3 t4
          | false =>
            rw [kN hen]
            exact hts.1 hen
        · have up := fb_ct_upd (fun c => S c && !W c) true hcl
          rw [hSW] at up
          simp only [Bool.false_eq_true, if_false, if_true] at up
          have ec : fb_ct (fun x => ((scI I n by' c).foldl aSW (S, fun x => W x && decide (x ≠ c))).1 x && !((scI I n by' c).foldl aSW (S, fun x => W x && decide (x ≠ c))).2 x) (fct n) = fb_ct (fun k => if k = c then true else (S k && !W k)) (fct n) := fb_ct_cong (fun x _ => ks2 x)
          rw [ec]
          omega
  refine bX7_from_0 ?_
  generalize hG : u2 (u2 (u2 I 36 5 0) 36 6 (-1)) 36 7 (-1) = G
  have hA : Ag eS I G := by rw [← hG]; exact (((Ag.rf eS I).u2 (by decide)).u2 (by decide)).u2 (by decide)
  have g5 : G 36 5 = 0 := by rw [← hG]; rfl
  have g6 : G 36 6 = -1 := by rw [← hG]; rfl
  have g7 : G 36 7 = -1 := by rw [← hG]; rfl
  have zero : ∀ j w, w + j = 79 → ∀ J1 : Nat → Nat → Int64, (∀ x, x < w → J1 39 x = 0 ∧ J1 40 x = 0) → am_R E mX7_from 17 [some (.ref 36), some (.ref 10), some (.int (nI by')), some (.int (nI w)), none] [] (hp G J1 b) 64 64 Q := by
    intro j
    induction j with
    | zero =>
      intro w hw J1 hz
      have e : w = 79 := by omega
      subst e
      refine bX7_from_17 (le_br (n := 79) rfl rfl (by omega) (by omega) (fun _ => ?_) (fun z => by omega))
      refine tX3_numberOf (n := n) (p := p) r10 h7 (by rw [hA 4 (by decide)]; exact hC.1) (by rw [hA 10 (by decide)]; exact hR) hp' (bX7_from_58 ?_)
      have hR0 : Rp J1 (fun _ => false) (fun _ => false) := fun d hd => by
        obtain ⟨z1, z2⟩ := hz (d / 64) (by omega)
        rw [z1, z2, bj_0]
        exact ⟨rfl, rfl⟩
      refine tX7_reach rfl (by omega) hR0 (fun J2 hR2 => bX7_from_61 ?_)
      refine loop 5040 0 (by omega) G J2 _ _ hA hR2 ⟨fun c hc => ?_, fun c hc => ?_, ?_, fun c hc => ?_, fun c hc hw => ?_⟩ ⟨?_, none, fun c q => ?_, g6, g7⟩ ?_
      · have : c = rk n p := by simpa [aSW] using hc
        rw [this]; exact hrl
      · simpa [aSW] using hc
      · simp [aSW]
      · have : c = rk n p := by simpa [aSW] using hc
        rw [this]; exact Rch.st
      · exfalso
        simp [aSW] at hc hw
        exact hw hc
      · rw [g5]
        have : fb_ct (fun c => ((aSW (fun _ => false, fun _ => false) (rk n p)).1 c && !(aSW (fun _ => false, fun _ => false) (rk n p)).2 c) && enI I n by' c) (fct n) = 0 := fb_ct_zero.mpr (fun x _ => by simp [aSW])
        rw [this]; rfl
      · have := q.1
        simp [aSW] at this
      · exact fb_ct_zero.mpr (fun x _ => by simp [aSW])
    | succ j ih =>
      intro w hw J1 hz
      refine bX7_from_17 (le_br (n := 79) rfl rfl (by omega) (by omega) (fun z => by omega) (fun _ => ⟨w, rfl, by omega, ?_⟩))
      rw [n1]
      refine ih (w + 1) (by omega) _ (fun x hx => ?_)
      rw [v2_n _ _ _ (by decide), v2_s, v2_s, v2_n _ _ _ (by decide)]
      unfold vp_updL
      by_cases e : x = w
      · simp [e]
      · simp only [if_neg e]
        exact hz x (by omega)
  exact zero 79 0 (by omega) J (fun x hx => by omega)
end P16
