/-! ===== settling ===== -/
section M4
variable {E : Nat × (Nat → Int32)} {I : Nat → Nat → Int32} {J : Nat → Nat → Int64} {b : Bool} {Q : Option Value → am_H → Prop}
def Lk (I : Nat → Nat → Int32) : Prop := ∀ j, j < 49 → ∃ v, v ≤ 9 ∧ I 50 j = nI v
def lv (I : Nat → Nat → Int32) (m d : Nat) : Nat := (I 50 (7 * m + d)).toNatClampNeg
def gl (I : Nat → Nat → Int32) (n : Nat) (p : Nat → Nat) : Nat := fb_sm (fun m => lv I m (p m)) n
theorem Lk.lt {m d d' : Nat} (h : Lk I) (hm : m < 7) (hd : d < 7) (hd' : d' < 7) (hl : I 50 (7 * m + d) < I 50 (7 * m + d')) : lv I m d < lv I m d' := by
  obtain ⟨v, h1, h2⟩ := h (7 * m + d) (by omega)
  obtain ⟨w, h3, h4⟩ := h (7 * m + d') (by omega)
  unfold lv
  rw [h2, h4] at hl ⊢
  rw [nI_clamp (by omega), nI_clamp (by omega)]
  exact (nI_ltI (by omega) (by omega)).mp hl
theorem Lk.le {m d : Nat} (h : Lk I) (hm : m < 7) (hd : d < 7) : lv I m d ≤ 9 := by
  obtain ⟨v, h1, h2⟩ := h (7 * m + d) (by omega)
  unfold lv
  rw [h2, nI_clamp (by omega)]
  exact h1
theorem gl_up {n x d : Nat} (p : Nat → Nat) (hx : x < n) : gl I n (va_up p x d) + lv I x (p x) = gl I n p + lv I x d := by
  have u := fb_sm_upd (fun m => lv I m (p m)) (lv I x d) hx
  unfold gl
  rw [← u]
  congr 1
  apply fb_sm_cong
  intro k _
  unfold va_up
  by_cases e : k = x
  · rw [if_pos e, if_pos e, e]
  · rw [if_neg e, if_neg e]
theorem up_n {α : Type} {p : Nat → α} {x y : Nat} {d : α} (h : y ≠ x) : va_up p x d y = p y := if_neg h
theorem up_s {α : Type} {p : Nat → α} {x : Nat} {d : α} : va_up p x d x = d := if_pos rfl
theorem gl_sw2 {n x y : Nat} {p : Nat → Nat} (hx : x < n) (hy : y < n) (hxy : x ≠ y) : gl I n (sw2 p x y) + lv I x (p x) + lv I y (p y) = gl I n p + lv I x (p y) + lv I y (p x) := by
  have h1 := gl_up (I := I) (d := p y) p hx
  have h2 := gl_up (I := I) (d := p x) (va_up p x (p y)) hy
  rw [up_n (Ne.symm hxy)] at h2
  unfold sw2
  omega
theorem gl_sw3 {n x y z : Nat} {p : Nat → Nat} (hx : x < n) (hy : y < n) (hz : z < n) (hxy : x ≠ y) (hxz : x ≠ z) (hyz : y ≠ z) : gl I n (sw3 p x y z) + lv I x (p x) + lv I y (p y) + lv I z (p z) = gl I n p + lv I x (p y) + lv I y (p z) + lv I z (p x) := by
  have h1 := gl_up (I := I) (d := p y) p hx
  have h2 := gl_up (I := I) (d := p z) (va_up p x (p y)) hy
  have h3 := gl_up (I := I) (d := p x) (va_up (va_up p x (p y)) y (p z)) hz
  rw [up_n (Ne.symm hxy)] at h2
  rw [up_n (Ne.symm hyz), up_n (Ne.symm hxz)] at h3
  unfold sw3
  omega
/-- the row behind the ring of a code -/
def nx (by' : Nat) (p : Nat → Nat) (c : Nat) : Nat → Nat := if by' = 2 then sw2 p (c / 64) (c / 8 % 8) else sw3 p (c / 64) (c / 8 % 8) (c % 8)
theorem nx_lt {n by' c : Nat} {p : Nat → Nat} (hp : ∀ m, m < n → p m < n) (hw : wc I n by' p c) : ∀ m, m < n → nx by' p c m < n := by
  intro m hm
  obtain ⟨h1, ⟨h2, h3, h4⟩, h5⟩ := hw
  unfold nx
  rcases h5 with ⟨e, -, -⟩ | ⟨e, ⟨e1, e2, e3⟩, -⟩
  · rw [if_pos e]; unfold sw2 va_up; split
    · exact hp _ h3
    · split
      · exact hp _ h4
      · exact hp _ hm
  · rw [if_neg e]; unfold sw3 va_up; split
    · exact hp _ h3
    · split
      · exact hp _ e3
      · split
        · exact hp _ h4
        · exact hp _ hm
theorem nx_gl {n by' c : Nat} {p : Nat → Nat} (hn : n ≤ 7) (hL : Lk I) (hp : ∀ m, m < n → p m < n) (hw : wc I n by' p c) : gl I n p < gl I n (nx by' p c) := by
  obtain ⟨h1, ⟨h2, h3, h4⟩, h5⟩ := hw
  have px := hp _ h3
  have py := hp _ h4
  unfold nx
  rcases h5 with ⟨e, -, w1, w2⟩ | ⟨e, ⟨e1, e2, e3⟩, w1, w2, w3⟩
  · rw [if_pos e]
    have g1 := hL.lt (by omega) (by omega) (by omega) w1.2
    have g2 := hL.lt (by omega) (by omega) (by omega) w2.2
    have g3 := gl_sw2 (I := I) (p := p) h3 h4 (by omega)
    omega
  · rw [if_neg e]
    have pz := hp _ e3
    have g1 := hL.lt (by omega) (by omega) (by omega) w1.2
    have g2 := hL.lt (by omega) (by omega) (by omega) w2.2
    have g4 := hL.lt (by omega) (by omega) (by omega) w3.2
    have g3 := gl_sw3 (I := I) (p := p) h3 h4 e3 (by omega) (by omega) (by omega)
    omega
theorem gl_le {n : Nat} {p : Nat → Nat} (hn : n ≤ 7) (hL : Lk I) (hp : ∀ m, m < n → p m < n) : gl I n p ≤ 63 := by
  have := fb_sm_bound (f := fun m => lv I m (p m)) (c := 9) (n := n) (fun k hk => hL.le (by omega) (by have := hp k hk; omega))
  unfold gl
  omega
/-- the first wanted code -/
def fw (I : Nat → Nat → Int32) (n by' : Nat) (p : Nat → Nat) : Option Nat := (List.range 448).find? (fun c => decide (wc I n by' p c))
theorem fw_none {n by' : Nat} {p : Nat → Nat} (h : ∀ c, c < 448 → ¬ wc I n by' p c) : fw I n by' p = none := by
  unfold fw
  rw [List.find?_eq_none]
  intro c hc
  simp only [decide_eq_true_eq]
  exact h c (List.mem_range.mp hc)
theorem find_range {N c : Nat} {q : Nat → Bool} (hc : c < N) (h1 : q c = true) (h2 : ∀ c', c' < c → q c' = false) : (List.range N).find? q = some c := by
  induction N with
  | zero => omega
  | succ N ih =>
    rw [List.range_succ, List.find?_append]
    rcases Nat.lt_or_ge c N with h | h
    · rw [ih h]; rfl
    · have e : c = N := by omega
      subst e
      have : (List.range c).find? q = none := by
        rw [List.find?_eq_none]
        intro x hx
        rw [h2 x (List.mem_range.mp hx)]
        decide
      rw [this]
      simp [h1]
theorem fw_some {n by' c : Nat} {p : Nat → Nat} (hc : c < 448) (h1 : wc I n by' p c) (h2 : ∀ c', c' < c → ¬ wc I n by' p c') : fw I n by' p = some c :=
  find_range hc (decide_eq_true h1) (fun c' h => decide_eq_false (h2 c' h))
/-- settled: the row and how many trades -/
def stR (I : Nat → Nat → Int32) (n by' : Nat) : Nat → (Nat → Nat) → (Nat → Nat) × Nat
  | 0, p => (p, 0)
  | f + 1, p => match fw I n by' p with
    | none => (p, 0)
    | some c => ((stR I n by' f (nx by' p c)).1, (stR I n by' f (nx by' p c)).2 + 1)
theorem stR_none {n by' f : Nat} {p : Nat → Nat} (h : fw I n by' p = none) : stR I n by' f p = (p, 0) := by
  cases f with
  | zero => rfl
  | succ f => rw [stR, h]
theorem stR_some {n by' f c : Nat} {p : Nat → Nat} (h : fw I n by' p = some c) : stR I n by' (f + 1) p = ((stR I n by' f (nx by' p c)).1, (stR I n by' f (nx by' p c)).2 + 1) := by
  rw [stR, h]
theorem Rw.nx {n by' c : Nat} {p : Nat → Nat} {g : Nat → Int32} (hR : Rw g p n) (hw : wc I n by' p c) : Rw (if by' = 2 then sw2 g (c / 64) (c / 8 % 8) else sw3 g (c / 64) (c / 8 % 8) (c % 8)) (nx by' p c) n := by
  intro m hm
  refine ⟨?_, nx_lt (fun m hm => (hR m hm).2) hw m hm⟩
  obtain ⟨h1, ⟨h2, h3, h4⟩, h5⟩ := hw
  show _ = nI ((if by' = 2 then sw2 p (c / 64) (c / 8 % 8) else sw3 p (c / 64) (c / 8 % 8) (c % 8)) m)
  rcases h5 with ⟨e, -, -⟩ | ⟨e, ⟨e1, e2, e3⟩, -⟩
  · rw [if_pos e, if_pos e]; unfold sw2 va_up; split
    · exact (hR _ h3).1
    · split
      · exact (hR _ h4).1
      · exact (hR _ hm).1
  · rw [if_neg e, if_neg e]; unfold sw3 va_up; split
    · exact (hR _ h3).1
    · split
      · exact (hR _ e3).1
      · split
        · exact (hR _ h4).1
        · exact (hR _ hm).1
theorem bX10_settleBy_0 {E : Nat × (Nat → Int32)} {I : Nat → Nat → Int32} {J : Nat → Nat → Int64} {b : Bool} {a1 : Int32} {Q : Option Value → am_H → Prop}  (wp : am_R E mX10_nextWanted 0 [some (.ref 48), some (.int 0), some (.int a1), none, none] [] (hp I J b) 64 64 (fun r h' => am_R E mX10_settleBy 8 [some (.ref 48), some (.int a1), some (.int 0), none] (r.toList ++ []) h' 64 64 Q)) : am_R E mX10_settleBy 0 [some (.ref 48), some (.int a1), none, none] [] (hp I J b) 64 64 Q := by
  refine am_iconst 0 rfl dX10_settleBy_0 ?_
  refine am_istore_n (ls' := [some (.ref 48), some (.int a1), some (.int 0), none]) rfl (by decide) rfl rfl dX10_settleBy_1 ?_
  refine am_aload_n rfl rfl dX10_settleBy_2 ?_
  refine am_iconst 0 rfl dX10_settleBy_3 ?_
  refine am_iload_n rfl rfl dX10_settleBy_4 ?_
  refine am_invV (ci := 8) (As := [.int 0, .int a1]) (lsZ := [some (.ref 48), some (.int 0), some (.int a1), none, none]) (st := []) dX10_settleBy_5 hX10_nextWanted lkX10_217 ⟨by decide, by decide⟩ (by decide) rfl (by decide) rfl rfl rfl (Nat.le_of_ble_eq_true rfl) rfl (Nat.le_of_ble_eq_true rfl) ⟨Nat.le_refl _, Nat.le_refl _⟩ (am_R.mono wp (fun r h' q => am_R.forget q ⟨rfl, ⟨rfl, ⟨rfl, trivial⟩⟩⟩))
theorem bX10_settleBy_8 {E : Nat × (Nat → Int32)} {I : Nat → Nat → Int32} {J : Nat → Nat → Int64} {b : Bool} {a1 : Int32} {a2 : Int32} {x0 : Int32} {Q : Option Value → am_H → Prop}  (wp : am_R E mX10_settleBy 9 [some (.ref 48), some (.int a1), some (.int a2), some (.int x0)] [] (hp I J b) 64 64 Q) : am_R E mX10_settleBy 8 [some (.ref 48), some (.int a1), some (.int a2), none] [.int x0] (hp I J b) 64 64 Q := by
  refine am_istore_n (ls' := [some (.ref 48), some (.int a1), some (.int a2), some (.int x0)]) rfl (by decide) rfl rfl dX10_settleBy_8 ?_
  exact am_R.forget wp ⟨rfl, ⟨rfl, ⟨rfl, ⟨rfl, trivial⟩⟩⟩⟩
theorem bX10_settleBy_9 {E : Nat × (Nat → Int32)} {I : Nat → Nat → Int32} {J : Nat → Nat → Int64} {b : Bool} {a1 : Int32} {a2 : Int32} {a3 : Int32} {Q : Option Value → am_H → Prop}  (wp : ((a3 = (-1) → Q (some (.int a2)) (hp I J b)) ∧ (¬ a3 = (-1) → am_R E mX10_goRing 0 [some (.ref 48), some (.int (I 48 26)), some (.int (I 48 27)), some (.int (I 48 28)), none] [] (hp I J b) 64 64 (fun r h' => am_R E mX10_settleBy 30 [some (.ref 48), some (.int a1), some (.int a2), none] (r.toList ++ []) h' 64 64 Q)))) : am_R E mX10_settleBy 9 [some (.ref 48), some (.int a1), some (.int a2), some (.int a3)] [] (hp I J b) 64 64 Q := by
  refine am_iload_n rfl rfl dX10_settleBy_9 ?_
  refine am_iconst (-1) rfl dX10_settleBy_10 ?_
  refine am_icmp_eq dX10_settleBy_11 (tgt := 43) rfl (fun hc1 => ?_) (fun hc1 => ?_)
  · have wp := wp.1 hc1
    refine am_iload_n rfl rfl dX10_settleBy_43 ?_
    exact am_iret dX10_settleBy_44 rfl rfl wp
  · have wp := wp.2 hc1
    refine am_aload_n rfl rfl dX10_settleBy_14 ?_
    refine am_aload_n rfl rfl dX10_settleBy_15 ?_
    refine am_getI dX10_settleBy_16 flX10_204 (Or.inl rfl) rfl (by decide) ?_
    refine am_aload_n rfl rfl dX10_settleBy_19 ?_
    refine am_getI dX10_settleBy_20 flX10_207 (Or.inl rfl) rfl (by decide) ?_
    refine am_aload_n rfl rfl dX10_settleBy_23 ?_
    refine am_getI dX10_settleBy_24 flX10_210 (Or.inl rfl) rfl (by decide) ?_
    refine am_invV (ci := 8) (As := [.int (I 48 26), .int (I 48 27), .int (I 48 28)]) (lsZ := [some (.ref 48), some (.int (I 48 26)), some (.int (I 48 27)), some (.int (I 48 28)), none]) (st := []) dX10_settleBy_27 hX10_goRing lkX10_196 ⟨by decide, by decide⟩ (by decide) rfl (by decide) rfl rfl rfl (Nat.le_of_ble_eq_true rfl) rfl (Nat.le_of_ble_eq_true rfl) ⟨Nat.le_refl _, Nat.le_refl _⟩ (am_R.mono wp (fun r h' q => am_R.forget q ⟨rfl, ⟨rfl, ⟨rfl, trivial⟩⟩⟩))
theorem bX10_settleBy_30 {E : Nat × (Nat → Int32)} {I : Nat → Nat → Int32} {J : Nat → Nat → Int64} {b : Bool} {a1 : Int32} {a2 : Int32} {Q : Option Value → am_H → Prop}  (wp : am_R E mX10_nextWanted 0 [some (.ref 48), some (.int 0), some (.int a1), none, none] [] (hp I J b) 64 64 (fun r h' => am_R E mX10_settleBy 39 [some (.ref 48), some (.int a1), some (.int (a2 + 1)), none] (r.toList ++ []) h' 64 64 Q)) : am_R E mX10_settleBy 30 [some (.ref 48), some (.int a1), some (.int a2), none] [] (hp I J b) 64 64 Q := by
  refine am_iinc (ls' := [some (.ref 48), some (.int a1), some (.int (a2 + 1)), none]) (by decide) rfl rfl rfl dX10_settleBy_30 ?_
  refine am_aload_n rfl rfl dX10_settleBy_33 ?_
  refine am_iconst 0 rfl dX10_settleBy_34 ?_
  refine am_iload_n rfl rfl dX10_settleBy_35 ?_
  refine am_invV (ci := 8) (As := [.int 0, .int a1]) (lsZ := [some (.ref 48), some (.int 0), some (.int a1), none, none]) (st := []) dX10_settleBy_36 hX10_nextWanted lkX10_217 ⟨by decide, by decide⟩ (by decide) rfl (by decide) rfl rfl rfl (Nat.le_of_ble_eq_true rfl) rfl (Nat.le_of_ble_eq_true rfl) ⟨Nat.le_refl _, Nat.le_refl _⟩ (am_R.mono wp (fun r h' q => am_R.forget q ⟨rfl, ⟨rfl, ⟨rfl, trivial⟩⟩⟩))
theorem bX10_settleBy_39 {E : Nat × (Nat → Int32)} {I : Nat → Nat → Int32} {J : Nat → Nat → Int64} {b : Bool} {a1 : Int32} {a2 : Int32} {x0 : Int32} {Q : Option Value → am_H → Prop}  (wp : am_R E mX10_settleBy 9 [some (.ref 48), some (.int a1), some (.int a2), some (.int x0)] [] (hp I J b) 64 64 Q) : am_R E mX10_settleBy 39 [some (.ref 48), some (.int a1), some (.int a2), none] [.int x0] (hp I J b) 64 64 Q := by
  refine am_istore_n (ls' := [some (.ref 48), some (.int a1), some (.int a2), some (.int x0)]) rfl (by decide) rfl rfl dX10_settleBy_39 ?_
  refine am_goto dX10_settleBy_40 (tgt := 9) rfl ?_
  exact am_R.forget wp ⟨rfl, ⟨rfl, ⟨rfl, ⟨rfl, trivial⟩⟩⟩⟩
theorem bX10_settleBy_39g {a1 a2 x0 : Int32} {h : am_H} (wp : am_R E mX10_settleBy 9 [some (.ref 48), some (.int a1), some (.int a2), some (.int x0)] [] h 64 64 Q) : am_R E mX10_settleBy 39 [some (.ref 48), some (.int a1), some (.int a2), none] [.int x0] h 64 64 Q := by
  refine am_istore_n (ls' := [some (.ref 48), some (.int a1), some (.int a2), some (.int x0)]) rfl (by decide) rfl rfl dX10_settleBy_39 ?_
  exact am_goto dX10_settleBy_40 (tgt := 9) rfl wp
theorem bX10_settleBy_8g {a1 a2 x0 : Int32} {h : am_H} (wp : am_R E mX10_settleBy 9 [some (.ref 48), some (.int a1), some (.int a2), some (.int x0)] [] h 64 64 Q) : am_R E mX10_settleBy 8 [some (.ref 48), some (.int a1), some (.int a2), none] [.int x0] h 64 64 Q :=
  am_istore_n (ls' := [some (.ref 48), some (.int a1), some (.int a2), some (.int x0)]) rfl (by decide) rfl rfl dX10_settleBy_8 wp
theorem tX10_settleBy {a1 : Int32} {n by' : Nat} {p : Nat → Nat} (hN : Nn I n) (hY : Yw I n) (hL : Lk I) (hR : Rw (I 58) p n) (eb : a1 = nI by') (hb : by' ≤ 3) (k : ∀ f x y z, Rw f (stR I n by' 63 p).1 n → Q (some (.int (nI (stR I n by' 63 p).2))) (hp (rg (u1 I 58 f) x y z) J b)) : am_R E mX10_settleBy 0 [some (.ref 48), some (.int a1), none, none] [] (hp I J b) 64 64 Q := by
  subst eb
  have h7 := hN.2.2
  have hm1 : ∀ e : Nat, e < 448 → ¬ nI e = (-1 : Int32) := by decide +kernel
  have key : ∀ f (p : Nat → Nat) (g : Nat → Int32) (cnt : Nat) (x y z : Int32), Rw g p n → 63 ≤ gl I n p + f → (∀ g' x y z, Rw g' (stR I n by' f p).1 n → Q (some (.int (nI (cnt + (stR I n by' f p).2)))) (hp (rg (u1 I 58 g') x y z) J b)) → ∀ Kc : Option Value → am_H → Prop, (∀ v h', am_R E mX10_settleBy 9 [some (.ref 48), some (.int (nI by')), some (.int (nI cnt)), some (.int v)] [] h' 64 64 Q → Kc (some (.int v)) h') → am_R E mX10_nextWanted 0 [some (.ref 48), some (.int 0), some (.int (nI by')), none, none] [] (hp (rg (u1 I 58 g) x y z) J b) 64 64 Kc := by
    intro f
    induction f with
    | zero =>
      intro p g cnt x y z hR hg hQ Kc hK
      refine tX10_nextWanted (I := rg (u1 I 58 g) x y z) (n := n) (f := 0) (p := p) hN hY hR rfl (by omega) rfl hb (fun hno x' y' z' => ?_) (fun c h1 h2 hw hno => ?_)
      · rw [rg_rg]
        refine hK _ _ (bX10_settleBy_9 ⟨fun _ => ?_, fun h => absurd rfl h⟩)
        exact hQ g x' y' z' hR
      · have h3 := nx_gl (I := I) h7 hL (fun m hm => (hR m hm).2) hw
        have h4 := gl_le (I := I) h7 hL (nx_lt (I := I) (fun m hm => (hR m hm).2) hw)
        omega
    | succ f ih =>
      intro p g cnt x y z hR hg hQ Kc hK
      refine tX10_nextWanted (I := rg (u1 I 58 g) x y z) (n := n) (f := 0) (p := p) hN hY hR rfl (by omega) rfl hb (fun hno x' y' z' => ?_) (fun c h1 h2 hw hno => ?_)
      · rw [rg_rg]
        have hf : fw I n by' p = none := fw_none (fun c hc => hno c (by omega) hc)
        rw [stR_none hf] at hQ
        refine hK _ _ (bX10_settleBy_9 ⟨fun _ => ?_, fun h => absurd rfl h⟩)
        exact hQ g x' y' z' hR
      · rw [rg_rg]
        have hw : wc I n by' p c := hw
        have hf : fw I n by' p = some c := fw_some h2 hw (fun c' hc => hno c' (by omega) hc)
        rw [stR_some hf] at hQ
        have h3 := nx_gl (I := I) h7 hL (fun m hm => (hR m hm).2) hw
        have hR2 := Rw.nx (I := I) hR hw
        obtain ⟨q1, ⟨q2, q3, q4⟩, q5⟩ := hw
        refine hK _ _ (bX10_settleBy_9 ⟨fun h => absurd h (hm1 c h2), fun _ => ?_⟩)
        have next : ∀ g2, Rw g2 (nx by' p c) n → ∀ x y z, am_R E mX10_settleBy 30 [some (.ref 48), some (.int (nI by')), some (.int (nI cnt)), none] [] (hp (rg (u1 I 58 g2) x y z) J b) 64 64 Q := by
          intro g2 hg2 x y z
          refine bX10_settleBy_30 ?_
          refine ih (nx by' p c) g2 (cnt + 1) x y z hg2 (by omega) (fun g' x y z hr => ?_) _ (fun v h' hv => ?_)
          · have := hQ g' x y z hr
            rw [show cnt + 1 + (stR I n by' f (nx by' p c)).2 = cnt + ((stR I n by' f (nx by' p c)).2 + 1) by omega]
            exact this
          · show am_R E mX10_settleBy 39 [some (.ref 48), some (.int (nI by')), some (.int (nI cnt + 1)), none] [.int v] h' 64 64 Q
            rw [n1]
            exact bX10_settleBy_39g hv
        refine tX10_goRing (I := rg (u1 I 58 g) (nI (c / 64)) (nI (c / 8 % 8)) (if by' = 2 then -1 else nI (c % 8))) (x := c / 64) (y := c / 8 % 8) rfl (by omega) rfl (by omega) ?_ (fun e => ?_) (fun z e hz => ?_)
        · rcases q5 with ⟨e, -, -⟩ | ⟨e, ⟨e1, e2, e3⟩, -⟩
          · exact Or.inl (by show (if by' = 2 then (-1 : Int32) else nI (c % 8)) = -1; rw [if_pos e])
          · exact Or.inr ⟨c % 8, by show (if by' = 2 then (-1 : Int32) else nI (c % 8)) = _; rw [if_neg e], by omega, by omega⟩
        · have e : (if by' = 2 then (-1 : Int32) else nI (c % 8)) = -1 := e
          have b2 : by' = 2 := by
            by_cases q : by' = 2
            · exact q
            · rw [if_neg q] at e; exact absurd e (hm1 _ (by omega))
          rw [rg_u1, u1_u1]
          rw [if_pos b2] at hR2
          exact next _ hR2 _ _ _
        · have e : (if by' = 2 then (-1 : Int32) else nI (c % 8)) = nI z := e
          have b2 : by' ≠ 2 := by
            intro q
            rw [if_pos q] at e; exact absurd e.symm (hm1 _ (by omega))
          rw [if_neg b2] at e
          have ez : c % 8 = z := (nI_eq (by omega) (by omega)).mp e
          rw [rg_u1, u1_u1]
          rw [if_neg b2] at hR2
          rw [← ez]
          exact next _ hR2 _ _ _
  refine bX10_settleBy_0 ?_
  have h0 := key 63 p (I 58) 0 (I 48 26) (I 48 27) (I 48 28) hR (by omega) (fun g' x y z hr => by rw [Nat.zero_add]; exact k g' x y z hr)
  rw [u1_self, rg_self] at h0
  refine h0 _ (fun v h' hv => ?_)
  exact bX10_settleBy_8g hv
end M4
