/-! ===== what holds between the calls ===== -/
section INV
variable {I I' : Nat → Nat → Int32} {n : Nat}
/-- a day's block of the reference: drawn, today, yesterday, dawns -/
def Dw (f : Nat → Int32) (n : Nat) : Prop := (f 0 = 0 ∨ f 0 = 1) ∧ (f 0 = 1 → ∃ p : Nat → Nat, (∀ m, m < n → f (1 + m) = nI (p m)) ∧ Pm p n) ∧ (∀ m, m < n → f (8 + m) = -1 ∨ ∃ e, e < n ∧ f (8 + m) = nI e) ∧ ∃ D, D ≤ 16 ∧ f 15 = nI D
/-- the class's days tell the same: object, today, yesterday, book -/
def Dr (o t y k f : Nat → Int32) (n : Nat) : Prop := o 0 = f 0 ∧ o 3 = f 15 ∧ (f 0 = 1 → ∀ m, m < n → t m = f (1 + m)) ∧ (∀ m, m < n → y m = f (8 + m)) ∧ ∀ D, D ≤ 16 → f 15 = nI D → ∀ i, i < D → ∀ m, m < n → k (7 * i + m) = f (16 + 7 * i + m)
/-- is the draw of a number lawful -/
abbrev lawc (I : Nat → Nat → Int32) (n c : Nat) : Prop := ∀ m, m < n → my I m (ur n c m)
/-- sums over the lawful draws -/
def sI (q : Nat → Bool) (v : Nat → Int32) : Nat → Int32
  | 0 => 0
  | c + 1 => if q c then sI q v c + v c else sI q v c
def lc (I : Nat → Nat → Int32) (n : Nat) (c : Nat) : Bool := decide (lawc I n c)
/-- the settled row of a number -/
def sr (I : Nat → Nat → Int32) (n by' c : Nat) : Nat → Nat := (stR I n by' 63 (ur n c)).1
def sWork (I : Nat → Nat → Int32) (n by' : Nat) : Int32 := sI (lc I n) (fun c => sm (fun m => I 49 (7 * m + sr I n by' c m)) n) (fct n)
def sGlad (I : Nat → Nat → Int32) (n by' : Nat) : Int32 := sI (lc I n) (fun c => sm (fun m => I 50 (7 * m + sr I n by' c m)) n) (fct n)
def sHad (I : Nat → Nat → Int32) (n by' m d : Nat) : Int32 := sI (lc I n) (fun c => if sr I n by' c m = d then 1 else 0) (fct n)
/-- a tally that is fresh -/
def Tl (I : Nat → Nat → Int32) (n by' : Nat) (o h : Nat → Int32) : Prop := o 4 = nI (fb_ct (lc I n) (fct n)) ∧ o 5 = sWork I n by' ∧ o 6 = sGlad I n by' ∧ ∀ m, m < n → ∀ d, d < n → h (7 * m + d) = sHad I n by' m d
def Ta (I : Nat → Nat → Int32) (n by' : Nat) (o h : Nat → Int32) : Prop := o 1 = nI by' ∧ (o 3 = 0 ∨ (o 3 = 1 ∧ Tl I n by' o h))
/-- the reference's cells are sound -/
def IvM (I : Nat → Nat → Int32) (n : Nat) : Prop := Nn I n ∧ (I 48 1 = 0 ∨ I 48 1 = 2 ∨ I 48 1 = 3) ∧ (∀ j, j < 49 → ∃ v, v ≤ 9 ∧ I 49 j = nI v) ∧ Lk I ∧ (∀ d, d < 7 → ∃ v, v ≤ 3 ∧ I 51 d = nI v) ∧ (∀ m, m < 7 → I 52 m = -1 ∨ ∃ e, e < n ∧ I 52 m = nI e) ∧ Dw (I 55) n ∧ (I 57 0 = 0 ∨ (I 57 0 = 1 ∧ Dw (fun j => I 56 j) n)) ∧ (I 57 1 = 0 ∨ (I 57 1 = 1 ∧ Dw (fun j => I 56 (128 + j)) n))
/-- the class's cells tell what the reference's do -/
def IvC (I : Nat → Nat → Int32) (n : Nat) : Prop := CH I n ∧ I 4 1 = I 48 1 ∧ (∀ d, d < 7 → I 7 d = I 51 d + 1) ∧ (∀ m, m < 7 → I 8 m = I 52 m) ∧ (∃ L, L ≤ 200 ∧ I 48 6 = nI L ∧ I 1 1 = nI L ∧ ∀ j, j < L → I 2 j = I 53 j) ∧ Dr (I 9) (I 10) (I 11) (I 12) (I 55) n ∧ (I 22 0 = I 57 0 ∧ I 22 1 = I 57 1) ∧ (I 57 0 = 1 → Dr (I 14) (I 15) (I 16) (I 17) (fun j => I 56 j) n) ∧ (I 57 1 = 1 → Dr (I 18) (I 19) (I 20) (I 21) (fun j => I 56 (128 + j)) n) ∧ Ta I n 0 (I 27) (I 29) ∧ Ta I n 2 (I 30) (I 32) ∧ Ta I n 3 (I 33) (I 35)
def Inv (I : Nat → Nat → Int32) (n : Nat) : Prop := IvM I n ∧ IvC I n
/-- the same told, but for the text -/
def Sb (I I' : Nat → Nat → Int32) : Prop := (I' 4 = I 4 ∧ I' 5 = I 5 ∧ I' 6 = I 6 ∧ I' 7 = I 7 ∧ I' 8 = I 8 ∧ I' 9 = I 9 ∧ I' 10 = I 10 ∧ I' 11 = I 11 ∧ I' 12 = I 12) ∧ (I' 14 = I 14 ∧ I' 15 = I 15 ∧ I' 16 = I 16 ∧ I' 17 = I 17 ∧ I' 18 = I 18 ∧ I' 19 = I 19 ∧ I' 20 = I 20 ∧ I' 21 = I 21 ∧ I' 22 = I 22 ∧ I' 24 = I 24 ∧ I' 27 = I 27 ∧ I' 29 = I 29 ∧ I' 30 = I 30 ∧ I' 32 = I 32 ∧ I' 33 = I 33 ∧ I' 35 = I 35) ∧ (I' 48 0 = I 48 0 ∧ I' 48 1 = I 48 1 ∧ I' 49 = I 49 ∧ I' 50 = I 50 ∧ I' 51 = I 51 ∧ I' 52 = I 52 ∧ I' 55 = I 55 ∧ I' 56 = I 56 ∧ I' 57 = I 57)
/-- the same told: cells that calls may leave otherwise are left out -/
def Sa (I I' : Nat → Nat → Int32) : Prop := Sb I I' ∧ (I' 1 1 = I 1 1 ∧ I' 2 = I 2 ∧ I' 48 6 = I 48 6 ∧ I' 53 = I 53)
theorem my_eq (h1 : I' 49 = I 49) (h2 : I' 51 = I 51) (h3 : ∀ m, I' 55 (8 + m) = I 55 (8 + m)) : my I' = my I := by
  funext m d; unfold my mb; rw [h1, h2, h3 m]
theorem lm_eq (h1 : I' 49 = I 49) (h0 : I' 50 = I 50) (h2 : I' 51 = I 51) (h3 : ∀ m, I' 55 (8 + m) = I 55 (8 + m)) : lm I' = lm I := by
  funext p m d; unfold lm; rw [my_eq h1 h2 h3, h0]
theorem wc_eq (h1 : I' 49 = I 49) (h0 : I' 50 = I 50) (h2 : I' 51 = I 51) (h3 : ∀ m, I' 55 (8 + m) = I 55 (8 + m)) : wc I' = wc I := by
  funext n by' p c; unfold wc wt2 wt3; rw [lm_eq h1 h0 h2 h3]
theorem fw_eq (h1 : I' 49 = I 49) (h0 : I' 50 = I 50) (h2 : I' 51 = I 51) (h3 : ∀ m, I' 55 (8 + m) = I 55 (8 + m)) : fw I' = fw I := by
  funext n by' p
  unfold fw
  congr 1
  funext c
  exact decide_eq_decide.mpr (by rw [wc_eq h1 h0 h2 h3])
theorem stR_eq (h1 : I' 49 = I 49) (h0 : I' 50 = I 50) (h2 : I' 51 = I 51) (h3 : ∀ m, I' 55 (8 + m) = I 55 (8 + m)) : stR I' = stR I := by
  funext n by' f
  induction f with
  | zero => rfl
  | succ f ih =>
    funext p
    rw [stR, stR, fw_eq h1 h0 h2 h3, ih]
theorem lc_eq (h1 : I' 49 = I 49) (h2 : I' 51 = I 51) (h3 : ∀ m, I' 55 (8 + m) = I 55 (8 + m)) : lc I' = lc I := by
  funext n c
  unfold lc
  exact decide_eq_decide.mpr (by unfold lawc; rw [my_eq h1 h2 h3])
theorem sr_eq (h1 : I' 49 = I 49) (h0 : I' 50 = I 50) (h2 : I' 51 = I 51) (h3 : ∀ m, I' 55 (8 + m) = I 55 (8 + m)) : sr I' = sr I := by
  funext n by' c; unfold sr; rw [stR_eq h1 h0 h2 h3]
theorem Ta_eq (h1 : I' 49 = I 49) (h0 : I' 50 = I 50) (h2 : I' 51 = I 51) (h3 : ∀ m, I' 55 (8 + m) = I 55 (8 + m)) : Ta I' = Ta I := by
  funext n by' o h
  unfold Ta Tl sWork sGlad sHad
  rw [lc_eq h1 h2 h3, sr_eq h1 h0 h2 h3, h1, h0]
theorem CH_eq (a1 : I' 4 = I 4) (a2 : I' 5 = I 5) (a3 : I' 6 = I 6) (a4 : I' 24 = I 24) (h1 : I' 49 = I 49) (h0 : I' 50 = I 50) (h2 : I' 51 = I 51) (h3 : ∀ m, I' 55 (8 + m) = I 55 (8 + m)) : CH I' = CH I := by
  funext n
  unfold CH
  rw [my_eq h1 h2 h3, a1, a2, a3, a4, h1, h0]
theorem Inv.text (h : Inv I n) (s : Sb I I') (t : ∃ L, L ≤ 200 ∧ I' 48 6 = nI L ∧ I' 1 1 = nI L ∧ ∀ j, j < L → I' 2 j = I' 53 j) : Inv I' n := by
  obtain ⟨⟨c4, c5, c6, c7, c8, c9, c10, c11, c12⟩, ⟨c14, c15, c16, c17, c18, c19, c20, c21, c22, c24, c27, c29, c30, c32, c33, c35⟩, ⟨m0, m1, m49, m50, m51, m52, m55, m56, m57⟩⟩ := s
  obtain ⟨hM, hC⟩ := h
  unfold IvM Nn Lk at hM
  unfold IvC at hC
  unfold Inv IvM IvC Nn Lk
  have m55' : ∀ m, I' 55 (8 + m) = I 55 (8 + m) := fun m => by rw [m55]
  rw [CH_eq c4 c5 c6 c24 m49 m50 m51 m55', Ta_eq m49 m50 m51 m55', m0, m1, m49, m50, m51, m52, m55, m56, m57, c4, c7, c8, c9, c10, c11, c12, c14, c15, c16, c17, c18, c19, c20, c21, c22, c27, c29, c30, c32, c33, c35]
  obtain ⟨d1, d2, d3, d4, -, d6⟩ := hC
  exact ⟨hM, d1, d2, d3, d4, t, d6⟩
theorem Inv.sa (h : Inv I n) (s : Sa I I') : Inv I' n := by
  refine h.text s.1 ?_
  obtain ⟨L, h1, h2, h3, h4⟩ := h.2.2.2.2.2.1
  obtain ⟨e1, e2, e3, e4⟩ := s.2
  exact ⟨L, h1, e3.trans h2, e1.trans h3, fun j hj => by rw [e2, e4]; exact h4 j hj⟩
theorem Sb.rf (I : Nat → Nat → Int32) : Sb I I := ⟨⟨rfl, rfl, rfl, rfl, rfl, rfl, rfl, rfl, rfl⟩, ⟨rfl, rfl, rfl, rfl, rfl, rfl, rfl, rfl, rfl, rfl, rfl, rfl, rfl, rfl, rfl, rfl⟩, ⟨rfl, rfl, rfl, rfl, rfl, rfl, rfl, rfl, rfl⟩⟩
end INV
