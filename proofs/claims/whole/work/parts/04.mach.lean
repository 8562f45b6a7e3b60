/-! ===== the abstract machine: heaps by cells' numbers, locals, the judgement am_R ===== -/
abbrev am_H : Type := (Nat → Nat → Int32) × (Nat → Nat → Int64) × (Nat → Nat → Option Nat)
/-- a method: name, code, locals, answer's type, frames below it, words of locals below it -/
abbrev am_M : Type := MethodName × ByteArray × Nat × Option FieldType × Nat × Nat
/-- a start: the first new address, the addresses of the old cells, array classes, classes -/
abbrev am_G : Type := Nat × (Nat → Nat) × (FieldType → ClassId) × va_G
def am_a (g : am_G) (k : Nat) : Nat := if k < 1000 then g.1 + k else g.2.1 k
def am_v (g : am_G) (v : Value) : Value := match v with
  | .ref k => .ref (am_a g k)
  | .int x => .int x
  | .long x => .long x
  | .float x => .float x
  | .double x => .double x
  | .null => .null
  | .retAddr x => .retAddr x
def am_A (g : am_G) : Nat → Prop := fun q => g.1 ≤ q
def am_cn : Nat → String
  | 0 => RX1 | 1 => RX2 | 2 => RX4 | 3 => RX5 | 4 => RX6 | 5 => RX7 | 6 => RX8 | 7 => RX9 | _ => RX10
def am_tb : Nat → u_T
  | 0 => TX1 | 1 => TX2 | 2 => TX4 | 3 => TX5 | 4 => TX6 | 5 => TX7 | 6 => TX8 | 7 => TX9 | _ => TX10
def am_nf : Nat → Nat
  | 0 => 5 | 1 => 6 | 2 => 6 | 3 => 4 | 4 => 6 | 5 => 8 | 6 => 8 | 7 => 10 | _ => 29
def am_ft : Nat → Nat → FieldType
  | 0 => tyX1 | 1 => tyX2 | 2 => tyX4 | 3 => tyX5 | 4 => tyX6 | 5 => tyX7 | 6 => tyX8 | 7 => tyX9 | _ => tyX10
theorem am_cl {ci : Nat} (h : ci < 9) : vwCl[ci]? = some (am_cn ci, am_tb ci, am_nf ci) := by
  match ci, h with
  | 0, _ => rfl
  | 1, _ => rfl
  | 2, _ => rfl
  | 3, _ => rfl
  | 4, _ => rfl
  | 5, _ => rfl
  | 6, _ => rfl
  | 7, _ => rfl
  | 8, _ => rfl
  | n + 9, h => omega
def am_TB : List Cond := lw_tbl.filter goodWord
set_option maxRecDepth 20000 in
theorem am_in0 : ∀ w ∈ u_ws RX1 TX1 5, w ∈ am_TB := by decide +kernel
set_option maxRecDepth 20000 in
theorem am_in1 : ∀ w ∈ u_ws RX2 TX2 6, w ∈ am_TB := by decide +kernel
set_option maxRecDepth 20000 in
theorem am_in2 : ∀ w ∈ u_ws RX4 TX4 6, w ∈ am_TB := by decide +kernel
set_option maxRecDepth 20000 in
theorem am_in3 : ∀ w ∈ u_ws RX5 TX5 4, w ∈ am_TB := by decide +kernel
set_option maxRecDepth 20000 in
theorem am_in4 : ∀ w ∈ u_ws RX6 TX6 6, w ∈ am_TB := by decide +kernel
set_option maxRecDepth 20000 in
theorem am_in5 : ∀ w ∈ u_ws RX7 TX7 8, w ∈ am_TB := by decide +kernel
set_option maxRecDepth 20000 in
theorem am_in6 : ∀ w ∈ u_ws RX8 TX8 8, w ∈ am_TB := by decide +kernel
set_option maxRecDepth 20000 in
theorem am_in7 : ∀ w ∈ u_ws RX9 TX9 10, w ∈ am_TB := by decide +kernel
set_option maxRecDepth 20000 in
theorem am_in8 : ∀ w ∈ u_ws RX10 TX10 29, w ∈ am_TB := by decide +kernel
theorem am_in {ci : Nat} (h : ci < 9) : ∀ w ∈ u_ws (am_cn ci) (am_tb ci) (am_nf ci), w ∈ am_TB := by
  match ci, h with
  | 0, _ => exact am_in0
  | 1, _ => exact am_in1
  | 2, _ => exact am_in2
  | 3, _ => exact am_in3
  | 4, _ => exact am_in4
  | 5, _ => exact am_in5
  | 6, _ => exact am_in6
  | 7, _ => exact am_in7
  | 8, _ => exact am_in8
  | n + 9, h => omega
theorem am_ty {ci : Nat} (h : ci < 9) : ∀ k, k < am_nf ci → parseFieldDescriptor (am_tb ci k).2.2.1 = some (am_ft ci k) := by
  match ci, h with
  | 0, _ => exact tyX1_ok
  | 1, _ => exact tyX2_ok
  | 2, _ => exact tyX4_ok
  | 3, _ => exact tyX5_ok
  | 4, _ => exact tyX6_ok
  | 5, _ => exact tyX7_ok
  | 6, _ => exact tyX8_ok
  | 7, _ => exact tyX9_ok
  | 8, _ => exact tyX10_ok
  | n + 9, h => omega
theorem am_nm {ci : Nat} (h : ci < 9) : ∀ a, a < am_nf ci → ∀ b, b < am_nf ci → a ≠ b → (am_tb ci a).2.1 ≠ (am_tb ci b).2.1 := by
  match ci, h with
  | 0, _ => exact nmX1
  | 1, _ => exact nmX2
  | 2, _ => exact nmX4
  | 3, _ => exact nmX5
  | 4, _ => exact nmX6
  | 5, _ => exact nmX7
  | 6, _ => exact nmX8
  | 7, _ => exact nmX9
  | 8, _ => exact nmX10
  | n + 9, h => omega
/-- the cells in the order in which the law makes them -/
def am_sL : List ((FieldType × Nat) ⊕ Nat) := [.inr 7, .inr 4, .inl (.int, 200), .inl (.int, 56), .inr 1, .inl (.int, 49), .inl (.int, 49), .inl (.int, 7), .inl (.int, 7), .inr 0, .inl (.int, 7), .inl (.int, 7), .inl (.int, 112), .inl (.object RX1, 2), .inr 0, .inl (.int, 7), .inl (.int, 7), .inl (.int, 112), .inr 0, .inl (.int, 7), .inl (.int, 7), .inl (.int, 112), .inl (.boolean, 2), .inr 3, .inl (.int, 7), .inl (.int, 210), .inl (.object RX8, 3), .inr 6, .inl (.int, 7), .inl (.int, 49), .inr 6, .inl (.int, 7), .inl (.int, 49), .inr 6, .inl (.int, 7), .inl (.int, 49), .inr 5, .inl (.int, 7), .inl (.int, 7), .inl (.long, 79), .inl (.long, 79), .inr 2, .inl (.int, 7), .inl (.int, 600), .inl (.int, 120), .inl (.int, 120), .inl (.int, 120), .inl (.int, 7), .inr 8, .inl (.int, 49), .inl (.int, 49), .inl (.int, 7), .inl (.int, 7), .inl (.int, 200), .inl (.int, 56), .inl (.int, 128), .inl (.int, 256), .inl (.boolean, 2), .inl (.int, 7), .inl (.int, 7), .inl (.boolean, 5040), .inl (.int, 5040), .inl (.int, 120), .inl (.int, 120)]
def am_s (k : Nat) : (FieldType × Nat) ⊕ Nat := am_sL.getD k (.inr 99)
def am_z (k : Nat) : Nat := match am_s k with
  | .inl q => q.2
  | .inr ci => am_nf ci
def am_cs : Nat → Nat
  | 0 => 0
  | n + 1 => am_cs n + am_z n
theorem am_cs64 : am_cs 64 = 13480 := by decide +kernel
theorem am_cs_mono {a b : Nat} (h : a ≤ b) : am_cs a ≤ am_cs b := by
  induction b with
  | zero => rw [Nat.le_zero.mp h]; exact Nat.le_refl _
  | succ b ih =>
    rcases Nat.lt_or_ge b a with q | q
    · rw [show a = b + 1 by omega]; exact Nat.le_refl _
    · exact Nat.le_trans (ih q) (Nat.le_add_right _ _)
/-- what a place of type ty of the cell k holds -/
def am_f (g : am_G) (h : am_H) (k : Nat) (ty : FieldType) (j : Nat) : Value := match ty with
  | .long => .long (h.2.1 k j)
  | .object _ => va_rf ((h.2.2 k j).map (am_a g))
  | .array _ => va_rf ((h.2.2 k j).map (am_a g))
  | _ => .int (h.1 k j)
def am_at (g : am_G) (h : am_H) (k : Nat) (H : Heap) : Prop := match am_s k with
  | .inl q => H[g.1 + k]? = some (arrV (g.2.2.1 q.1) q.2 (fun j => am_f g h k q.1 j))
  | .inr ci => t_OB (g.1 + k) (g.2.2.2.1 ci) (am_nf ci) (g.2.2.2.2 ci) H (fun j => am_f g h k (am_ft ci j) j)
def am_P (g : am_G) (h : am_H) (n : Nat) (H : Heap) : Prop := H.size = g.1 + n ∧ n ≤ 64 ∧ ∀ k, k < n → am_at g h k H
theorem am_a_lt {g : am_G} {k : Nat} (h : k < 1000) : am_a g k = g.1 + k := if_pos h
theorem am_P.a {g : am_G} {h : am_H} {n k : Nat} {H : Heap} (hP : am_P g h n H) (hk : k < n) : am_a g k = g.1 + k := if_pos (by have := hP.2.1; omega)
theorem am_P.arr {g : am_G} {h : am_H} {n k N : Nat} {ty : FieldType} {H : Heap} (hP : am_P g h n H) (hk : k < n) (hs : am_s k = .inl (ty, N)) : H[am_a g k]? = some (arrV (g.2.2.1 ty) N (fun j => am_f g h k ty j)) := by
  have h1 := hP.2.2 k hk
  unfold am_at at h1
  rw [hs] at h1
  rw [hP.a hk]
  exact h1
theorem am_P.obj {g : am_G} {h : am_H} {n k ci : Nat} {H : Heap} (hP : am_P g h n H) (hk : k < n) (hs : am_s k = .inr ci) : t_OB (am_a g k) (g.2.2.2.1 ci) (am_nf ci) (g.2.2.2.2 ci) H (fun j => am_f g h k (am_ft ci j) j) := by
  have h1 := hP.2.2 k hk
  unfold am_at at h1
  rw [hs] at h1
  rw [hP.a hk]
  exact h1
/-- the heaps of a store: one cell k is new, the others are as they were -/
theorem am_P.put {g : am_G} {h h' : am_H} {n k : Nat} {H H1 : Heap} (hP : am_P g h n H) (hk : k < n) (hz : H1.size = H.size) (ho : ∀ q, q ≠ am_a g k → H1[q]? = H[q]?) (hsame : ∀ j, j ≠ k → h'.1 j = h.1 j ∧ h'.2.1 j = h.2.1 j ∧ h'.2.2 j = h.2.2 j) (hc : am_at g h' k H1) : am_P g h' n H1 := by
  refine ⟨hz.trans hP.1, hP.2.1, fun j hj => ?_⟩
  by_cases e : j = k
  · rw [e]; exact hc
  · have h1 := hP.2.2 j hj
    have hq : H1[g.1 + j]? = H[g.1 + j]? := ho _ (by rw [hP.a hk]; omega)
    have hf : ∀ (ty : FieldType) (i : Nat), am_f g h' j ty i = am_f g h j ty i := by
      intro ty i
      obtain ⟨q1, q2, q3⟩ := hsame j e
      unfold am_f
      rw [q1, q2, q3]
    unfold am_at at h1 ⊢
    cases hs : am_s j with
    | inl q =>
      rw [hs] at h1
      show H1[g.1 + j]? = _
      rw [hq]
      rw [show (fun i => am_f g h' j q.1 i) = (fun i => am_f g h j q.1 i) from funext (hf q.1)]
      exact h1
    | inr ci =>
      rw [hs] at h1
      show t_OB _ _ _ _ _ _
      rw [show (fun i => am_f g h' j (am_ft ci i) i) = (fun i => am_f g h j (am_ft ci i) i) from funext (fun i => hf _ i)]
      exact h1.kept hq
/-- a new cell -/
theorem am_P.push {g : am_G} {h h' : am_H} {n : Nat} {H H1 : Heap} (hP : am_P g h n H) (hn : n + 1 ≤ 64) (hz : H1.size = H.size + 1) (ho : ∀ q, q < H.size → H1[q]? = H[q]?) (hsame : ∀ j, j < n → h'.1 j = h.1 j ∧ h'.2.1 j = h.2.1 j ∧ h'.2.2 j = h.2.2 j) (hc : am_at g h' n H1) : am_P g h' (n + 1) H1 := by
  refine ⟨by rw [hz, hP.1]; omega, hn, fun j hj => ?_⟩
  by_cases e : j = n
  · rw [e]; exact hc
  · have hj' : j < n := by omega
    have h1 := hP.2.2 j hj'
    have hq : H1[g.1 + j]? = H[g.1 + j]? := ho _ (by rw [hP.1]; omega)
    have hf : ∀ (ty : FieldType) (i : Nat), am_f g h' j ty i = am_f g h j ty i := by
      intro ty i
      obtain ⟨q1, q2, q3⟩ := hsame j hj'
      unfold am_f
      rw [q1, q2, q3]
    unfold am_at at h1 ⊢
    cases hs : am_s j with
    | inl q =>
      rw [hs] at h1
      show H1[g.1 + j]? = _
      rw [hq]
      rw [show (fun i => am_f g h' j q.1 i) = (fun i => am_f g h j q.1 i) from funext (hf q.1)]
      exact h1
    | inr ci =>
      rw [hs] at h1
      show t_OB _ _ _ _ _ _
      rw [show (fun i => am_f g h' j (am_ft ci i) i) = (fun i => am_f g h j (am_ft ci i) i) from funext (fun i => hf _ i)]
      exact h1.kept hq
/-- a heap that says the same of the cells -/
theorem am_P.same {g : am_G} {h h' : am_H} {n : Nat} {H : Heap} (hP : am_P g h n H) (hsame : ∀ j, j < n → ∀ i, i < am_z j → h'.1 j i = h.1 j i ∧ h'.2.1 j i = h.2.1 j i ∧ h'.2.2 j i = h.2.2 j i) : am_P g h' n H := by
  refine ⟨hP.1, hP.2.1, fun j hj => ?_⟩
  have h1 := hP.2.2 j hj
  have hz := hsame j hj
  have hf : ∀ (ty : FieldType) (i : Nat), i < am_z j → am_f g h' j ty i = am_f g h j ty i := by
    intro ty i hi
    obtain ⟨q1, q2, q3⟩ := hz i hi
    unfold am_f
    rw [q1, q2, q3]
  unfold am_z at hf
  unfold am_at at h1 ⊢
  cases hs : am_s j with
  | inl q =>
    rw [hs] at h1 hf
    show H[g.1 + j]? = _
    have e : arrV (g.2.2.1 q.1) q.2 (fun i => am_f g h' j q.1 i) = arrV (g.2.2.1 q.1) q.2 (fun i => am_f g h j q.1 i) := by
      unfold arrV
      congr 2
      funext i
      exact hf q.1 i.val i.isLt
    rw [e]
    exact h1
  | inr ci =>
    rw [hs] at h1 hf
    exact t_OB.to h1 (fun i hi => (hf _ i hi).symm)
