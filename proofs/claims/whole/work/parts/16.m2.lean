/-! ===== draws by number ===== -/
section M2
variable {E : Nat × (Nat → Int32)} {I : Nat → Nat → Int32} {J : Nat → Nat → Int64} {b : Bool} {Q : Option Value → am_H → Prop}
/-- is a duty free of the first m of a row -/
def fre (p : Nat → Nat) (m d : Nat) : Bool := decide (∀ i, i < m → p i ≠ d)
theorem fre_t {p : Nat → Nat} {m d : Nat} : fre p m d = true ↔ ∀ i, i < m → p i ≠ d := by unfold fre; exact decide_eq_true_iff
theorem fre_s {p : Nat → Nat} {m d : Nat} : fre p (m + 1) d = (if d = p m then false else fre p m d) := by
  by_cases e : d = p m
  · rw [if_pos e]
    have : ¬ fre p (m + 1) d = true := fun h => (fre_t.mp h) m (by omega) e.symm
    simpa using this
  · rw [if_neg e]
    have : fre p (m + 1) d = true ↔ fre p m d = true := by
      rw [fre_t, fre_t]
      constructor
      · intro h i hi; exact h i (by omega)
      · intro h i hi
        rcases Nat.lt_or_ge i m with q | q
        · exact h i q
        · rw [show i = m by omega]; exact fun z => e z.symm
    cases h1 : fre p (m + 1) d <;> cases h2 : fre p m d <;> simp_all
theorem fre_cong {p q : Nat → Nat} {m d : Nat} (h : ∀ i, i < m → p i = q i) : fre p m d = fre q m d := by
  have : fre p m d = true ↔ fre q m d = true := by
    rw [fre_t, fre_t]
    exact ⟨fun z i hi => by rw [← h i hi]; exact z i hi, fun z i hi => by rw [h i hi]; exact z i hi⟩
  cases h1 : fre p m d <;> cases h2 : fre q m d <;> simp_all
/-- how many are free below n: each of the first m takes one -/
theorem fre_ct {p : Nat → Nat} {n : Nat} : ∀ m, (∀ i, i < m → p i < n) → (∀ i j, i < j → j < m → p i ≠ p j) → fb_ct (fre p m) n + m = n
  | 0, _, _ => by
    have : fb_ct (fre p 0) n = n := fb_ct_all.mpr (fun k _ => fre_t.mpr (fun i hi => by omega))
    omega
  | m + 1, h1, h2 => by
    have ih := fre_ct m (fun i hi => h1 i (by omega)) (fun i j hi hj => h2 i j hi (by omega))
    have e : fb_ct (fre p (m + 1)) n = fb_ct (fun k => if k = p m then false else fre p m k) n := fb_ct_cong (fun k _ => fre_s)
    have hf : fre p m (p m) = true := fre_t.mpr (fun i hi => h2 i m hi (by omega))
    have u := fb_ct_upd (fre p m) false (h1 m (by omega))
    rw [hf] at u
    simp only [if_true] at u
    rw [e]
    have z : (if false = true then 1 else 0) = 0 := rfl
    rw [z] at u
    omega
/-- the duty that is free and has a free ones ahead of it -/
def kth (f : Nat → Bool) (a : Nat) : Nat := ((List.range 8).find? (fun d => f d && fb_ct f d == a)).getD 0
theorem kth_of {f : Nat → Bool} {a d : Nat} (hd : d < 8) (h1 : f d = true) (h2 : fb_ct f d = a) : kth f a = d := by
  unfold kth
  cases h : (List.range 8).find? (fun d => f d && fb_ct f d == a) with
  | none =>
    have := List.find?_eq_none.mp h d (List.mem_range.mpr hd)
    simp [h1, h2] at this
  | some e =>
    have := List.find?_some h
    simp only [Bool.and_eq_true, beq_iff_eq] at this
    exact fb_ct_kth_one this.1 h1 (this.2.trans h2.symm)
/-- the row of a number: its first m places, and what is left -/
def urS (n code : Nat) : Nat → (Nat → Nat) × Nat
  | 0 => (fun _ => 0, code)
  | m + 1 => (va_up (urS n code m).1 m (kth (fre (urS n code m).1 m) ((urS n code m).2 / fct (n - 1 - m))), (urS n code m).2 % fct (n - 1 - m))
def ur (n code : Nat) : Nat → Nat := (urS n code n).1
theorem fct_pos : ∀ n, 0 < fct n
  | 0 => Nat.one_pos
  | n + 1 => Nat.mul_pos (fct_pos n) (Nat.succ_pos n)
/-- what holds behind m places -/
theorem urS_ok {n code : Nat} (hn : n ≤ 7) (hc : code < fct n) : ∀ m, m ≤ n → (∀ i, i < m → (urS n code m).1 i < n) ∧ (∀ i j, i < j → j < m → (urS n code m).1 i ≠ (urS n code m).1 j) ∧ (urS n code m).2 < fct (n - m)
  | 0, _ => ⟨fun i hi => by omega, fun i j hi hj => by omega, hc⟩
  | m + 1, hm => by
    obtain ⟨h1, h2, h3⟩ := urS_ok hn hc m (by omega)
    have hf : fct (n - m) = fct (n - 1 - m) * (n - m) := by
      rw [show n - m = (n - 1 - m) + 1 by omega]; rfl
    have ha : (urS n code m).2 / fct (n - 1 - m) < n - m := by
      rw [hf] at h3
      exact Nat.div_lt_of_lt_mul h3
    have hct := fre_ct m h1 h2
    obtain ⟨d, hd, hd1, hd2⟩ := fb_ct_kth (p := fre (urS n code m).1 m) (k := (urS n code m).2 / fct (n - 1 - m)) (n := n) (by omega)
    have hk : kth (fre (urS n code m).1 m) ((urS n code m).2 / fct (n - 1 - m)) = d := kth_of (by omega) hd1 hd2
    have e1 : (urS n code (m + 1)).1 = va_up (urS n code m).1 m d := by show va_up _ _ _ = _; rw [hk]
    have e2 : (urS n code (m + 1)).2 = (urS n code m).2 % fct (n - 1 - m) := rfl
    have um : va_up (urS n code m).1 m d m = d := by unfold va_up; rw [if_pos rfl]
    have un : ∀ i, i ≠ m → va_up (urS n code m).1 m d i = (urS n code m).1 i := fun i hi => by unfold va_up; rw [if_neg hi]
    rw [e1, e2]
    refine ⟨fun i hi => ?_, fun i j hi hj => ?_, ?_⟩
    · by_cases q : i = m
      · rw [q, um]; exact hd
      · rw [un i q]; exact h1 i (by omega)
    · by_cases q : j = m
      · rw [q, um, un i (by omega)]; exact fre_t.mp hd1 i (by omega)
      · rw [un j q, un i (by omega)]; exact h2 i j hi (by omega)
    · rw [show n - (m + 1) = n - 1 - m by omega]
      exact Nat.mod_lt _ (fct_pos _)
/-- a row whose places are different and below n -/
def Pm (p : Nat → Nat) (n : Nat) : Prop := (∀ i, i < n → p i < n) ∧ ∀ i j, i < j → j < n → p i ≠ p j
theorem ur_pm {n code : Nat} (hn : n ≤ 7) (hc : code < fct n) : Pm (ur n code) n := by
  obtain ⟨h1, h2, -⟩ := urS_ok hn hc n (Nat.le_refl _)
  exact ⟨h1, h2⟩
/-- the bits of the taken duties -/
def tbx (U : Int32) (d : Nat) : Prop := ((U >>> (nI d &&& 31)) &&& 1) = 1
def Mk (U : Int32) (p : Nat → Nat) (m : Nat) : Prop := ∃ k : Nat, k < 128 ∧ U = nI k ∧ ∀ d, d < 7 → (k.testBit d = true ↔ ∃ i, i < m ∧ p i = d)
theorem tb_iff : ∀ k, k < 128 → ∀ d, d < 7 → ((((nI k) >>> (nI d &&& 31)) &&& 1) = 1 ↔ k.testBit d = true) ∧ ((((nI k) >>> (nI d &&& 31)) &&& 1) = if k.testBit d then 1 else 0) ∧ (nI k ||| ((1 : Int32) <<< (nI d &&& 31)) = nI (k ||| 2 ^ d)) ∧ (k ||| 2 ^ d < 128) := by decide +kernel
theorem Mk.tb {U : Int32} {p : Nat → Nat} {m d : Nat} (h : Mk U p m) (hd : d < 7) : tbx U d ↔ fre p m d = false := by
  obtain ⟨k, hk, rfl, hb⟩ := h
  have e : fre p m d = false ↔ ∃ i, i < m ∧ p i = d := by
    constructor
    · intro hf
      by_cases q : ∃ i, i < m ∧ p i = d
      · exact q
      · have : fre p m d = true := fre_t.mpr (fun i hi z => q ⟨i, hi, z⟩)
        rw [hf] at this; cases this
    · rintro ⟨i, hi, hz⟩
      cases hf : fre p m d with
      | false => rfl
      | true => exact absurd hz (fre_t.mp hf i hi)
  rw [e, ← hb d hd]
  exact (tb_iff k hk d hd).1
theorem Mk.bit {U : Int32} {p : Nat → Nat} {m d : Nat} (h : Mk U p m) (hd : d < 7) : ((U >>> (nI d &&& 31)) &&& 1) = if fre p m d then 0 else 1 := by
  have h1 := h.tb hd
  obtain ⟨k, hk, rfl, hb⟩ := h
  have h2 := (tb_iff k hk d hd).2.1
  have h3 := (tb_iff k hk d hd).1
  unfold tbx at h1
  cases hf : fre p m d with
  | true =>
    rw [hf] at h1
    rw [h2]
    cases hk2 : k.testBit d with
    | true => exact absurd (h1.mp (h3.mpr hk2)) (by decide)
    | false => rfl
  | false =>
    rw [hf] at h1
    exact h1.mpr rfl
theorem Mk.zero (p : Nat → Nat) : Mk 0 p 0 := ⟨0, by decide, rfl, fun d _ => by simp⟩
theorem Mk.add {U : Int32} {p : Nat → Nat} {m d : Nat} (h : Mk U p m) (hd : d < 7) (hp : p m = d) : Mk (U ||| ((1 : Int32) <<< (nI d &&& 31))) p (m + 1) := by
  obtain ⟨k, hk, rfl, hb⟩ := h
  obtain ⟨-, -, h3, h4⟩ := tb_iff k hk d hd
  refine ⟨k ||| 2 ^ d, h4, h3, fun x hx => ?_⟩
  rw [fb_bit_set]
  simp only [Bool.or_eq_true, decide_eq_true_eq, hb x hx]
  constructor
  · rintro (⟨i, hi, hz⟩ | hz)
    · exact ⟨i, by omega, hz⟩
    · exact ⟨m, by omega, by rw [hp, hz]⟩
  · rintro ⟨i, hi, hz⟩
    by_cases q : i = m
    · subst q; exact Or.inr (by rw [← hz, hp])
    · exact Or.inl ⟨i, by omega, hz⟩
theorem Mk.cong {U : Int32} {p q : Nat → Nat} {m : Nat} (h : Mk U p m) (e : ∀ i, i < m → p i = q i) : Mk U q m := by
  obtain ⟨k, hk, hU, hb⟩ := h
  refine ⟨k, hk, hU, fun d hd => ?_⟩
  rw [hb d hd]
  constructor
  · rintro ⟨i, hi, hz⟩; exact ⟨i, hi, by rw [← e i hi]; exact hz⟩
  · rintro ⟨i, hi, hz⟩; exact ⟨i, hi, by rw [e i hi]; exact hz⟩
theorem fct_le : ∀ k, k < 8 → 0 < fct k ∧ fct k ≤ 5040 := by decide
theorem bX10_takeDraw_0 {E : Nat × (Nat → Int32)} {I : Nat → Nat → Int32} {J : Nat → Nat → Int64} {b : Bool} {a1 : Int32} {Q : Option Value → am_H → Prop}  (wp : am_R E mX10_takeDraw 7 [some (.ref 48), none, some (.int a1), some (.int 0), some (.int 0), none, none, none] [] (hp I J b) 64 64 Q) : am_R E mX10_takeDraw 0 [some (.ref 48), some (.int a1), none, none, none, none, none, none] [] (hp I J b) 64 64 Q := by
  refine am_iload_n rfl rfl dX10_takeDraw_0 ?_
  refine am_istore_n (ls' := [some (.ref 48), some (.int a1), some (.int a1), none, none, none, none, none]) rfl (by decide) rfl rfl dX10_takeDraw_1 ?_
  refine am_iconst 0 rfl dX10_takeDraw_2 ?_
  refine am_istore_n (ls' := [some (.ref 48), some (.int a1), some (.int a1), some (.int 0), none, none, none, none]) rfl (by decide) rfl rfl dX10_takeDraw_3 ?_
  refine am_iconst 0 rfl dX10_takeDraw_4 ?_
  refine am_istore (ls' := [some (.ref 48), some (.int a1), some (.int a1), some (.int 0), some (.int 0), none, none, none]) (by decide) rfl rfl dX10_takeDraw_5 ?_
  exact am_R.forget wp ⟨rfl, ⟨rfl, ⟨rfl, ⟨rfl, trivial⟩⟩⟩⟩
theorem bX10_takeDraw_7 {E : Nat × (Nat → Int32)} {I : Nat → Nat → Int32} {J : Nat → Nat → Int64} {b : Bool} {a2 : Int32} {a3 : Int32} {a4 : Int32} {Q : Option Value → am_H → Prop}  (wp : (((I 48 0) ≤ a4 → Q none (hp I J b)) ∧ (¬ (I 48 0) ≤ a4 → ∃ j2, (((I 48 0) - 1) - a4) = nI j2 ∧ j2 < 8 ∧ ¬ (nI (fct j2)) = 0 ∧ ¬ (nI (fct j2)) = 0 ∧ am_R E mX10_takeDraw 44 [some (.ref 48), none, some (.int (a2 - a2 / (nI (fct j2)) * (nI (fct j2)))), some (.int a3), some (.int a4), none, some (.int (a2 / (nI (fct j2)))), some (.int 0)] [] (hp I J b) 64 64 Q))) : am_R E mX10_takeDraw 7 [some (.ref 48), none, some (.int a2), some (.int a3), some (.int a4), none, none, none] [] (hp I J b) 64 64 Q := by
  refine am_iload rfl dX10_takeDraw_7 ?_
  refine am_aload_n rfl rfl dX10_takeDraw_9 ?_
  refine am_getI dX10_takeDraw_10 flX10_7 (Or.inl rfl) rfl (by decide) ?_
  refine am_icmp_ge dX10_takeDraw_13 (tgt := 100) rfl (fun hc1 => ?_) (fun hc1 => ?_)
  · have wp := wp.1 hc1
    exact am_vret dX10_takeDraw_100 rfl wp
  · have wp := wp.2 hc1
    refine am_aload_n rfl rfl dX10_takeDraw_16 ?_
    refine am_getI dX10_takeDraw_17 flX10_7 (Or.inl rfl) rfl (by decide) ?_
    refine am_iconst 1 rfl dX10_takeDraw_20 ?_
    refine am_isub dX10_takeDraw_21 ?_
    refine am_iload rfl dX10_takeDraw_22 ?_
    refine am_isub dX10_takeDraw_24 ?_
    obtain ⟨j2, e2, w2, wp⟩ := wp
    refine am_invS (As := [.int (((I 48 0) - 1) - a4)]) (lsZ := [some (.int (((I 48 0) - 1) - a4)), none, none]) (st := []) dX10_takeDraw_25 hX10_draws lkX10_173 ⟨by decide, by decide⟩ rfl rfl (Nat.le_of_ble_eq_true rfl) rfl (Nat.le_of_ble_eq_true rfl) ⟨Nat.le_refl _, Nat.le_refl _⟩ (tX10_draws (n := j2) e2 (Nat.le_of_lt_succ w2) ?_)
    show am_R E mX10_takeDraw 28 [some (.ref 48), none, some (.int a2), some (.int a3), some (.int a4), none, none, none] [.int (nI (fct j2))] (hp I J b) 64 64 Q
    refine am_istore (ls' := [some (.ref 48), none, some (.int a2), some (.int a3), some (.int a4), some (.int (nI (fct j2))), none, none]) (by decide) rfl rfl dX10_takeDraw_28 ?_
    refine am_iload_n rfl rfl dX10_takeDraw_30 ?_
    refine am_iload rfl dX10_takeDraw_31 ?_
    obtain ⟨w3, wp⟩ := wp
    refine am_idiv w3 dX10_takeDraw_33 ?_
    refine am_istore (ls' := [some (.ref 48), none, some (.int a2), some (.int a3), some (.int a4), some (.int (nI (fct j2))), some (.int (a2 / (nI (fct j2)))), none]) (by decide) rfl rfl dX10_takeDraw_34 ?_
    refine am_iload_n rfl rfl dX10_takeDraw_36 ?_
    refine am_iload rfl dX10_takeDraw_37 ?_
    obtain ⟨w4, wp⟩ := wp
    refine am_irem w4 dX10_takeDraw_39 ?_
    refine am_istore_n (ls' := [some (.ref 48), none, some (.int (a2 - a2 / (nI (fct j2)) * (nI (fct j2)))), some (.int a3), some (.int a4), some (.int (nI (fct j2))), some (.int (a2 / (nI (fct j2)))), none]) rfl (by decide) rfl rfl dX10_takeDraw_40 ?_
    refine am_iconst 0 rfl dX10_takeDraw_41 ?_
    refine am_istore (ls' := [some (.ref 48), none, some (.int (a2 - a2 / (nI (fct j2)) * (nI (fct j2)))), some (.int a3), some (.int a4), some (.int (nI (fct j2))), some (.int (a2 / (nI (fct j2)))), some (.int 0)]) (by decide) rfl rfl dX10_takeDraw_42 ?_
    exact am_R.forget wp ⟨rfl, ⟨rfl, ⟨rfl, ⟨rfl, ⟨rfl, ⟨rfl, trivial⟩⟩⟩⟩⟩⟩
theorem bX10_takeDraw_44 {E : Nat × (Nat → Int32)} {I : Nat → Nat → Int32} {J : Nat → Nat → Int64} {b : Bool} {a2 : Int32} {a3 : Int32} {a4 : Int32} {a6 : Int32} {a7 : Int32} {Q : Option Value → am_H → Prop}  (wp : ((((a3 >>> (a7 &&& 31)) &&& 1) = 1 → am_R E mX10_takeDraw 44 [some (.ref 48), none, some (.int a2), some (.int a3), some (.int a4), none, some (.int (a6 - (((a3 >>> (a7 &&& 31)) &&& 1) ^^^ 1))), some (.int (a7 + 1))] [] (hp I J b) 64 64 Q) ∧ (¬ ((a3 >>> (a7 &&& 31)) &&& 1) = 1 → ((a6 ≤ 0 → ∃ j3, a4 = nI j3 ∧ j3 < 7 ∧ am_R E mX10_takeDraw 7 [some (.ref 48), none, some (.int a2), some (.int (a3 ||| (1 <<< (a7 &&& 31)))), some (.int (a4 + 1)), none, none, none] [] (hp (u2 I 58 j3 a7) J b) 64 64 Q) ∧ (¬ a6 ≤ 0 → am_R E mX10_takeDraw 44 [some (.ref 48), none, some (.int a2), some (.int a3), some (.int a4), none, some (.int (a6 - (((a3 >>> (a7 &&& 31)) &&& 1) ^^^ 1))), some (.int (a7 + 1))] [] (hp I J b) 64 64 Q))))) : am_R E mX10_takeDraw 44 [some (.ref 48), none, some (.int a2), some (.int a3), some (.int a4), none, some (.int a6), some (.int a7)] [] (hp I J b) 64 64 Q := by
  refine am_iload_n rfl rfl dX10_takeDraw_44 ?_
  refine am_iload rfl dX10_takeDraw_45 ?_
  refine am_ishr dX10_takeDraw_47 ?_
  refine am_iconst 1 rfl dX10_takeDraw_48 ?_
  refine am_iand dX10_takeDraw_49 ?_
  refine am_iconst 1 rfl dX10_takeDraw_50 ?_
  refine am_icmp_eq dX10_takeDraw_51 (tgt := 59) rfl (fun hc1 => ?_) (fun hc1 => ?_)
  · have wp := wp.1 hc1
    refine am_iload rfl dX10_takeDraw_59 ?_
    refine am_iload_n rfl rfl dX10_takeDraw_61 ?_
    refine am_iload rfl dX10_takeDraw_62 ?_
    refine am_ishr dX10_takeDraw_64 ?_
    refine am_iconst 1 rfl dX10_takeDraw_65 ?_
    refine am_iand dX10_takeDraw_66 ?_
    refine am_iconst 1 rfl dX10_takeDraw_67 ?_
    refine am_ixor dX10_takeDraw_68 ?_
    refine am_isub dX10_takeDraw_69 ?_
    refine am_istore (ls' := [some (.ref 48), none, some (.int a2), some (.int a3), some (.int a4), none, some (.int (a6 - (((a3 >>> (a7 &&& 31)) &&& 1) ^^^ 1))), some (.int a7)]) (by decide) rfl rfl dX10_takeDraw_70 ?_
    refine am_iinc (ls' := [some (.ref 48), none, some (.int a2), some (.int a3), some (.int a4), none, some (.int (a6 - (((a3 >>> (a7 &&& 31)) &&& 1) ^^^ 1))), some (.int (a7 + 1))]) (by decide) rfl rfl rfl dX10_takeDraw_72 ?_
    refine am_goto dX10_takeDraw_75 (tgt := 44) rfl ?_
    exact am_R.forget wp ⟨rfl, ⟨rfl, ⟨rfl, ⟨rfl, ⟨rfl, ⟨rfl, trivial⟩⟩⟩⟩⟩⟩
  · have wp := wp.2 hc1
    refine am_iload rfl dX10_takeDraw_54 ?_
    refine am_if_le dX10_takeDraw_56 (tgt := 78) rfl (fun hc2 => ?_) (fun hc2 => ?_)
    · have wp := wp.1 hc2
      refine am_aload_n rfl rfl dX10_takeDraw_78 ?_
      refine am_getA (r := 58) dX10_takeDraw_79 flX10_45 (Or.inr ⟨_, rfl⟩) rfl (by decide) rfl ?_
      refine am_iload rfl dX10_takeDraw_82 ?_
      refine am_iload rfl dX10_takeDraw_84 ?_
      obtain ⟨j3, e3, w3, wp⟩ := wp
      refine am_iastN (j := j3) dX10_takeDraw_86 rfl (by decide) e3 w3 (by decide) ?_
      refine am_iload_n rfl rfl dX10_takeDraw_87 ?_
      refine am_iconst 1 rfl dX10_takeDraw_88 ?_
      refine am_iload rfl dX10_takeDraw_89 ?_
      refine am_ishl dX10_takeDraw_91 ?_
      refine am_ior dX10_takeDraw_92 ?_
      refine am_istore_n (ls' := [some (.ref 48), none, some (.int a2), some (.int (a3 ||| (1 <<< (a7 &&& 31)))), some (.int a4), none, some (.int a6), some (.int a7)]) rfl (by decide) rfl rfl dX10_takeDraw_93 ?_
      refine am_iinc (ls' := [some (.ref 48), none, some (.int a2), some (.int (a3 ||| (1 <<< (a7 &&& 31)))), some (.int (a4 + 1)), none, some (.int a6), some (.int a7)]) (by decide) rfl rfl rfl dX10_takeDraw_94 ?_
      refine am_goto dX10_takeDraw_97 (tgt := 7) rfl ?_
      exact am_R.forget wp ⟨rfl, ⟨rfl, ⟨rfl, ⟨rfl, trivial⟩⟩⟩⟩
    · have wp := wp.2 hc2
      refine am_iload rfl dX10_takeDraw_59 ?_
      refine am_iload_n rfl rfl dX10_takeDraw_61 ?_
      refine am_iload rfl dX10_takeDraw_62 ?_
      refine am_ishr dX10_takeDraw_64 ?_
      refine am_iconst 1 rfl dX10_takeDraw_65 ?_
      refine am_iand dX10_takeDraw_66 ?_
      refine am_iconst 1 rfl dX10_takeDraw_67 ?_
      refine am_ixor dX10_takeDraw_68 ?_
      refine am_isub dX10_takeDraw_69 ?_
      refine am_istore (ls' := [some (.ref 48), none, some (.int a2), some (.int a3), some (.int a4), none, some (.int (a6 - (((a3 >>> (a7 &&& 31)) &&& 1) ^^^ 1))), some (.int a7)]) (by decide) rfl rfl dX10_takeDraw_70 ?_
      refine am_iinc (ls' := [some (.ref 48), none, some (.int a2), some (.int a3), some (.int a4), none, some (.int (a6 - (((a3 >>> (a7 &&& 31)) &&& 1) ^^^ 1))), some (.int (a7 + 1))]) (by decide) rfl rfl rfl dX10_takeDraw_72 ?_
      refine am_goto dX10_takeDraw_75 (tgt := 44) rfl ?_
      exact am_R.forget wp ⟨rfl, ⟨rfl, ⟨rfl, ⟨rfl, ⟨rfl, ⟨rfl, trivial⟩⟩⟩⟩⟩⟩
theorem tX10_takeDraw {a1 : Int32} {n code : Nat} (hN : Nn I n) (e : a1 = nI code) (hc : code < fct n) (k : ∀ f, Rw f (ur n code) n → Q none (hp (u1 I 58 f) J b)) : am_R E mX10_takeDraw 0 [some (.ref 48), some (.int a1), none, none, none, none, none, none] [] (hp I J b) 64 64 Q := by
  subst e
  obtain ⟨h0, h2, h7⟩ := hN
  have hcl : code < 5040 := Nat.lt_of_lt_of_le hc (fct_le n (by omega)).2
  refine bX10_takeDraw_0 ?_
  have key : ∀ j m, m + j = n → ∀ (U : Int32) (f : Nat → Int32), Mk U (urS n code m).1 m → (∀ i, i < m → f i = nI ((urS n code m).1 i)) → am_R E mX10_takeDraw 7 [some (.ref 48), none, some (.int (nI (urS n code m).2)), some (.int U), some (.int (nI m)), none, none, none] [] (hp (u1 I 58 f) J b) 64 64 Q := by
    intro j
    induction j with
    | zero =>
      intro m hm U f hU hf
      have e : m = n := by omega
      subst e
      refine bX10_takeDraw_7 (le_br (by rw [u1_n _ _ (by decide)]; exact h0) rfl (by omega) (by omega) (fun _ => k f (fun i hi => ⟨hf i hi, (ur_pm h7 hc).1 i hi⟩)) (fun h => by omega))
    | succ j ih =>
      intro m hm U f hU hf
      obtain ⟨o1, o2, o3⟩ := urS_ok h7 hc m (by omega)
      obtain ⟨o4, o5, o6⟩ := urS_ok h7 hc (m + 1) (by omega)
      have hfl := fct_le (n - 1 - m) (by omega)
      have hll : (urS n code m).2 < 5040 := Nat.lt_of_lt_of_le o3 (fct_le (n - m) (by omega)).2
      have hf2 : fct (n - m) = fct (n - 1 - m) * (n - m) := by
        rw [show n - m = (n - 1 - m) + 1 by omega]; rfl
      have ha : (urS n code m).2 / fct (n - 1 - m) < n - m := by
        rw [hf2] at o3
        exact Nat.div_lt_of_lt_mul o3
      have hct := fre_ct m o1 o2
      generalize hA : (urS n code m).2 / fct (n - 1 - m) = A at ha
      obtain ⟨d, hd, hd1, hd2⟩ := fb_ct_kth (p := fre (urS n code m).1 m) (k := A) (n := n) (by omega)
      have hk : kth (fre (urS n code m).1 m) A = d := kth_of (by omega) hd1 hd2
      have e1 : (urS n code (m + 1)).1 = va_up (urS n code m).1 m d := by show va_up _ _ _ = _; rw [hA, hk]
      have e2 : (urS n code (m + 1)).2 = (urS n code m).2 % fct (n - 1 - m) := rfl
      have hne : ¬ nI (fct (n - 1 - m)) = 0 := nI_ne0 hfl.1 (by omega)
      refine bX10_takeDraw_7 (le_br (by rw [u1_n _ _ (by decide)]; exact h0) rfl (by omega) (by omega) (fun h => by omega) (fun _ => ⟨n - 1 - m, ?_, by omega, hne, hne, ?_⟩))
      · rw [u1_n _ _ (by decide), h0, show (1 : Int32) = nI 1 from rfl, pk_sub (by omega), pk_sub (by omega)]
      · rw [pk_rem (by omega) hfl.1 (by omega), pk_div (by omega) hfl.1 (by omega), hA]
        -- the search for the duty
        have inner : ∀ r x a, x + r = d → a + fb_ct (fre (urS n code m).1 m) x = A → am_R E mX10_takeDraw 44 [some (.ref 48), none, some (.int (nI ((urS n code m).2 % fct (n - 1 - m)))), some (.int U), some (.int (nI m)), none, some (.int (nI a)), some (.int (nI x))] [] (hp (u1 I 58 f) J b) 64 64 Q := by
          intro r
          induction r with
          | zero =>
            intro x a hx hax
            have ex : x = d := by omega
            subst ex
            have a0 : a = 0 := by omega
            subst a0
            refine bX10_takeDraw_44 ⟨fun z => ?_, fun _ => ⟨fun _ => ⟨m, rfl, by omega, ?_⟩, fun z => absurd (show nI 0 ≤ 0 by decide) z⟩⟩
            · have := (hU.tb (show x < 7 by omega)).mp z
              rw [hd1] at this; cases this
            · rw [n1, u2_u1]
              have q := ih (m + 1) (by omega) (U ||| ((1 : Int32) <<< (nI x &&& 31))) (upd f m (nI x)) ?_ ?_
              · rw [e2] at q; exact q
              · refine Mk.add (Mk.cong hU (fun i hi => ?_)) (by omega) ?_
                · rw [e1]; unfold va_up; rw [if_neg (by omega)]
                · rw [e1]; unfold va_up; rw [if_pos rfl]
              · intro i hi
                rw [e1]; unfold upd va_up
                by_cases q : i = m
                · rw [if_pos q, if_pos q]
                · rw [if_neg q, if_neg q]; exact hf i (by omega)
          | succ r ihr =>
            intro x a hx hax
            have hb := hU.bit (show x < 7 by omega)
            have hs := fb_ct_succ (fre (urS n code m).1 m) x
            have hmono := fb_ct_mono (fre (urS n code m).1 m) (show x + 1 ≤ d by omega)
            cases hfx : fre (urS n code m).1 m x with
            | true =>
              rw [hfx] at hb hs
              simp only [if_true] at hb hs
              have h1 : 1 ≤ a := by omega
              refine bX10_takeDraw_44 ⟨fun z => ?_, fun _ => ⟨fun z => ?_, fun _ => ?_⟩⟩
              · rw [hb] at z; exact absurd z (by decide)
              · exact absurd z (nI_nle (by omega) (by omega))
              · rw [hb, n1, show nI a - (0 ^^^ 1 : Int32) = nI (a - 1) by
                  rw [show (0 ^^^ 1 : Int32) = nI 1 from rfl, pk_sub h1]]
                exact ihr (x + 1) (a - 1) (by omega) (by omega)
            | false =>
              rw [hfx] at hb hs
              simp only [Bool.false_eq_true, if_false] at hb hs
              refine bX10_takeDraw_44 ⟨fun _ => ?_, fun z => absurd hb z⟩
              rw [hb, n1, show nI a - (1 ^^^ 1 : Int32) = nI a by
                rw [show (1 ^^^ 1 : Int32) = nI 0 from rfl, pk_sub (Nat.zero_le _), Nat.sub_zero]]
              exact ihr (x + 1) a (by omega) (by omega)
        exact inner d 0 A (by omega) (by simp [fb_ct])
  have := key n 0 (by omega) 0 (I 58) (Mk.zero _) (fun i hi => by omega)
  rw [u1_self] at this
  exact this
end M2
