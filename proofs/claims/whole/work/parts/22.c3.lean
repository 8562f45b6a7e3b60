/-! ===== the class: draws by number ===== -/
section C3
variable {E : Nat × (Nat → Int32)} {I : Nat → Nat → Int32} {J : Nat → Nat → Int64} {b : Bool} {Q : Option Value → am_H → Prop}
theorem fa_fct : ∀ j, j < 8 → am_fa j = nI (fct j) := by decide
theorem bX3_fill_0 {E : Nat × (Nat → Int32)} {I : Nat → Nat → Int32} {J : Nat → Nat → Int64} {b : Bool} {a0 : Nat} {a1 : Int32} {a2 : Int32} {Q : Option Value → am_H → Prop} (hs_a0 : am_s a0 = .inl (.int, 7)) (hk_a0 : a0 < 64) (wp : am_R E mX3_fill 8 [some (.ref a0), some (.int a1), none, some (.int a2), some (.int 0), some (.int 0), none, none, none] [] (hp I J b) 64 64 Q) : am_R E mX3_fill 0 [some (.ref a0), some (.int a1), some (.int a2), none, none, none, none, none, none] [] (hp I J b) 64 64 Q := by
  refine am_iload_n rfl rfl dX3_fill_0 ?_
  refine am_istore_n (ls' := [some (.ref a0), some (.int a1), some (.int a2), some (.int a2), none, none, none, none, none]) rfl (by decide) rfl rfl dX3_fill_1 ?_
  refine am_iconst 0 rfl dX3_fill_2 ?_
  refine am_istore (ls' := [some (.ref a0), some (.int a1), some (.int a2), some (.int a2), some (.int 0), none, none, none, none]) (by decide) rfl rfl dX3_fill_3 ?_
  refine am_iconst 0 rfl dX3_fill_5 ?_
  refine am_istore (ls' := [some (.ref a0), some (.int a1), some (.int a2), some (.int a2), some (.int 0), some (.int 0), none, none, none]) (by decide) rfl rfl dX3_fill_6 ?_
  exact am_R.forget wp ⟨rfl, ⟨rfl, ⟨rfl, ⟨rfl, ⟨rfl, trivial⟩⟩⟩⟩⟩
theorem bX3_fill_8 {E : Nat × (Nat → Int32)} {I : Nat → Nat → Int32} {J : Nat → Nat → Int64} {b : Bool} {a0 : Nat} {a1 : Int32} {a3 : Int32} {a4 : Int32} {a5 : Int32} {Q : Option Value → am_H → Prop} (hs_a0 : am_s a0 = .inl (.int, 7)) (hk_a0 : a0 < 64) (wp : ((a1 ≤ a5 → Q none (hp I J b)) ∧ (¬ a1 ≤ a5 → ∃ j2, ((a1 - 1) - a5) = nI j2 ∧ j2 < 8 ∧ am_R E mX3_fill 32 [some (.ref a0), some (.int a1), none, some (.int a3), some (.int a4), some (.int a5), some (.int (am_fa j2)), some (.int 0), some (.int 0)] [] (hp I J b) 64 64 Q))) : am_R E mX3_fill 8 [some (.ref a0), some (.int a1), none, some (.int a3), some (.int a4), some (.int a5), none, none, none] [] (hp I J b) 64 64 Q := by
  refine am_iload rfl dX3_fill_8 ?_
  refine am_iload_n rfl rfl dX3_fill_10 ?_
  refine am_icmp_ge dX3_fill_11 (tgt := 110) rfl (fun hc1 => ?_) (fun hc1 => ?_)
  · have wp := wp.1 hc1
    exact am_vret dX3_fill_110 rfl wp
  · have wp := wp.2 hc1
    refine am_gsFN dX3_fill_14 (by decide +kernel) ?_
    refine am_iload_n rfl rfl dX3_fill_17 ?_
    refine am_iconst 1 rfl dX3_fill_18 ?_
    refine am_isub dX3_fill_19 ?_
    refine am_iload rfl dX3_fill_20 ?_
    refine am_isub dX3_fill_22 ?_
    obtain ⟨j2, e2, w2, wp⟩ := wp
    refine am_ildFN (j := j2) dX3_fill_23 e2 w2 ?_
    refine am_istore (ls' := [some (.ref a0), some (.int a1), none, some (.int a3), some (.int a4), some (.int a5), some (.int (am_fa j2)), none, none]) (by decide) rfl rfl dX3_fill_24 ?_
    refine am_iconst 0 rfl dX3_fill_26 ?_
    refine am_istore (ls' := [some (.ref a0), some (.int a1), none, some (.int a3), some (.int a4), some (.int a5), some (.int (am_fa j2)), some (.int 0), none]) (by decide) rfl rfl dX3_fill_27 ?_
    refine am_iconst 0 rfl dX3_fill_29 ?_
    refine am_istore (ls' := [some (.ref a0), some (.int a1), none, some (.int a3), some (.int a4), some (.int a5), some (.int (am_fa j2)), some (.int 0), some (.int 0)]) (by decide) rfl rfl dX3_fill_30 ?_
    exact am_R.forget wp ⟨rfl, ⟨rfl, ⟨rfl, ⟨rfl, ⟨rfl, ⟨rfl, ⟨rfl, ⟨rfl, trivial⟩⟩⟩⟩⟩⟩⟩⟩
theorem bX3_fill_32 {E : Nat × (Nat → Int32)} {I : Nat → Nat → Int32} {J : Nat → Nat → Int64} {b : Bool} {a0 : Nat} {a1 : Int32} {a3 : Int32} {a4 : Int32} {a5 : Int32} {a6 : Int32} {a7 : Int32} {a8 : Int32} {Q : Option Value → am_H → Prop} (hs_a0 : am_s a0 = .inl (.int, 7)) (hk_a0 : a0 < 64) (wp : ((a1 ≤ a8 → am_R E mX3_fill 8 [some (.ref a0), some (.int a1), none, some (.int a3), some (.int a4), some (.int (a5 + 1)), none, none, none] [] (hp I J b) 64 64 Q) ∧ (¬ a1 ≤ a8 → ((¬ a7 = 0 → am_R E mX3_fill 8 [some (.ref a0), some (.int a1), none, some (.int a3), some (.int a4), some (.int (a5 + 1)), none, none, none] [] (hp I J b) 64 64 Q) ∧ (a7 = 0 → ((¬ ((a4 >>> (a8 &&& 31)) &&& 1) = 1 → ((a6 ≤ a3 → am_R E mX3_fill 32 [some (.ref a0), some (.int a1), none, some (.int (a3 - a6)), some (.int a4), some (.int a5), some (.int a6), some (.int 0), some (.int (a8 + 1))] [] (hp I J b) 64 64 Q) ∧ (¬ a6 ≤ a3 → ∃ j5, a5 = nI j5 ∧ j5 < 7 ∧ am_R E mX3_fill 32 [some (.ref a0), some (.int a1), none, some (.int a3), some (.int (a4 ||| (1 <<< (a8 &&& 31)))), some (.int a5), some (.int a6), some (.int 1), some (.int (a8 + 1))] [] (hp (u2 I a0 j5 a8) J b) 64 64 Q))) ∧ (((a4 >>> (a8 &&& 31)) &&& 1) = 1 → am_R E mX3_fill 32 [some (.ref a0), some (.int a1), none, some (.int a3), some (.int a4), some (.int a5), some (.int a6), some (.int a7), some (.int (a8 + 1))] [] (hp I J b) 64 64 Q))))))) : am_R E mX3_fill 32 [some (.ref a0), some (.int a1), none, some (.int a3), some (.int a4), some (.int a5), some (.int a6), some (.int a7), some (.int a8)] [] (hp I J b) 64 64 Q := by
  refine am_iload rfl dX3_fill_32 ?_
  refine am_iload_n rfl rfl dX3_fill_34 ?_
  refine am_icmp_ge dX3_fill_35 (tgt := 104) rfl (fun hc1 => ?_) (fun hc1 => ?_)
  · have wp := wp.1 hc1
    refine am_iinc (ls' := [some (.ref a0), some (.int a1), none, some (.int a3), some (.int a4), some (.int (a5 + 1)), some (.int a6), some (.int a7), some (.int a8)]) (by decide) rfl rfl rfl dX3_fill_104 ?_
    refine am_goto dX3_fill_107 (tgt := 8) rfl ?_
    exact am_R.forget wp ⟨rfl, ⟨rfl, ⟨rfl, ⟨rfl, ⟨rfl, trivial⟩⟩⟩⟩⟩
  · have wp := wp.2 hc1
    refine am_iload rfl dX3_fill_38 ?_
    refine am_if_ne dX3_fill_40 (tgt := 104) rfl (fun hc2 => ?_) (fun hc2 => ?_)
    · have wp := wp.1 hc2
      refine am_iinc (ls' := [some (.ref a0), some (.int a1), none, some (.int a3), some (.int a4), some (.int (a5 + 1)), some (.int a6), some (.int a7), some (.int a8)]) (by decide) rfl rfl rfl dX3_fill_104 ?_
      refine am_goto dX3_fill_107 (tgt := 8) rfl ?_
      exact am_R.forget wp ⟨rfl, ⟨rfl, ⟨rfl, ⟨rfl, ⟨rfl, trivial⟩⟩⟩⟩⟩
    · have wp := wp.2 hc2
      refine am_iload rfl dX3_fill_43 ?_
      refine am_iload rfl dX3_fill_45 ?_
      refine am_ishr dX3_fill_47 ?_
      refine am_iconst 1 rfl dX3_fill_48 ?_
      refine am_iand dX3_fill_49 ?_
      refine am_iconst 1 rfl dX3_fill_50 ?_
      refine am_icmp_ne dX3_fill_51 (tgt := 57) rfl (fun hc3 => ?_) (fun hc3 => ?_)
      · have wp := wp.1 hc3
        refine am_iload_n rfl rfl dX3_fill_57 ?_
        refine am_iload rfl dX3_fill_58 ?_
        refine am_icmp_ge dX3_fill_60 (tgt := 67) rfl (fun hc4 => ?_) (fun hc4 => ?_)
        · have wp := wp.1 hc4
          refine am_iconst 0 rfl dX3_fill_67 ?_
          refine am_istore (ls' := [some (.ref a0), some (.int a1), none, some (.int a3), some (.int a4), some (.int a5), some (.int a6), some (.int 0), some (.int a8)]) (by decide) rfl rfl dX3_fill_68 ?_
          refine am_iload rfl dX3_fill_70 ?_
          refine am_if_eq dX3_fill_72 (tgt := 93) rfl (fun _ => ?_) (fun hc => absurd hc (by decide))
          refine am_iload_n rfl rfl dX3_fill_93 ?_
          refine am_iload rfl dX3_fill_94 ?_
          refine am_isub dX3_fill_96 ?_
          refine am_istore_n (ls' := [some (.ref a0), some (.int a1), none, some (.int (a3 - a6)), some (.int a4), some (.int a5), some (.int a6), some (.int 0), some (.int a8)]) rfl (by decide) rfl rfl dX3_fill_97 ?_
          refine am_iinc (ls' := [some (.ref a0), some (.int a1), none, some (.int (a3 - a6)), some (.int a4), some (.int a5), some (.int a6), some (.int 0), some (.int (a8 + 1))]) (by decide) rfl rfl rfl dX3_fill_98 ?_
          refine am_goto dX3_fill_101 (tgt := 32) rfl ?_
          exact am_R.forget wp ⟨rfl, ⟨rfl, ⟨rfl, ⟨rfl, ⟨rfl, ⟨rfl, ⟨rfl, ⟨rfl, trivial⟩⟩⟩⟩⟩⟩⟩⟩
        · have wp := wp.2 hc4
          refine am_iconst 1 rfl dX3_fill_63 ?_
          refine am_goto dX3_fill_64 (tgt := 68) rfl ?_
          refine am_istore (ls' := [some (.ref a0), some (.int a1), none, some (.int a3), some (.int a4), some (.int a5), some (.int a6), some (.int 1), some (.int a8)]) (by decide) rfl rfl dX3_fill_68 ?_
          refine am_iload rfl dX3_fill_70 ?_
          refine am_if_eq dX3_fill_72 (tgt := 93) rfl (fun hc => absurd hc (by decide)) (fun _ => ?_)
          refine am_aload_n rfl rfl dX3_fill_75 ?_
          refine am_iload rfl dX3_fill_76 ?_
          refine am_iload rfl dX3_fill_78 ?_
          obtain ⟨j5, e5, w5, wp⟩ := wp
          refine am_iastN (j := j5) dX3_fill_80 hs_a0 hk_a0 e5 w5 (by decide) ?_
          refine am_iload rfl dX3_fill_81 ?_
          refine am_iconst 1 rfl dX3_fill_83 ?_
          refine am_iload rfl dX3_fill_84 ?_
          refine am_ishl dX3_fill_86 ?_
          refine am_ior dX3_fill_87 ?_
          refine am_istore (ls' := [some (.ref a0), some (.int a1), none, some (.int a3), some (.int (a4 ||| (1 <<< (a8 &&& 31)))), some (.int a5), some (.int a6), some (.int 1), some (.int a8)]) (by decide) rfl rfl dX3_fill_88 ?_
          refine am_goto dX3_fill_90 (tgt := 98) rfl ?_
          refine am_iinc (ls' := [some (.ref a0), some (.int a1), none, some (.int a3), some (.int (a4 ||| (1 <<< (a8 &&& 31)))), some (.int a5), some (.int a6), some (.int 1), some (.int (a8 + 1))]) (by decide) rfl rfl rfl dX3_fill_98 ?_
          refine am_goto dX3_fill_101 (tgt := 32) rfl ?_
          exact am_R.forget wp ⟨rfl, ⟨rfl, ⟨rfl, ⟨rfl, ⟨rfl, ⟨rfl, ⟨rfl, ⟨rfl, trivial⟩⟩⟩⟩⟩⟩⟩⟩
      · have wp := wp.2 hc3
        refine am_goto dX3_fill_54 (tgt := 98) rfl ?_
        refine am_iinc (ls' := [some (.ref a0), some (.int a1), none, some (.int a3), some (.int a4), some (.int a5), some (.int a6), some (.int a7), some (.int (a8 + 1))]) (by decide) rfl rfl rfl dX3_fill_98 ?_
        refine am_goto dX3_fill_101 (tgt := 32) rfl ?_
        exact am_R.forget wp ⟨rfl, ⟨rfl, ⟨rfl, ⟨rfl, ⟨rfl, ⟨rfl, ⟨rfl, ⟨rfl, trivial⟩⟩⟩⟩⟩⟩⟩⟩
theorem tX3_fill {r n code : Nat} {a1 a2 : Int32} (hr : rowc r) (h2 : 2 ≤ n) (h7 : n ≤ 7) (en : a1 = nI n) (e : a2 = nI code) (hc : code < fct n) (k : ∀ f, Rw f (ur n code) n → Q none (hp (u1 I r f) J b)) : am_R E mX3_fill 0 [some (.ref r), some (.int a1), some (.int a2), none, none, none, none, none, none] [] (hp I J b) 64 64 Q := by
  subst e; subst en
  have hcl : code < 5040 := Nat.lt_of_lt_of_le hc (fct_le n (by omega)).2
  refine bX3_fill_0 hr.s hr.k ?_
  have key : ∀ j m, m + j = n → ∀ (U : Int32) (f : Nat → Int32), Mk U (urS n code m).1 m → (∀ i, i < m → f i = nI ((urS n code m).1 i)) → am_R E mX3_fill 8 [some (.ref r), some (.int (nI n)), none, some (.int (nI (urS n code m).2)), some (.int U), some (.int (nI m)), none, none, none] [] (hp (u1 I r f) J b) 64 64 Q := by
    intro j
    induction j with
    | zero =>
      intro m hm U f hU hf
      have e : m = n := by omega
      subst e
      exact bX3_fill_8 hr.s hr.k (le_br rfl rfl (by omega) (by omega) (fun _ => k f (fun i hi => ⟨hf i hi, (ur_pm h7 hc).1 i hi⟩)) (fun h => by omega))
    | succ j ih =>
      intro m hm U f hU hf
      obtain ⟨o1, o2, o3⟩ := urS_ok h7 hc m (by omega)
      have hfl := fct_le (n - 1 - m) (by omega)
      have hll : (urS n code m).2 < 5040 := Nat.lt_of_lt_of_le o3 (fct_le (n - m) (by omega)).2
      have hf2 : fct (n - m) = fct (n - 1 - m) * (n - m) := by
        rw [show n - m = (n - 1 - m) + 1 by omega]; rfl
      have ha : (urS n code m).2 / fct (n - 1 - m) < n - m := by
        rw [hf2] at o3
        exact Nat.div_lt_of_lt_mul o3
      have hct := fre_ct m o1 o2
      have e2 : (urS n code (m + 1)).2 = (urS n code m).2 % fct (n - 1 - m) := rfl
      have hdm := Nat.div_add_mod (urS n code m).2 (fct (n - 1 - m))
      have hmod := Nat.mod_lt (urS n code m).2 hfl.1
      generalize hA : (urS n code m).2 / fct (n - 1 - m) = A at ha hdm
      obtain ⟨d, hd, hd1, hd2⟩ := fb_ct_kth (p := fre (urS n code m).1 m) (k := A) (n := n) (by omega)
      have hk : kth (fre (urS n code m).1 m) A = d := kth_of (by omega) hd1 hd2
      have e1 : (urS n code (m + 1)).1 = va_up (urS n code m).1 m d := by show va_up _ _ _ = _; rw [hA, hk]
      refine bX3_fill_8 hr.s hr.k (le_br rfl rfl (by omega) (by omega) (fun h => by omega) (fun _ => ⟨n - 1 - m, ?_, by omega, ?_⟩))
      · rw [show (1 : Int32) = nI 1 from rfl, pk_sub (by omega), pk_sub (by omega)]
      · rw [fa_fct _ (by omega)]
        generalize hB : fct (n - 1 - m) = B at *
        have inner : ∀ rr x, x + rr = d → am_R E mX3_fill 32 [some (.ref r), some (.int (nI n)), none, some (.int (nI ((urS n code m).2 - B * fb_ct (fre (urS n code m).1 m) x))), some (.int U), some (.int (nI m)), some (.int (nI B)), some (.int 0), some (.int (nI x))] [] (hp (u1 I r f) J b) 64 64 Q := by
          intro rr
          induction rr with
          | zero =>
            intro x hx
            have ex : x = d := by omega
            subst ex
            have hl : (urS n code m).2 - B * fb_ct (fre (urS n code m).1 m) x = (urS n code m).2 % B := by rw [hd2]; omega
            rw [hl]
            refine bX3_fill_32 hr.s hr.k (le_br rfl rfl (by omega) (by omega) (fun h => by omega) (fun _ => ⟨fun h => absurd rfl h, fun _ => ⟨fun _ => le_br rfl rfl (by omega) (by omega) (fun h => by omega) (fun _ => ⟨m, rfl, by omega, ?_⟩), fun z => ?_⟩⟩))
            · have fin : am_R E mX3_fill 8 [some (.ref r), some (.int (nI n)), none, some (.int (nI ((urS n code m).2 % B))), some (.int (U ||| ((1 : Int32) <<< (nI x &&& 31)))), some (.int (nI m + 1)), none, none, none] [] (hp (u2 (u1 I r f) r m (nI x)) J b) 64 64 Q := by
                rw [n1, u2_u1]
                have q := ih (m + 1) (by omega) (U ||| ((1 : Int32) <<< (nI x &&& 31))) (upd f m (nI x)) ?_ ?_
                · rw [e2] at q; exact q
                · refine Mk.add (Mk.cong hU (fun i hi => ?_)) (by omega) ?_
                  · rw [e1]; unfold va_up; rw [if_neg (by omega)]
                  · rw [e1]; unfold va_up; rw [if_pos rfl]
                · intro i hi
                  rw [e1]; unfold upd va_up
                  by_cases q : i = m
                  · rw [if_pos q, if_pos q]
                  · rw [if_neg q, if_neg q]; exact hf i (by omega)
              exact bX3_fill_32 hr.s hr.k ⟨fun _ => fin, fun _ => ⟨fun _ => fin, fun h => absurd h (by decide)⟩⟩
            · have := (hU.tb (show x < 7 by omega)).mp z
              rw [hd1] at this; cases this
          | succ rr ihr =>
            intro x hx
            have hb := hU.tb (show x < 7 by omega)
            have hs := fb_ct_succ (fre (urS n code m).1 m) x
            have hmono := fb_ct_mono (fre (urS n code m).1 m) (show x + 1 ≤ d by omega)
            cases hfx : fre (urS n code m).1 m x with
            | true =>
              rw [hfx] at hb hs
              simp only [if_true] at hs
              have hle : B * (fb_ct (fre (urS n code m).1 m) x + 1) ≤ B * A := Nat.mul_le_mul_left _ (by omega)
              rw [Nat.mul_add, Nat.mul_one] at hle
              refine bX3_fill_32 hr.s hr.k (le_br rfl rfl (by omega) (by omega) (fun h => by omega) (fun _ => ⟨fun h => absurd rfl h, fun _ => ⟨fun _ => le_br rfl rfl (by omega) (by omega) (fun _ => ?_) (fun h => by omega), fun z => ?_⟩⟩))
              · rw [pk_sub (by omega), n1]
                have := ihr (x + 1) (by omega)
                rw [hs, Nat.mul_add, Nat.mul_one] at this
                rw [show (urS n code m).2 - B * fb_ct (fre (urS n code m).1 m) x - B = (urS n code m).2 - (B * fb_ct (fre (urS n code m).1 m) x + B) by omega]
                exact this
              · exact absurd (hb.mp z) (by decide)
            | false =>
              rw [hfx] at hb hs
              simp only [Bool.false_eq_true, if_false, Nat.add_zero] at hs
              refine bX3_fill_32 hr.s hr.k (le_br rfl rfl (by omega) (by omega) (fun h => by omega) (fun _ => ⟨fun h => absurd rfl h, fun _ => ⟨fun z => absurd (hb.mpr rfl) z, fun _ => ?_⟩⟩))
              rw [n1]
              have := ihr (x + 1) (by omega)
              rw [hs] at this
              exact this
        have := inner d 0 (by omega)
        simp only [fb_ct, Nat.mul_zero, Nat.sub_zero] at this
        exact this
  have := key n 0 (by omega) 0 (I r) (Mk.zero _) (fun i hi => by omega)
  rw [u1_self] at this
  exact this
def pcn (k : Nat) : Nat := fb_ct (fun d => k.testBit d) 7
def bcU (x : Int32) (s : Int32) : Int32 := (Int32.toUInt32 x >>> (Int32.toUInt32 s &&& Int32.toUInt32 31)).toInt32
def bcA (x : Int32) : Int32 := x - (bcU x 1 &&& 1431655765)
def bcB (x : Int32) : Int32 := (x &&& 858993459) + (bcU x 2 &&& 858993459)
def bcC (x : Int32) : Int32 := (x + bcU x 4) &&& 252645135
def bcD (x : Int32) : Int32 := x + bcU x 8
def bcE (x : Int32) : Int32 := x + bcU x 16
theorem bc_ok : ∀ k, k < 128 → bcE (bcD (bcC (bcB (bcA (nI k))))) &&& 63 = nI (pcn k) := by decide +kernel
theorem bJ6_bitCount_0f7a4_0 {E : Nat × (Nat → Int32)} {I : Nat → Nat → Int32} {J : Nat → Nat → Int64} {b : Bool} {a0 : Int32} {Q : Option Value → am_H → Prop}  (wp : Q (some (.int ((((((((a0 - ((Int32.toUInt32 a0 >>> (Int32.toUInt32 1 &&& Int32.toUInt32 31)).toInt32 &&& 1431655765)) &&& 858993459) + ((Int32.toUInt32 (a0 - ((Int32.toUInt32 a0 >>> (Int32.toUInt32 1 &&& Int32.toUInt32 31)).toInt32 &&& 1431655765)) >>> (Int32.toUInt32 2 &&& Int32.toUInt32 31)).toInt32 &&& 858993459)) + (Int32.toUInt32 (((a0 - ((Int32.toUInt32 a0 >>> (Int32.toUInt32 1 &&& Int32.toUInt32 31)).toInt32 &&& 1431655765)) &&& 858993459) + ((Int32.toUInt32 (a0 - ((Int32.toUInt32 a0 >>> (Int32.toUInt32 1 &&& Int32.toUInt32 31)).toInt32 &&& 1431655765)) >>> (Int32.toUInt32 2 &&& Int32.toUInt32 31)).toInt32 &&& 858993459)) >>> (Int32.toUInt32 4 &&& Int32.toUInt32 31)).toInt32) &&& 252645135) + (Int32.toUInt32 (((((a0 - ((Int32.toUInt32 a0 >>> (Int32.toUInt32 1 &&& Int32.toUInt32 31)).toInt32 &&& 1431655765)) &&& 858993459) + ((Int32.toUInt32 (a0 - ((Int32.toUInt32 a0 >>> (Int32.toUInt32 1 &&& Int32.toUInt32 31)).toInt32 &&& 1431655765)) >>> (Int32.toUInt32 2 &&& Int32.toUInt32 31)).toInt32 &&& 858993459)) + (Int32.toUInt32 (((a0 - ((Int32.toUInt32 a0 >>> (Int32.toUInt32 1 &&& Int32.toUInt32 31)).toInt32 &&& 1431655765)) &&& 858993459) + ((Int32.toUInt32 (a0 - ((Int32.toUInt32 a0 >>> (Int32.toUInt32 1 &&& Int32.toUInt32 31)).toInt32 &&& 1431655765)) >>> (Int32.toUInt32 2 &&& Int32.toUInt32 31)).toInt32 &&& 858993459)) >>> (Int32.toUInt32 4 &&& Int32.toUInt32 31)).toInt32) &&& 252645135) >>> (Int32.toUInt32 8 &&& Int32.toUInt32 31)).toInt32) + (Int32.toUInt32 ((((((a0 - ((Int32.toUInt32 a0 >>> (Int32.toUInt32 1 &&& Int32.toUInt32 31)).toInt32 &&& 1431655765)) &&& 858993459) + ((Int32.toUInt32 (a0 - ((Int32.toUInt32 a0 >>> (Int32.toUInt32 1 &&& Int32.toUInt32 31)).toInt32 &&& 1431655765)) >>> (Int32.toUInt32 2 &&& Int32.toUInt32 31)).toInt32 &&& 858993459)) + (Int32.toUInt32 (((a0 - ((Int32.toUInt32 a0 >>> (Int32.toUInt32 1 &&& Int32.toUInt32 31)).toInt32 &&& 1431655765)) &&& 858993459) + ((Int32.toUInt32 (a0 - ((Int32.toUInt32 a0 >>> (Int32.toUInt32 1 &&& Int32.toUInt32 31)).toInt32 &&& 1431655765)) >>> (Int32.toUInt32 2 &&& Int32.toUInt32 31)).toInt32 &&& 858993459)) >>> (Int32.toUInt32 4 &&& Int32.toUInt32 31)).toInt32) &&& 252645135) + (Int32.toUInt32 (((((a0 - ((Int32.toUInt32 a0 >>> (Int32.toUInt32 1 &&& Int32.toUInt32 31)).toInt32 &&& 1431655765)) &&& 858993459) + ((Int32.toUInt32 (a0 - ((Int32.toUInt32 a0 >>> (Int32.toUInt32 1 &&& Int32.toUInt32 31)).toInt32 &&& 1431655765)) >>> (Int32.toUInt32 2 &&& Int32.toUInt32 31)).toInt32 &&& 858993459)) + (Int32.toUInt32 (((a0 - ((Int32.toUInt32 a0 >>> (Int32.toUInt32 1 &&& Int32.toUInt32 31)).toInt32 &&& 1431655765)) &&& 858993459) + ((Int32.toUInt32 (a0 - ((Int32.toUInt32 a0 >>> (Int32.toUInt32 1 &&& Int32.toUInt32 31)).toInt32 &&& 1431655765)) >>> (Int32.toUInt32 2 &&& Int32.toUInt32 31)).toInt32 &&& 858993459)) >>> (Int32.toUInt32 4 &&& Int32.toUInt32 31)).toInt32) &&& 252645135) >>> (Int32.toUInt32 8 &&& Int32.toUInt32 31)).toInt32) >>> (Int32.toUInt32 16 &&& Int32.toUInt32 31)).toInt32) &&& 63))) (hp I J b)) : am_R E mJ6_bitCount_0f7a4 0 [some (.int a0)] [] (hp I J b) 64 64 Q := by
  refine am_iload_n rfl rfl dJ6_bitCount_0f7a4_0 ?_
  refine am_iload_n rfl rfl dJ6_bitCount_0f7a4_1 ?_
  refine am_iconst 1 rfl dJ6_bitCount_0f7a4_2 ?_
  refine am_iushr dJ6_bitCount_0f7a4_3 ?_
  refine am_ldcw 1431655765 kcJ6_265 dJ6_bitCount_0f7a4_4 ?_
  refine am_iand dJ6_bitCount_0f7a4_7 ?_
  refine am_isub dJ6_bitCount_0f7a4_8 ?_
  refine am_istore_n (ls' := [some (.int (a0 - ((Int32.toUInt32 a0 >>> (Int32.toUInt32 1 &&& Int32.toUInt32 31)).toInt32 &&& 1431655765)))]) rfl (by decide) rfl rfl dJ6_bitCount_0f7a4_9 ?_
  refine am_iload_n rfl rfl dJ6_bitCount_0f7a4_10 ?_
  refine am_ldcw 858993459 kcJ6_266 dJ6_bitCount_0f7a4_11 ?_
  refine am_iand dJ6_bitCount_0f7a4_14 ?_
  refine am_iload_n rfl rfl dJ6_bitCount_0f7a4_15 ?_
  refine am_iconst 2 rfl dJ6_bitCount_0f7a4_16 ?_
  refine am_iushr dJ6_bitCount_0f7a4_17 ?_
  refine am_ldcw 858993459 kcJ6_266 dJ6_bitCount_0f7a4_18 ?_
  refine am_iand dJ6_bitCount_0f7a4_21 ?_
  refine am_iadd dJ6_bitCount_0f7a4_22 ?_
  refine am_istore_n (ls' := [some (.int (((a0 - ((Int32.toUInt32 a0 >>> (Int32.toUInt32 1 &&& Int32.toUInt32 31)).toInt32 &&& 1431655765)) &&& 858993459) + ((Int32.toUInt32 (a0 - ((Int32.toUInt32 a0 >>> (Int32.toUInt32 1 &&& Int32.toUInt32 31)).toInt32 &&& 1431655765)) >>> (Int32.toUInt32 2 &&& Int32.toUInt32 31)).toInt32 &&& 858993459)))]) rfl (by decide) rfl rfl dJ6_bitCount_0f7a4_23 ?_
  refine am_iload_n rfl rfl dJ6_bitCount_0f7a4_24 ?_
  refine am_iload_n rfl rfl dJ6_bitCount_0f7a4_25 ?_
  refine am_iconst 4 rfl dJ6_bitCount_0f7a4_26 ?_
  refine am_iushr dJ6_bitCount_0f7a4_27 ?_
  refine am_iadd dJ6_bitCount_0f7a4_28 ?_
  refine am_ldcw 252645135 kcJ6_267 dJ6_bitCount_0f7a4_29 ?_
  refine am_iand dJ6_bitCount_0f7a4_32 ?_
  refine am_istore_n (ls' := [some (.int (((((a0 - ((Int32.toUInt32 a0 >>> (Int32.toUInt32 1 &&& Int32.toUInt32 31)).toInt32 &&& 1431655765)) &&& 858993459) + ((Int32.toUInt32 (a0 - ((Int32.toUInt32 a0 >>> (Int32.toUInt32 1 &&& Int32.toUInt32 31)).toInt32 &&& 1431655765)) >>> (Int32.toUInt32 2 &&& Int32.toUInt32 31)).toInt32 &&& 858993459)) + (Int32.toUInt32 (((a0 - ((Int32.toUInt32 a0 >>> (Int32.toUInt32 1 &&& Int32.toUInt32 31)).toInt32 &&& 1431655765)) &&& 858993459) + ((Int32.toUInt32 (a0 - ((Int32.toUInt32 a0 >>> (Int32.toUInt32 1 &&& Int32.toUInt32 31)).toInt32 &&& 1431655765)) >>> (Int32.toUInt32 2 &&& Int32.toUInt32 31)).toInt32 &&& 858993459)) >>> (Int32.toUInt32 4 &&& Int32.toUInt32 31)).toInt32) &&& 252645135))]) rfl (by decide) rfl rfl dJ6_bitCount_0f7a4_33 ?_
  refine am_iload_n rfl rfl dJ6_bitCount_0f7a4_34 ?_
  refine am_iload_n rfl rfl dJ6_bitCount_0f7a4_35 ?_
  refine am_bipush 8 rfl dJ6_bitCount_0f7a4_36 ?_
  refine am_iushr dJ6_bitCount_0f7a4_38 ?_
  refine am_iadd dJ6_bitCount_0f7a4_39 ?_
  refine am_istore_n (ls' := [some (.int ((((((a0 - ((Int32.toUInt32 a0 >>> (Int32.toUInt32 1 &&& Int32.toUInt32 31)).toInt32 &&& 1431655765)) &&& 858993459) + ((Int32.toUInt32 (a0 - ((Int32.toUInt32 a0 >>> (Int32.toUInt32 1 &&& Int32.toUInt32 31)).toInt32 &&& 1431655765)) >>> (Int32.toUInt32 2 &&& Int32.toUInt32 31)).toInt32 &&& 858993459)) + (Int32.toUInt32 (((a0 - ((Int32.toUInt32 a0 >>> (Int32.toUInt32 1 &&& Int32.toUInt32 31)).toInt32 &&& 1431655765)) &&& 858993459) + ((Int32.toUInt32 (a0 - ((Int32.toUInt32 a0 >>> (Int32.toUInt32 1 &&& Int32.toUInt32 31)).toInt32 &&& 1431655765)) >>> (Int32.toUInt32 2 &&& Int32.toUInt32 31)).toInt32 &&& 858993459)) >>> (Int32.toUInt32 4 &&& Int32.toUInt32 31)).toInt32) &&& 252645135) + (Int32.toUInt32 (((((a0 - ((Int32.toUInt32 a0 >>> (Int32.toUInt32 1 &&& Int32.toUInt32 31)).toInt32 &&& 1431655765)) &&& 858993459) + ((Int32.toUInt32 (a0 - ((Int32.toUInt32 a0 >>> (Int32.toUInt32 1 &&& Int32.toUInt32 31)).toInt32 &&& 1431655765)) >>> (Int32.toUInt32 2 &&& Int32.toUInt32 31)).toInt32 &&& 858993459)) + (Int32.toUInt32 (((a0 - ((Int32.toUInt32 a0 >>> (Int32.toUInt32 1 &&& Int32.toUInt32 31)).toInt32 &&& 1431655765)) &&& 858993459) + ((Int32.toUInt32 (a0 - ((Int32.toUInt32 a0 >>> (Int32.toUInt32 1 &&& Int32.toUInt32 31)).toInt32 &&& 1431655765)) >>> (Int32.toUInt32 2 &&& Int32.toUInt32 31)).toInt32 &&& 858993459)) >>> (Int32.toUInt32 4 &&& Int32.toUInt32 31)).toInt32) &&& 252645135) >>> (Int32.toUInt32 8 &&& Int32.toUInt32 31)).toInt32))]) rfl (by decide) rfl rfl dJ6_bitCount_0f7a4_40 ?_
  refine am_iload_n rfl rfl dJ6_bitCount_0f7a4_41 ?_
  refine am_iload_n rfl rfl dJ6_bitCount_0f7a4_42 ?_
  refine am_bipush 16 rfl dJ6_bitCount_0f7a4_43 ?_
  refine am_iushr dJ6_bitCount_0f7a4_45 ?_
  refine am_iadd dJ6_bitCount_0f7a4_46 ?_
  refine am_istore_n (ls' := [some (.int (((((((a0 - ((Int32.toUInt32 a0 >>> (Int32.toUInt32 1 &&& Int32.toUInt32 31)).toInt32 &&& 1431655765)) &&& 858993459) + ((Int32.toUInt32 (a0 - ((Int32.toUInt32 a0 >>> (Int32.toUInt32 1 &&& Int32.toUInt32 31)).toInt32 &&& 1431655765)) >>> (Int32.toUInt32 2 &&& Int32.toUInt32 31)).toInt32 &&& 858993459)) + (Int32.toUInt32 (((a0 - ((Int32.toUInt32 a0 >>> (Int32.toUInt32 1 &&& Int32.toUInt32 31)).toInt32 &&& 1431655765)) &&& 858993459) + ((Int32.toUInt32 (a0 - ((Int32.toUInt32 a0 >>> (Int32.toUInt32 1 &&& Int32.toUInt32 31)).toInt32 &&& 1431655765)) >>> (Int32.toUInt32 2 &&& Int32.toUInt32 31)).toInt32 &&& 858993459)) >>> (Int32.toUInt32 4 &&& Int32.toUInt32 31)).toInt32) &&& 252645135) + (Int32.toUInt32 (((((a0 - ((Int32.toUInt32 a0 >>> (Int32.toUInt32 1 &&& Int32.toUInt32 31)).toInt32 &&& 1431655765)) &&& 858993459) + ((Int32.toUInt32 (a0 - ((Int32.toUInt32 a0 >>> (Int32.toUInt32 1 &&& Int32.toUInt32 31)).toInt32 &&& 1431655765)) >>> (Int32.toUInt32 2 &&& Int32.toUInt32 31)).toInt32 &&& 858993459)) + (Int32.toUInt32 (((a0 - ((Int32.toUInt32 a0 >>> (Int32.toUInt32 1 &&& Int32.toUInt32 31)).toInt32 &&& 1431655765)) &&& 858993459) + ((Int32.toUInt32 (a0 - ((Int32.toUInt32 a0 >>> (Int32.toUInt32 1 &&& Int32.toUInt32 31)).toInt32 &&& 1431655765)) >>> (Int32.toUInt32 2 &&& Int32.toUInt32 31)).toInt32 &&& 858993459)) >>> (Int32.toUInt32 4 &&& Int32.toUInt32 31)).toInt32) &&& 252645135) >>> (Int32.toUInt32 8 &&& Int32.toUInt32 31)).toInt32) + (Int32.toUInt32 ((((((a0 - ((Int32.toUInt32 a0 >>> (Int32.toUInt32 1 &&& Int32.toUInt32 31)).toInt32 &&& 1431655765)) &&& 858993459) + ((Int32.toUInt32 (a0 - ((Int32.toUInt32 a0 >>> (Int32.toUInt32 1 &&& Int32.toUInt32 31)).toInt32 &&& 1431655765)) >>> (Int32.toUInt32 2 &&& Int32.toUInt32 31)).toInt32 &&& 858993459)) + (Int32.toUInt32 (((a0 - ((Int32.toUInt32 a0 >>> (Int32.toUInt32 1 &&& Int32.toUInt32 31)).toInt32 &&& 1431655765)) &&& 858993459) + ((Int32.toUInt32 (a0 - ((Int32.toUInt32 a0 >>> (Int32.toUInt32 1 &&& Int32.toUInt32 31)).toInt32 &&& 1431655765)) >>> (Int32.toUInt32 2 &&& Int32.toUInt32 31)).toInt32 &&& 858993459)) >>> (Int32.toUInt32 4 &&& Int32.toUInt32 31)).toInt32) &&& 252645135) + (Int32.toUInt32 (((((a0 - ((Int32.toUInt32 a0 >>> (Int32.toUInt32 1 &&& Int32.toUInt32 31)).toInt32 &&& 1431655765)) &&& 858993459) + ((Int32.toUInt32 (a0 - ((Int32.toUInt32 a0 >>> (Int32.toUInt32 1 &&& Int32.toUInt32 31)).toInt32 &&& 1431655765)) >>> (Int32.toUInt32 2 &&& Int32.toUInt32 31)).toInt32 &&& 858993459)) + (Int32.toUInt32 (((a0 - ((Int32.toUInt32 a0 >>> (Int32.toUInt32 1 &&& Int32.toUInt32 31)).toInt32 &&& 1431655765)) &&& 858993459) + ((Int32.toUInt32 (a0 - ((Int32.toUInt32 a0 >>> (Int32.toUInt32 1 &&& Int32.toUInt32 31)).toInt32 &&& 1431655765)) >>> (Int32.toUInt32 2 &&& Int32.toUInt32 31)).toInt32 &&& 858993459)) >>> (Int32.toUInt32 4 &&& Int32.toUInt32 31)).toInt32) &&& 252645135) >>> (Int32.toUInt32 8 &&& Int32.toUInt32 31)).toInt32) >>> (Int32.toUInt32 16 &&& Int32.toUInt32 31)).toInt32))]) rfl (by decide) rfl rfl dJ6_bitCount_0f7a4_47 ?_
  refine am_iload_n rfl rfl dJ6_bitCount_0f7a4_48 ?_
  refine am_bipush 63 rfl dJ6_bitCount_0f7a4_49 ?_
  refine am_iand dJ6_bitCount_0f7a4_51 ?_
  exact am_iret dJ6_bitCount_0f7a4_52 rfl rfl wp
theorem tJ6_bitCount {a0 : Int32} {k : Nat} (e : a0 = nI k) (hk : k < 128) (kk : Q (some (.int (nI (pcn k)))) (hp I J b)) : am_R E mJ6_bitCount_0f7a4 0 [some (.int a0)] [] (hp I J b) 64 64 Q := by
  subst e
  refine bJ6_bitCount_0f7a4_0 ?_
  show Q (some (.int (bcE (bcD (bcC (bcB (bcA (nI k))))) &&& 63))) (hp I J b)
  rw [bc_ok k hk]
  exact kk
theorem msk_ok : ∀ k, k < 128 → ∀ d, d < 7 → (((1 : Int32) <<< (nI d &&& 31)) - 1) &&& (nI k ^^^ (-1)) = nI ((2 ^ d - 1) &&& (127 ^^^ k)) ∧ (2 ^ d - 1) &&& (127 ^^^ k) < 128 ∧ pcn ((2 ^ d - 1) &&& (127 ^^^ k)) = fb_ct (fun x => !k.testBit x) d := by decide +kernel
theorem bX3_numberOf_0 {E : Nat × (Nat → Int32)} {I : Nat → Nat → Int32} {J : Nat → Nat → Int64} {b : Bool} {a0 : Nat} {a1 : Int32} {Q : Option Value → am_H → Prop} (hs_a0 : am_s a0 = .inl (.int, 7)) (hk_a0 : a0 < 64) (wp : am_R E mX3_numberOf 7 [some (.ref a0), some (.int a1), some (.int 0), some (.int 0), some (.int 0), none] [] (hp I J b) 64 64 Q) : am_R E mX3_numberOf 0 [some (.ref a0), some (.int a1), none, none, none, none] [] (hp I J b) 64 64 Q := by
  refine am_iconst 0 rfl dX3_numberOf_0 ?_
  refine am_istore_n (ls' := [some (.ref a0), some (.int a1), some (.int 0), none, none, none]) rfl (by decide) rfl rfl dX3_numberOf_1 ?_
  refine am_iconst 0 rfl dX3_numberOf_2 ?_
  refine am_istore_n (ls' := [some (.ref a0), some (.int a1), some (.int 0), some (.int 0), none, none]) rfl (by decide) rfl rfl dX3_numberOf_3 ?_
  refine am_iconst 0 rfl dX3_numberOf_4 ?_
  refine am_istore (ls' := [some (.ref a0), some (.int a1), some (.int 0), some (.int 0), some (.int 0), none]) (by decide) rfl rfl dX3_numberOf_5 ?_
  exact am_R.forget wp ⟨rfl, ⟨rfl, ⟨rfl, ⟨rfl, ⟨rfl, trivial⟩⟩⟩⟩⟩
theorem bX3_numberOf_7 {E : Nat × (Nat → Int32)} {I : Nat → Nat → Int32} {J : Nat → Nat → Int64} {b : Bool} {a0 : Nat} {a1 : Int32} {a2 : Int32} {a3 : Int32} {a4 : Int32} {Q : Option Value → am_H → Prop} (hs_a0 : am_s a0 = .inl (.int, 7)) (hk_a0 : a0 < 64) (wp : ((a1 ≤ a4 → Q (some (.int a2)) (hp I J b)) ∧ (¬ a1 ≤ a4 → ∃ j2, a4 = nI j2 ∧ j2 < 7 ∧ am_R E mJ6_bitCount_0f7a4 0 [some (.int (((1 <<< ((I a0 j2) &&& 31)) - 1) &&& (a3 ^^^ (-1))))] [] (hp I J b) 64 64 (fun r h' => am_R E mX3_numberOf 33 [some (.ref a0), some (.int a1), none, some (.int a3), some (.int a4), none] (r.toList ++ [.int a2]) h' 64 64 Q)))) : am_R E mX3_numberOf 7 [some (.ref a0), some (.int a1), some (.int a2), some (.int a3), some (.int a4), none] [] (hp I J b) 64 64 Q := by
  refine am_iload rfl dX3_numberOf_7 ?_
  refine am_iload_n rfl rfl dX3_numberOf_9 ?_
  refine am_icmp_ge dX3_numberOf_10 (tgt := 61) rfl (fun hc1 => ?_) (fun hc1 => ?_)
  · have wp := wp.1 hc1
    refine am_iload_n rfl rfl dX3_numberOf_61 ?_
    exact am_iret dX3_numberOf_62 rfl rfl wp
  · have wp := wp.2 hc1
    refine am_iconst 1 rfl dX3_numberOf_13 ?_
    refine am_aload_n rfl rfl dX3_numberOf_14 ?_
    refine am_iload rfl dX3_numberOf_15 ?_
    obtain ⟨j2, e2, w2, wp⟩ := wp
    refine am_ialdN (j := j2) dX3_numberOf_17 hs_a0 hk_a0 e2 w2 (by decide) ?_
    refine am_ishl dX3_numberOf_18 ?_
    refine am_iconst 1 rfl dX3_numberOf_19 ?_
    refine am_isub dX3_numberOf_20 ?_
    refine am_istore (ls' := [some (.ref a0), some (.int a1), some (.int a2), some (.int a3), some (.int a4), some (.int ((1 <<< ((I a0 j2) &&& 31)) - 1))]) (by decide) rfl rfl dX3_numberOf_21 ?_
    refine am_iload_n rfl rfl dX3_numberOf_23 ?_
    refine am_iload rfl dX3_numberOf_24 ?_
    refine am_iload_n rfl rfl dX3_numberOf_26 ?_
    refine am_iconst (-1) rfl dX3_numberOf_27 ?_
    refine am_ixor dX3_numberOf_28 ?_
    refine am_iand dX3_numberOf_29 ?_
    refine am_invS (As := [.int (((1 <<< ((I a0 j2) &&& 31)) - 1) &&& (a3 ^^^ (-1)))]) (lsZ := [some (.int (((1 <<< ((I a0 j2) &&& 31)) - 1) &&& (a3 ^^^ (-1))))]) (st := [.int a2]) dX3_numberOf_30 hJ6_bitCount_0f7a4 lkX3_13 ⟨by decide, by decide⟩ rfl rfl (Nat.le_of_ble_eq_true rfl) rfl (Nat.le_of_ble_eq_true rfl) ⟨Nat.le_refl _, Nat.le_refl _⟩ (am_R.mono wp (fun r h' q => am_R.forget q ⟨rfl, ⟨rfl, ⟨rfl, ⟨rfl, trivial⟩⟩⟩⟩))
theorem bX3_numberOf_33 {E : Nat × (Nat → Int32)} {I : Nat → Nat → Int32} {J : Nat → Nat → Int64} {b : Bool} {a0 : Nat} {a1 : Int32} {a3 : Int32} {a4 : Int32} {x0 : Int32} {x1 : Int32} {Q : Option Value → am_H → Prop} (hs_a0 : am_s a0 = .inl (.int, 7)) (hk_a0 : a0 < 64) (wp : ∃ j1, ((a1 - 1) - a4) = nI j1 ∧ j1 < 8 ∧ ∃ j2, a4 = nI j2 ∧ j2 < 7 ∧ am_R E mX3_numberOf 7 [some (.ref a0), some (.int a1), some (.int (x1 + (x0 * (am_fa j1)))), some (.int (a3 ||| (1 <<< ((I a0 j2) &&& 31)))), some (.int (a4 + 1)), none] [] (hp I J b) 64 64 Q) : am_R E mX3_numberOf 33 [some (.ref a0), some (.int a1), none, some (.int a3), some (.int a4), none] [.int x0, .int x1] (hp I J b) 64 64 Q := by
  refine am_gsFN dX3_numberOf_33 (by decide +kernel) ?_
  refine am_iload_n rfl rfl dX3_numberOf_36 ?_
  refine am_iconst 1 rfl dX3_numberOf_37 ?_
  refine am_isub dX3_numberOf_38 ?_
  refine am_iload rfl dX3_numberOf_39 ?_
  refine am_isub dX3_numberOf_41 ?_
  obtain ⟨j1, e1, w1, wp⟩ := wp
  refine am_ildFN (j := j1) dX3_numberOf_42 e1 w1 ?_
  refine am_imul dX3_numberOf_43 ?_
  refine am_iadd dX3_numberOf_44 ?_
  refine am_istore_n (ls' := [some (.ref a0), some (.int a1), some (.int (x1 + (x0 * (am_fa j1)))), some (.int a3), some (.int a4), none]) rfl (by decide) rfl rfl dX3_numberOf_45 ?_
  refine am_iload_n rfl rfl dX3_numberOf_46 ?_
  refine am_iconst 1 rfl dX3_numberOf_47 ?_
  refine am_aload_n rfl rfl dX3_numberOf_48 ?_
  refine am_iload rfl dX3_numberOf_49 ?_
  obtain ⟨j2, e2, w2, wp⟩ := wp
  refine am_ialdN (j := j2) dX3_numberOf_51 hs_a0 hk_a0 e2 w2 (by decide) ?_
  refine am_ishl dX3_numberOf_52 ?_
  refine am_ior dX3_numberOf_53 ?_
  refine am_istore_n (ls' := [some (.ref a0), some (.int a1), some (.int (x1 + (x0 * (am_fa j1)))), some (.int (a3 ||| (1 <<< ((I a0 j2) &&& 31)))), some (.int a4), none]) rfl (by decide) rfl rfl dX3_numberOf_54 ?_
  refine am_iinc (ls' := [some (.ref a0), some (.int a1), some (.int (x1 + (x0 * (am_fa j1)))), some (.int (a3 ||| (1 <<< ((I a0 j2) &&& 31)))), some (.int (a4 + 1)), none]) (by decide) rfl rfl rfl dX3_numberOf_55 ?_
  refine am_goto dX3_numberOf_58 (tgt := 7) rfl ?_
  exact am_R.forget wp ⟨rfl, ⟨rfl, ⟨rfl, ⟨rfl, ⟨rfl, trivial⟩⟩⟩⟩⟩
theorem tX3_numberOf {r n : Nat} {a1 : Int32} {p : Nat → Nat} (hr : rowc r) (h7 : n ≤ 7) (en : a1 = nI n) (hR : Rw (I r) p n) (hp' : Pm p n) (k : Q (some (.int (nI (rk n p)))) (hp I J b)) : am_R E mX3_numberOf 0 [some (.ref r), some (.int a1), none, none, none, none] [] (hp I J b) 64 64 Q := by
  subst en
  refine bX3_numberOf_0 hr.s hr.k ?_
  have key : ∀ j m, m + j = n → ∀ U : Int32, Mk U p m → am_R E mX3_numberOf 7 [some (.ref r), some (.int (nI n)), some (.int (nI (fb_sm (fun m => lsr p n m * fct (n - 1 - m)) m))), some (.int U), some (.int (nI m)), none] [] (hp I J b) 64 64 Q := by
    intro j
    induction j with
    | zero =>
      intro m hm U hU
      have e : m = n := by omega
      subst e
      exact bX3_numberOf_7 hr.s hr.k (le_br rfl rfl (by omega) (by omega) (fun _ => k) (fun h => by omega))
    | succ j ih =>
      intro m hm U hU
      have hmn : m < n := by omega
      have hU0 := hU
      obtain ⟨kk, hkk, rfl, hb⟩ := hU
      obtain ⟨q1, q2⟩ := hR m hmn
      obtain ⟨m1, m2, m3⟩ := msk_ok kk hkk (p m) (by omega)
      refine bX3_numberOf_7 hr.s hr.k (le_br rfl rfl (by omega) (by omega) (fun h => by omega) (fun _ => ⟨m, rfl, by omega, ?_⟩))
      rw [q1]
      refine tJ6_bitCount m1 m2 ?_
      have e : pcn ((2 ^ p m - 1) &&& (127 ^^^ kk)) = lsr p n m := by
        rw [m3, lsr_fre hp' hmn]
        apply fb_ct_cong
        intro x hx
        have h1 := hU0.tb (show x < 7 by omega)
        have h2 := (tb_iff kk hkk x (by omega)).1
        unfold tbx at h1
        cases hf : fre p m x with
        | true =>
          rw [hf] at h1
          cases ht : kk.testBit x with
          | true => exact absurd (h1.mp (h2.mpr ht)) (by decide)
          | false => rfl
        | false =>
          rw [hf] at h1
          rw [h2.mp (h1.mpr rfl)]; rfl
      refine bX3_numberOf_33 hr.s hr.k ⟨n - 1 - m, ?_, by omega, m, rfl, by omega, ?_⟩
      · rw [show (1 : Int32) = nI 1 from rfl, pk_sub (by omega), pk_sub (by omega)]
      · rw [fa_fct _ (by omega), e, pk_mul, nI_add, n1, q1]
        exact ih (m + 1) (by omega) _ (Mk.add hU0 (by omega) rfl)
  exact key n 0 (by omega) 0 (Mk.zero _)
end C3
