/-! ===== constructors ===== -/
section P25
variable {E : Nat × (Nat → Int32)} {M : am_M} {pc : Nat} {ls : List (Option Value)} {st : List Value} {n n1 n' : Nat} {Q : Option Value → am_H → Prop} {I : Nat → Nat → Int32} {J : Nat → Nat → Int64} {l : List (Nat × Nat × Nat)}
/-- references by a list of stores, the last first -/
def rq : List (Nat × Nat × Nat) → Nat → Nat → Option Nat
  | [], _, _ => none
  | e :: l, a, i => if a = e.1 ∧ i = e.2.1 then some e.2.2 else rq l a i
def cq (I : Nat → Nat → Int32) (J : Nat → Nat → Int64) (l : List (Nat × Nat × Nat)) : am_H := (I, J, rq l)
def zI : Nat → Nat → Int32 := fun _ _ => 0
def zJ : Nat → Nat → Int64 := fun _ _ => 0
theorem rq_none {a i : Nat} : ∀ l : List (Nat × Nat × Nat), (∀ e ∈ l, e.1 ≠ a) → rq l a i = none
  | [], _ => rfl
  | e :: l, h => by
    rw [rq, if_neg (fun q => h e List.mem_cons_self q.1.symm)]
    exact rq_none l (fun x hx => h x (List.mem_cons_of_mem _ hx))
theorem cq_s0 (hI : ∀ i, I n i = 0) (hJ : ∀ i, J n i = 0) (hl : ∀ e ∈ l, e.1 ≠ n) : am_s0 (cq I J l) n = cq I J l := by
  unfold am_s0 cq
  refine Prod.ext ?_ (Prod.ext ?_ ?_)
  · funext a
    by_cases e : a = n
    · subst e; show (if a = a then (fun _ => (0 : Int32)) else I a) = I a
      rw [if_pos rfl]; funext i; exact (hI i).symm
    · show (if a = n then (fun _ => (0 : Int32)) else I a) = I a
      rw [if_neg e]
  · funext a
    by_cases e : a = n
    · subst e; show (if a = a then (fun _ => (0 : Int64)) else J a) = J a
      rw [if_pos rfl]; funext i; exact (hJ i).symm
    · show (if a = n then (fun _ => (0 : Int64)) else J a) = J a
      rw [if_neg e]
  · funext a
    by_cases e : a = n
    · subst e; show (if a = a then (fun _ => (none : Option Nat)) else rq l a) = rq l a
      rw [if_pos rfl]; funext i; exact (rq_none l hl).symm
    · show (if a = n then (fun _ => (none : Option Nat)) else rq l a) = rq l a
      rw [if_neg e]
theorem cq_sA {k j x : Nat} : am_sA (cq I J l) k j (some x) = cq I J ((k, j, x) :: l) := by
  unfold am_sA cq
  refine Prod.ext rfl (Prod.ext rfl ?_)
  funext a i
  show (if a = k then va_up (rq l k) j (some x) else rq l a) i = if a = k ∧ i = j then some x else rq l a i
  by_cases e : a = k
  · subst e
    rw [if_pos rfl]
    by_cases e2 : i = j
    · subst e2; rw [if_pos ⟨rfl, rfl⟩]; exact up_s
    · rw [if_neg (fun q => e2 q.2)]; exact up_n e2
  · rw [if_neg e, if_neg (fun q => e q.1)]
theorem cq_new {idx ci : Nat} (hd : decode M.2.1 pc = .ok (.new idx, 3)) (hci : ci < 9) (hs : am_s n = .inr ci) (hc1 : Cond.classLink M.1.cls idx (am_cn ci) ∈ am_TB) (hb1 : n + 1 ≤ n1) (h64 : n + 1 ≤ 64) (hn : n + 1 = n') (hI : ∀ i, I n i = 0) (hJ : ∀ i, J n i = 0) (hl : ∀ e ∈ l, e.1 ≠ n) (kk : am_R E M (pc + 3) ls (.ref n :: st) (cq I J l) n' n1 Q) : am_R E M pc ls st (cq I J l) n n1 Q :=
  am_new hd hci hs hc1 (am_inst ci hci) (kn_ini ci hci) hb1 h64 (by rw [cq_s0 hI hJ hl, hn]; exact kk)
theorem cq_newa {x : Int32} {N : Nat} {atype : ArrayType} {ty : FieldType} (hd : decode M.2.1 pc = .ok (.newarray atype, 2)) (hty : newarray.typeOf atype = ty) (h5 : ty = .int ∨ ty = .long ∨ ty = .boolean) (hs : am_s n = .inl (ty, N)) (hc : Cond.arrayClass ty ∈ am_TB) (hx0 : ¬ x < 0) (hxN : x.toNatClampNeg = N) (hN : N ≤ 6000) (hb1 : n + 1 ≤ n1) (h64 : n + 1 ≤ 64) (hn : n + 1 = n') (hI : ∀ i, I n i = 0) (hJ : ∀ i, J n i = 0) (hl : ∀ e ∈ l, e.1 ≠ n) (kk : am_R E M (pc + 2) ls (.ref n :: st) (cq I J l) n' n1 Q) : am_R E M pc ls (.int x :: st) (cq I J l) n n1 Q :=
  am_newa hd hty h5 hs hc hx0 hxN hN hb1 h64 (by rw [cq_s0 hI hJ hl, hn]; exact kk)
theorem cq_anew {x : Int32} {N idx : Nat} {C0 : String} (hd : decode M.2.1 pc = .ok (.anewarray idx, 3)) (h5 : C0 = RX1 ∨ C0 = RX8) (hs : am_s n = .inl (.object C0, N)) (hc : Cond.classLink M.1.cls idx C0 ∈ am_TB) (hx0 : ¬ x < 0) (hxN : x.toNatClampNeg = N) (hN : N ≤ 6000) (hb1 : n + 1 ≤ n1) (h64 : n + 1 ≤ 64) (hn : n + 1 = n') (hI : ∀ i, I n i = 0) (hJ : ∀ i, J n i = 0) (hl : ∀ e ∈ l, e.1 ≠ n) (kk : am_R E M (pc + 3) ls (.ref n :: st) (cq I J l) n' n1 Q) : am_R E M pc ls (.int x :: st) (cq I J l) n n1 Q :=
  am_anew hd h5 hs hc hx0 hxN hN hb1 h64 (by rw [cq_s0 hI hJ hl, hn]; exact kk)
theorem cq_aast {k N r ci j : Nat} {i : Int32} (hd : decode M.2.1 pc = .ok (.aastore, 1)) (hci : ci < 9) (hs : am_s k = .inl (.object (am_cn ci), N)) (h5 : am_t5 (.object (am_cn ci))) (hk : k < n) (hr : am_s r = .inr ci) (hrk : r < n) (hi : vp_in i N) (hj : i.toNatClampNeg = j) (kk : am_R E M (pc + 1) ls st (cq I J ((k, j, r) :: l)) n n1 Q) : am_R E M pc ls (.ref r :: .int i :: .ref k :: st) (cq I J l) n n1 Q :=
  am_aast hd hci hs h5 hk hr hrk hi (by rw [hj, cq_sA]; exact kk)
theorem cq_putI {k j idx ci : Nat} {x : Int32} (hd : decode M.2.1 pc = .ok (.putfield idx, 3)) (hf : am_fl M.1.cls idx ci j) (hw : am_wf M ci j) (ht : am_ft ci j = .int) (hs : am_s k = .inr ci) (hk : k < n) (kk : am_R E M (pc + 3) ls st (cq (u2 I k j x) J l) n n1 Q) : am_R E M pc ls (.int x :: .ref k :: st) (cq I J l) n n1 Q :=
  am_putI hd hf hw ht hs hk kk
theorem cq_putA {k j idx ci x : Nat} (hd : decode M.2.1 pc = .ok (.putfield idx, 3)) (hf : am_fl M.1.cls idx ci j) (hw : am_wf M ci j) (ht : am_rT (am_ft ci j)) (hs : am_s k = .inr ci) (hk : k < n) (kk : am_R E M (pc + 3) ls st (cq I J ((k, j, x) :: l)) n n1 Q) : am_R E M pc ls (.ref x :: .ref k :: st) (cq I J l) n n1 Q :=
  am_putA hd hf hw ht hs hk (by rw [cq_sA]; exact kk)
abbrev wC : List (Nat × Nat × Nat) := [(0, 9, 47), (0, 8, 41), (41, 0, 4), (41, 5, 46), (41, 4, 45), (41, 3, 44), (41, 2, 43), (41, 1, 42), (0, 7, 36), (36, 0, 23), (36, 4, 40), (36, 3, 39), (36, 2, 38), (36, 1, 37), (0, 6, 26), (26, 2, 33), (33, 0, 23), (33, 7, 35), (33, 2, 34), (26, 1, 30), (30, 0, 23), (30, 7, 32), (30, 2, 31), (26, 0, 27), (27, 0, 23), (27, 7, 29), (27, 2, 28), (0, 5, 23), (23, 0, 4), (23, 2, 25), (23, 1, 24), (0, 4, 22), (0, 3, 13), (13, 1, 18), (18, 4, 21), (18, 2, 20), (18, 1, 19), (13, 0, 14), (14, 4, 17), (14, 2, 16), (14, 1, 15), (0, 2, 9), (9, 4, 12), (9, 2, 11), (9, 1, 10), (0, 1, 4), (4, 5, 8), (4, 4, 7), (4, 3, 6), (4, 2, 5), (0, 0, 1), (1, 2, 3), (1, 0, 2)]
abbrev iC : Nat → Nat → Int32 := (u2 (u2 (u2 zI 27 1 0) 30 1 2) 33 1 3)
set_option maxRecDepth 20000 in
theorem wX9_init {E : Nat × (Nat → Int32)} {Q : Option Value → am_H → Prop} (wp : am_R E mX9_init 178 [some (.ref 0)] [] (cq iC zJ wC) 48 48 Q) : am_R E mX9_init 0 [some (.ref 0)] [] (cq zI zJ []) 1 48 Q := by
  refine am_aload_n rfl rfl dX9_init_0 ?_
  refine am_obj dX9_init_1 lkX9_1 kn_obj.1 kn_obj.2 (Nat.le_of_ble_eq_true rfl) ⟨by decide, by decide⟩ ?_
  refine am_aload_n rfl rfl dX9_init_4 ?_
  refine cq_new (n' := 2) dX9_init_5 (by decide) rfl klX9_7 (by decide) (by decide) rfl (fun _ => rfl) (fun _ => rfl) (by decide) ?_
  show am_R E mX9_init 8 [some (.ref 0)] [.ref 1, .ref 0] (cq zI zJ ([])) 2 48 Q
  refine am_dup rfl dX9_init_8 ?_
  refine am_invIN (n2 := 4) (As := []) (lsZ := [some (.ref 1)]) (st := [.ref 1, .ref 0]) dX9_init_9 hX6_init (by decide +kernel) ⟨by decide, by decide⟩ rfl rfl (Nat.le_of_ble_eq_true rfl) rfl (Nat.le_of_ble_eq_true rfl) ⟨by decide, by decide⟩ ?_
  refine am_aload_n rfl rfl dX6_init_0 ?_
  refine am_obj dX6_init_1 lkX6_3 kn_obj.1 kn_obj.2 (Nat.le_of_ble_eq_true rfl) ⟨by decide, by decide⟩ ?_
  refine am_aload_n rfl rfl dX6_init_4 ?_
  refine am_sipush 200 rfl dX6_init_5 ?_
  refine cq_newa (n' := 3) dX6_init_8 rfl (Or.inl rfl) rfl kn_arr.1 (by decide) (by decide) (by decide) (by decide) (by decide) rfl (fun _ => rfl) (fun _ => rfl) (by decide) ?_
  show am_R E mX6_init 10 [some (.ref 1)] [.ref 2, .ref 1] (cq zI zJ ([])) 3 4 _
  refine cq_putA dX6_init_10 flX6_9 (Or.inr ⟨rfl, rfl, rfl⟩) (Or.inr ⟨_, rfl⟩) rfl (by decide) ?_
  show am_R E mX6_init 13 [some (.ref 1)] [] (cq zI zJ ([(1, 0, 2)])) 3 4 _
  refine am_aload_n rfl rfl dX6_init_13 ?_
  refine am_bipush 56 rfl dX6_init_14 ?_
  refine cq_newa (n' := 4) dX6_init_16 rfl (Or.inl rfl) rfl kn_arr.1 (by decide) (by decide) (by decide) (by decide) (by decide) rfl (fun _ => rfl) (fun _ => rfl) (by decide) ?_
  show am_R E mX6_init 18 [some (.ref 1)] [.ref 3, .ref 1] (cq zI zJ ([(1, 0, 2)])) 4 4 _
  refine cq_putA dX6_init_18 flX6_15 (Or.inr ⟨rfl, rfl, rfl⟩) (Or.inr ⟨_, rfl⟩) rfl (by decide) ?_
  show am_R E mX6_init 21 [some (.ref 1)] [] (cq zI zJ ([(1, 2, 3), (1, 0, 2)])) 4 4 _
  refine am_vret dX6_init_21 rfl ?_
  show am_R E mX9_init 12 [some (.ref 0)] [.ref 1, .ref 0] (cq zI zJ ([(1, 2, 3), (1, 0, 2)])) 4 48 Q
  refine cq_putA dX9_init_12 flX9_10 (Or.inr ⟨rfl, rfl, rfl⟩) (Or.inl ⟨_, rfl⟩) rfl (by decide) ?_
  show am_R E mX9_init 15 [some (.ref 0)] [] (cq zI zJ ([(0, 0, 1), (1, 2, 3), (1, 0, 2)])) 4 48 Q
  refine am_aload_n rfl rfl dX9_init_15 ?_
  refine cq_new (n' := 5) dX9_init_16 (by decide) rfl klX9_16 (by decide) (by decide) rfl (fun _ => rfl) (fun _ => rfl) (by decide) ?_
  show am_R E mX9_init 19 [some (.ref 0)] [.ref 4, .ref 0] (cq zI zJ ([(0, 0, 1), (1, 2, 3), (1, 0, 2)])) 5 48 Q
  refine am_dup rfl dX9_init_19 ?_
  refine am_invIN (n2 := 9) (As := []) (lsZ := [some (.ref 4)]) (st := [.ref 4, .ref 0]) dX9_init_20 hX2_init (by decide +kernel) ⟨by decide, by decide⟩ rfl rfl (Nat.le_of_ble_eq_true rfl) rfl (Nat.le_of_ble_eq_true rfl) ⟨by decide, by decide⟩ ?_
  refine am_aload_n rfl rfl dX2_init_0 ?_
  refine am_obj dX2_init_1 lkX2_3 kn_obj.1 kn_obj.2 (Nat.le_of_ble_eq_true rfl) ⟨by decide, by decide⟩ ?_
  refine am_aload_n rfl rfl dX2_init_4 ?_
  refine am_bipush 49 rfl dX2_init_5 ?_
  refine cq_newa (n' := 6) dX2_init_7 rfl (Or.inl rfl) rfl kn_arr.1 (by decide) (by decide) (by decide) (by decide) (by decide) rfl (fun _ => rfl) (fun _ => rfl) (by decide) ?_
  show am_R E mX2_init 9 [some (.ref 4)] [.ref 5, .ref 4] (cq zI zJ ([(0, 0, 1), (1, 2, 3), (1, 0, 2)])) 6 9 _
  refine cq_putA dX2_init_9 flX2_9 (Or.inr ⟨rfl, rfl, rfl⟩) (Or.inr ⟨_, rfl⟩) rfl (by decide) ?_
  show am_R E mX2_init 12 [some (.ref 4)] [] (cq zI zJ ([(4, 2, 5), (0, 0, 1), (1, 2, 3), (1, 0, 2)])) 6 9 _
  refine am_aload_n rfl rfl dX2_init_12 ?_
  refine am_bipush 49 rfl dX2_init_13 ?_
  refine cq_newa (n' := 7) dX2_init_15 rfl (Or.inl rfl) rfl kn_arr.1 (by decide) (by decide) (by decide) (by decide) (by decide) rfl (fun _ => rfl) (fun _ => rfl) (by decide) ?_
  show am_R E mX2_init 17 [some (.ref 4)] [.ref 6, .ref 4] (cq zI zJ ([(4, 2, 5), (0, 0, 1), (1, 2, 3), (1, 0, 2)])) 7 9 _
  refine cq_putA dX2_init_17 flX2_15 (Or.inr ⟨rfl, rfl, rfl⟩) (Or.inr ⟨_, rfl⟩) rfl (by decide) ?_
  show am_R E mX2_init 20 [some (.ref 4)] [] (cq zI zJ ([(4, 3, 6), (4, 2, 5), (0, 0, 1), (1, 2, 3), (1, 0, 2)])) 7 9 _
  refine am_aload_n rfl rfl dX2_init_20 ?_
  refine am_bipush 7 rfl dX2_init_21 ?_
  refine cq_newa (n' := 8) dX2_init_23 rfl (Or.inl rfl) rfl kn_arr.1 (by decide) (by decide) (by decide) (by decide) (by decide) rfl (fun _ => rfl) (fun _ => rfl) (by decide) ?_
  show am_R E mX2_init 25 [some (.ref 4)] [.ref 7, .ref 4] (cq zI zJ ([(4, 3, 6), (4, 2, 5), (0, 0, 1), (1, 2, 3), (1, 0, 2)])) 8 9 _
  refine cq_putA dX2_init_25 flX2_18 (Or.inr ⟨rfl, rfl, rfl⟩) (Or.inr ⟨_, rfl⟩) rfl (by decide) ?_
  show am_R E mX2_init 28 [some (.ref 4)] [] (cq zI zJ ([(4, 4, 7), (4, 3, 6), (4, 2, 5), (0, 0, 1), (1, 2, 3), (1, 0, 2)])) 8 9 _
  refine am_aload_n rfl rfl dX2_init_28 ?_
  refine am_bipush 7 rfl dX2_init_29 ?_
  refine cq_newa (n' := 9) dX2_init_31 rfl (Or.inl rfl) rfl kn_arr.1 (by decide) (by decide) (by decide) (by decide) (by decide) rfl (fun _ => rfl) (fun _ => rfl) (by decide) ?_
  show am_R E mX2_init 33 [some (.ref 4)] [.ref 8, .ref 4] (cq zI zJ ([(4, 4, 7), (4, 3, 6), (4, 2, 5), (0, 0, 1), (1, 2, 3), (1, 0, 2)])) 9 9 _
  refine cq_putA dX2_init_33 flX2_21 (Or.inr ⟨rfl, rfl, rfl⟩) (Or.inr ⟨_, rfl⟩) rfl (by decide) ?_
  show am_R E mX2_init 36 [some (.ref 4)] [] (cq zI zJ ([(4, 5, 8), (4, 4, 7), (4, 3, 6), (4, 2, 5), (0, 0, 1), (1, 2, 3), (1, 0, 2)])) 9 9 _
  refine am_vret dX2_init_36 rfl ?_
  show am_R E mX9_init 23 [some (.ref 0)] [.ref 4, .ref 0] (cq zI zJ ([(4, 5, 8), (4, 4, 7), (4, 3, 6), (4, 2, 5), (0, 0, 1), (1, 2, 3), (1, 0, 2)])) 9 48 Q
  refine cq_putA dX9_init_23 flX9_19 (Or.inr ⟨rfl, rfl, rfl⟩) (Or.inl ⟨_, rfl⟩) rfl (by decide) ?_
  show am_R E mX9_init 26 [some (.ref 0)] [] (cq zI zJ ([(0, 1, 4), (4, 5, 8), (4, 4, 7), (4, 3, 6), (4, 2, 5), (0, 0, 1), (1, 2, 3), (1, 0, 2)])) 9 48 Q
  refine am_aload_n rfl rfl dX9_init_26 ?_
  refine cq_new (n' := 10) dX9_init_27 (by decide) rfl klX9_23 (by decide) (by decide) rfl (fun _ => rfl) (fun _ => rfl) (by decide) ?_
  show am_R E mX9_init 30 [some (.ref 0)] [.ref 9, .ref 0] (cq zI zJ ([(0, 1, 4), (4, 5, 8), (4, 4, 7), (4, 3, 6), (4, 2, 5), (0, 0, 1), (1, 2, 3), (1, 0, 2)])) 10 48 Q
  refine am_dup rfl dX9_init_30 ?_
  refine am_invIN (n2 := 13) (As := []) (lsZ := [some (.ref 9)]) (st := [.ref 9, .ref 0]) dX9_init_31 hX1_init (by decide +kernel) ⟨by decide, by decide⟩ rfl rfl (Nat.le_of_ble_eq_true rfl) rfl (Nat.le_of_ble_eq_true rfl) ⟨by decide, by decide⟩ ?_
  refine am_aload_n rfl rfl dX1_init_0 ?_
  refine am_obj dX1_init_1 lkX1_3 kn_obj.1 kn_obj.2 (Nat.le_of_ble_eq_true rfl) ⟨by decide, by decide⟩ ?_
  refine am_aload_n rfl rfl dX1_init_4 ?_
  refine am_bipush 7 rfl dX1_init_5 ?_
  refine cq_newa (n' := 11) dX1_init_7 rfl (Or.inl rfl) rfl kn_arr.1 (by decide) (by decide) (by decide) (by decide) (by decide) rfl (fun _ => rfl) (fun _ => rfl) (by decide) ?_
  show am_R E mX1_init 9 [some (.ref 9)] [.ref 10, .ref 9] (cq zI zJ ([(0, 1, 4), (4, 5, 8), (4, 4, 7), (4, 3, 6), (4, 2, 5), (0, 0, 1), (1, 2, 3), (1, 0, 2)])) 11 13 _
  refine cq_putA dX1_init_9 flX1_9 (Or.inr ⟨rfl, rfl, rfl⟩) (Or.inr ⟨_, rfl⟩) rfl (by decide) ?_
  show am_R E mX1_init 12 [some (.ref 9)] [] (cq zI zJ ([(9, 1, 10), (0, 1, 4), (4, 5, 8), (4, 4, 7), (4, 3, 6), (4, 2, 5), (0, 0, 1), (1, 2, 3), (1, 0, 2)])) 11 13 _
  refine am_aload_n rfl rfl dX1_init_12 ?_
  refine am_bipush 7 rfl dX1_init_13 ?_
  refine cq_newa (n' := 12) dX1_init_15 rfl (Or.inl rfl) rfl kn_arr.1 (by decide) (by decide) (by decide) (by decide) (by decide) rfl (fun _ => rfl) (fun _ => rfl) (by decide) ?_
  show am_R E mX1_init 17 [some (.ref 9)] [.ref 11, .ref 9] (cq zI zJ ([(9, 1, 10), (0, 1, 4), (4, 5, 8), (4, 4, 7), (4, 3, 6), (4, 2, 5), (0, 0, 1), (1, 2, 3), (1, 0, 2)])) 12 13 _
  refine cq_putA dX1_init_17 flX1_15 (Or.inr ⟨rfl, rfl, rfl⟩) (Or.inr ⟨_, rfl⟩) rfl (by decide) ?_
  show am_R E mX1_init 20 [some (.ref 9)] [] (cq zI zJ ([(9, 2, 11), (9, 1, 10), (0, 1, 4), (4, 5, 8), (4, 4, 7), (4, 3, 6), (4, 2, 5), (0, 0, 1), (1, 2, 3), (1, 0, 2)])) 12 13 _
  refine am_aload_n rfl rfl dX1_init_20 ?_
  refine am_bipush 112 rfl dX1_init_21 ?_
  refine cq_newa (n' := 13) dX1_init_23 rfl (Or.inl rfl) rfl kn_arr.1 (by decide) (by decide) (by decide) (by decide) (by decide) rfl (fun _ => rfl) (fun _ => rfl) (by decide) ?_
  show am_R E mX1_init 25 [some (.ref 9)] [.ref 12, .ref 9] (cq zI zJ ([(9, 2, 11), (9, 1, 10), (0, 1, 4), (4, 5, 8), (4, 4, 7), (4, 3, 6), (4, 2, 5), (0, 0, 1), (1, 2, 3), (1, 0, 2)])) 13 13 _
  refine cq_putA dX1_init_25 flX1_18 (Or.inr ⟨rfl, rfl, rfl⟩) (Or.inr ⟨_, rfl⟩) rfl (by decide) ?_
  show am_R E mX1_init 28 [some (.ref 9)] [] (cq zI zJ ([(9, 4, 12), (9, 2, 11), (9, 1, 10), (0, 1, 4), (4, 5, 8), (4, 4, 7), (4, 3, 6), (4, 2, 5), (0, 0, 1), (1, 2, 3), (1, 0, 2)])) 13 13 _
  refine am_vret dX1_init_28 rfl ?_
  show am_R E mX9_init 34 [some (.ref 0)] [.ref 9, .ref 0] (cq zI zJ ([(9, 4, 12), (9, 2, 11), (9, 1, 10), (0, 1, 4), (4, 5, 8), (4, 4, 7), (4, 3, 6), (4, 2, 5), (0, 0, 1), (1, 2, 3), (1, 0, 2)])) 13 48 Q
  refine cq_putA dX9_init_34 flX9_26 (Or.inr ⟨rfl, rfl, rfl⟩) (Or.inl ⟨_, rfl⟩) rfl (by decide) ?_
  show am_R E mX9_init 37 [some (.ref 0)] [] (cq zI zJ ([(0, 2, 9), (9, 4, 12), (9, 2, 11), (9, 1, 10), (0, 1, 4), (4, 5, 8), (4, 4, 7), (4, 3, 6), (4, 2, 5), (0, 0, 1), (1, 2, 3), (1, 0, 2)])) 13 48 Q
  refine am_aload_n rfl rfl dX9_init_37 ?_
  refine am_iconst 2 rfl dX9_init_38 ?_
  refine cq_anew (n' := 14) dX9_init_39 (Or.inl rfl) rfl klX9_23 (by decide) (by decide) (by decide) (by decide) (by decide) rfl (fun _ => rfl) (fun _ => rfl) (by decide) ?_
  show am_R E mX9_init 42 [some (.ref 0)] [.ref 13, .ref 0] (cq zI zJ ([(0, 2, 9), (9, 4, 12), (9, 2, 11), (9, 1, 10), (0, 1, 4), (4, 5, 8), (4, 4, 7), (4, 3, 6), (4, 2, 5), (0, 0, 1), (1, 2, 3), (1, 0, 2)])) 14 48 Q
  refine am_dup rfl dX9_init_42 ?_
  refine am_iconst 0 rfl dX9_init_43 ?_
  refine cq_new (n' := 15) dX9_init_44 (by decide) rfl klX9_23 (by decide) (by decide) rfl (fun _ => rfl) (fun _ => rfl) (by decide) ?_
  show am_R E mX9_init 47 [some (.ref 0)] [.ref 14, .int 0, .ref 13, .ref 13, .ref 0] (cq zI zJ ([(0, 2, 9), (9, 4, 12), (9, 2, 11), (9, 1, 10), (0, 1, 4), (4, 5, 8), (4, 4, 7), (4, 3, 6), (4, 2, 5), (0, 0, 1), (1, 2, 3), (1, 0, 2)])) 15 48 Q
  refine am_dup rfl dX9_init_47 ?_
  refine am_invIN (n2 := 18) (As := []) (lsZ := [some (.ref 14)]) (st := [.ref 14, .int 0, .ref 13, .ref 13, .ref 0]) dX9_init_48 hX1_init (by decide +kernel) ⟨by decide, by decide⟩ rfl rfl (Nat.le_of_ble_eq_true rfl) rfl (Nat.le_of_ble_eq_true rfl) ⟨by decide, by decide⟩ ?_
  refine am_aload_n rfl rfl dX1_init_0 ?_
  refine am_obj dX1_init_1 lkX1_3 kn_obj.1 kn_obj.2 (Nat.le_of_ble_eq_true rfl) ⟨by decide, by decide⟩ ?_
  refine am_aload_n rfl rfl dX1_init_4 ?_
  refine am_bipush 7 rfl dX1_init_5 ?_
  refine cq_newa (n' := 16) dX1_init_7 rfl (Or.inl rfl) rfl kn_arr.1 (by decide) (by decide) (by decide) (by decide) (by decide) rfl (fun _ => rfl) (fun _ => rfl) (by decide) ?_
  show am_R E mX1_init 9 [some (.ref 14)] [.ref 15, .ref 14] (cq zI zJ ([(0, 2, 9), (9, 4, 12), (9, 2, 11), (9, 1, 10), (0, 1, 4), (4, 5, 8), (4, 4, 7), (4, 3, 6), (4, 2, 5), (0, 0, 1), (1, 2, 3), (1, 0, 2)])) 16 18 _
  refine cq_putA dX1_init_9 flX1_9 (Or.inr ⟨rfl, rfl, rfl⟩) (Or.inr ⟨_, rfl⟩) rfl (by decide) ?_
  show am_R E mX1_init 12 [some (.ref 14)] [] (cq zI zJ ([(14, 1, 15), (0, 2, 9), (9, 4, 12), (9, 2, 11), (9, 1, 10), (0, 1, 4), (4, 5, 8), (4, 4, 7), (4, 3, 6), (4, 2, 5), (0, 0, 1), (1, 2, 3), (1, 0, 2)])) 16 18 _
  refine am_aload_n rfl rfl dX1_init_12 ?_
  refine am_bipush 7 rfl dX1_init_13 ?_
  refine cq_newa (n' := 17) dX1_init_15 rfl (Or.inl rfl) rfl kn_arr.1 (by decide) (by decide) (by decide) (by decide) (by decide) rfl (fun _ => rfl) (fun _ => rfl) (by decide) ?_
  show am_R E mX1_init 17 [some (.ref 14)] [.ref 16, .ref 14] (cq zI zJ ([(14, 1, 15), (0, 2, 9), (9, 4, 12), (9, 2, 11), (9, 1, 10), (0, 1, 4), (4, 5, 8), (4, 4, 7), (4, 3, 6), (4, 2, 5), (0, 0, 1), (1, 2, 3), (1, 0, 2)])) 17 18 _
  refine cq_putA dX1_init_17 flX1_15 (Or.inr ⟨rfl, rfl, rfl⟩) (Or.inr ⟨_, rfl⟩) rfl (by decide) ?_
  show am_R E mX1_init 20 [some (.ref 14)] [] (cq zI zJ ([(14, 2, 16), (14, 1, 15), (0, 2, 9), (9, 4, 12), (9, 2, 11), (9, 1, 10), (0, 1, 4), (4, 5, 8), (4, 4, 7), (4, 3, 6), (4, 2, 5), (0, 0, 1), (1, 2, 3), (1, 0, 2)])) 17 18 _
  refine am_aload_n rfl rfl dX1_init_20 ?_
  refine am_bipush 112 rfl dX1_init_21 ?_
  refine cq_newa (n' := 18) dX1_init_23 rfl (Or.inl rfl) rfl kn_arr.1 (by decide) (by decide) (by decide) (by decide) (by decide) rfl (fun _ => rfl) (fun _ => rfl) (by decide) ?_
  show am_R E mX1_init 25 [some (.ref 14)] [.ref 17, .ref 14] (cq zI zJ ([(14, 2, 16), (14, 1, 15), (0, 2, 9), (9, 4, 12), (9, 2, 11), (9, 1, 10), (0, 1, 4), (4, 5, 8), (4, 4, 7), (4, 3, 6), (4, 2, 5), (0, 0, 1), (1, 2, 3), (1, 0, 2)])) 18 18 _
  refine cq_putA dX1_init_25 flX1_18 (Or.inr ⟨rfl, rfl, rfl⟩) (Or.inr ⟨_, rfl⟩) rfl (by decide) ?_
  show am_R E mX1_init 28 [some (.ref 14)] [] (cq zI zJ ([(14, 4, 17), (14, 2, 16), (14, 1, 15), (0, 2, 9), (9, 4, 12), (9, 2, 11), (9, 1, 10), (0, 1, 4), (4, 5, 8), (4, 4, 7), (4, 3, 6), (4, 2, 5), (0, 0, 1), (1, 2, 3), (1, 0, 2)])) 18 18 _
  refine am_vret dX1_init_28 rfl ?_
  show am_R E mX9_init 51 [some (.ref 0)] [.ref 14, .int 0, .ref 13, .ref 13, .ref 0] (cq zI zJ ([(14, 4, 17), (14, 2, 16), (14, 1, 15), (0, 2, 9), (9, 4, 12), (9, 2, 11), (9, 1, 10), (0, 1, 4), (4, 5, 8), (4, 4, 7), (4, 3, 6), (4, 2, 5), (0, 0, 1), (1, 2, 3), (1, 0, 2)])) 18 48 Q
  refine cq_aast (j := 0) (ci := 0) dX9_init_51 (by decide) rfl (Or.inr (Or.inr (Or.inr (Or.inl rfl)))) (by decide) rfl (by decide) (am_vin (j := 0) rfl (by decide) (by decide)).1 rfl ?_
  show am_R E mX9_init 52 [some (.ref 0)] [.ref 13, .ref 0] (cq zI zJ ([(13, 0, 14), (14, 4, 17), (14, 2, 16), (14, 1, 15), (0, 2, 9), (9, 4, 12), (9, 2, 11), (9, 1, 10), (0, 1, 4), (4, 5, 8), (4, 4, 7), (4, 3, 6), (4, 2, 5), (0, 0, 1), (1, 2, 3), (1, 0, 2)])) 18 48 Q
  refine am_dup rfl dX9_init_52 ?_
  refine am_iconst 1 rfl dX9_init_53 ?_
  refine cq_new (n' := 19) dX9_init_54 (by decide) rfl klX9_23 (by decide) (by decide) rfl (fun _ => rfl) (fun _ => rfl) (by decide) ?_
  show am_R E mX9_init 57 [some (.ref 0)] [.ref 18, .int 1, .ref 13, .ref 13, .ref 0] (cq zI zJ ([(13, 0, 14), (14, 4, 17), (14, 2, 16), (14, 1, 15), (0, 2, 9), (9, 4, 12), (9, 2, 11), (9, 1, 10), (0, 1, 4), (4, 5, 8), (4, 4, 7), (4, 3, 6), (4, 2, 5), (0, 0, 1), (1, 2, 3), (1, 0, 2)])) 19 48 Q
  refine am_dup rfl dX9_init_57 ?_
  refine am_invIN (n2 := 22) (As := []) (lsZ := [some (.ref 18)]) (st := [.ref 18, .int 1, .ref 13, .ref 13, .ref 0]) dX9_init_58 hX1_init (by decide +kernel) ⟨by decide, by decide⟩ rfl rfl (Nat.le_of_ble_eq_true rfl) rfl (Nat.le_of_ble_eq_true rfl) ⟨by decide, by decide⟩ ?_
  refine am_aload_n rfl rfl dX1_init_0 ?_
  refine am_obj dX1_init_1 lkX1_3 kn_obj.1 kn_obj.2 (Nat.le_of_ble_eq_true rfl) ⟨by decide, by decide⟩ ?_
  refine am_aload_n rfl rfl dX1_init_4 ?_
  refine am_bipush 7 rfl dX1_init_5 ?_
  refine cq_newa (n' := 20) dX1_init_7 rfl (Or.inl rfl) rfl kn_arr.1 (by decide) (by decide) (by decide) (by decide) (by decide) rfl (fun _ => rfl) (fun _ => rfl) (by decide) ?_
  show am_R E mX1_init 9 [some (.ref 18)] [.ref 19, .ref 18] (cq zI zJ ([(13, 0, 14), (14, 4, 17), (14, 2, 16), (14, 1, 15), (0, 2, 9), (9, 4, 12), (9, 2, 11), (9, 1, 10), (0, 1, 4), (4, 5, 8), (4, 4, 7), (4, 3, 6), (4, 2, 5), (0, 0, 1), (1, 2, 3), (1, 0, 2)])) 20 22 _
  refine cq_putA dX1_init_9 flX1_9 (Or.inr ⟨rfl, rfl, rfl⟩) (Or.inr ⟨_, rfl⟩) rfl (by decide) ?_
  show am_R E mX1_init 12 [some (.ref 18)] [] (cq zI zJ ([(18, 1, 19), (13, 0, 14), (14, 4, 17), (14, 2, 16), (14, 1, 15), (0, 2, 9), (9, 4, 12), (9, 2, 11), (9, 1, 10), (0, 1, 4), (4, 5, 8), (4, 4, 7), (4, 3, 6), (4, 2, 5), (0, 0, 1), (1, 2, 3), (1, 0, 2)])) 20 22 _
  refine am_aload_n rfl rfl dX1_init_12 ?_
  refine am_bipush 7 rfl dX1_init_13 ?_
  refine cq_newa (n' := 21) dX1_init_15 rfl (Or.inl rfl) rfl kn_arr.1 (by decide) (by decide) (by decide) (by decide) (by decide) rfl (fun _ => rfl) (fun _ => rfl) (by decide) ?_
  show am_R E mX1_init 17 [some (.ref 18)] [.ref 20, .ref 18] (cq zI zJ ([(18, 1, 19), (13, 0, 14), (14, 4, 17), (14, 2, 16), (14, 1, 15), (0, 2, 9), (9, 4, 12), (9, 2, 11), (9, 1, 10), (0, 1, 4), (4, 5, 8), (4, 4, 7), (4, 3, 6), (4, 2, 5), (0, 0, 1), (1, 2, 3), (1, 0, 2)])) 21 22 _
  refine cq_putA dX1_init_17 flX1_15 (Or.inr ⟨rfl, rfl, rfl⟩) (Or.inr ⟨_, rfl⟩) rfl (by decide) ?_
  show am_R E mX1_init 20 [some (.ref 18)] [] (cq zI zJ ([(18, 2, 20), (18, 1, 19), (13, 0, 14), (14, 4, 17), (14, 2, 16), (14, 1, 15), (0, 2, 9), (9, 4, 12), (9, 2, 11), (9, 1, 10), (0, 1, 4), (4, 5, 8), (4, 4, 7), (4, 3, 6), (4, 2, 5), (0, 0, 1), (1, 2, 3), (1, 0, 2)])) 21 22 _
  refine am_aload_n rfl rfl dX1_init_20 ?_
  refine am_bipush 112 rfl dX1_init_21 ?_
  refine cq_newa (n' := 22) dX1_init_23 rfl (Or.inl rfl) rfl kn_arr.1 (by decide) (by decide) (by decide) (by decide) (by decide) rfl (fun _ => rfl) (fun _ => rfl) (by decide) ?_
  show am_R E mX1_init 25 [some (.ref 18)] [.ref 21, .ref 18] (cq zI zJ ([(18, 2, 20), (18, 1, 19), (13, 0, 14), (14, 4, 17), (14, 2, 16), (14, 1, 15), (0, 2, 9), (9, 4, 12), (9, 2, 11), (9, 1, 10), (0, 1, 4), (4, 5, 8), (4, 4, 7), (4, 3, 6), (4, 2, 5), (0, 0, 1), (1, 2, 3), (1, 0, 2)])) 22 22 _
  refine cq_putA dX1_init_25 flX1_18 (Or.inr ⟨rfl, rfl, rfl⟩) (Or.inr ⟨_, rfl⟩) rfl (by decide) ?_
  show am_R E mX1_init 28 [some (.ref 18)] [] (cq zI zJ ([(18, 4, 21), (18, 2, 20), (18, 1, 19), (13, 0, 14), (14, 4, 17), (14, 2, 16), (14, 1, 15), (0, 2, 9), (9, 4, 12), (9, 2, 11), (9, 1, 10), (0, 1, 4), (4, 5, 8), (4, 4, 7), (4, 3, 6), (4, 2, 5), (0, 0, 1), (1, 2, 3), (1, 0, 2)])) 22 22 _
  refine am_vret dX1_init_28 rfl ?_
  show am_R E mX9_init 61 [some (.ref 0)] [.ref 18, .int 1, .ref 13, .ref 13, .ref 0] (cq zI zJ ([(18, 4, 21), (18, 2, 20), (18, 1, 19), (13, 0, 14), (14, 4, 17), (14, 2, 16), (14, 1, 15), (0, 2, 9), (9, 4, 12), (9, 2, 11), (9, 1, 10), (0, 1, 4), (4, 5, 8), (4, 4, 7), (4, 3, 6), (4, 2, 5), (0, 0, 1), (1, 2, 3), (1, 0, 2)])) 22 48 Q
  refine cq_aast (j := 1) (ci := 0) dX9_init_61 (by decide) rfl (Or.inr (Or.inr (Or.inr (Or.inl rfl)))) (by decide) rfl (by decide) (am_vin (j := 1) rfl (by decide) (by decide)).1 rfl ?_
  show am_R E mX9_init 62 [some (.ref 0)] [.ref 13, .ref 0] (cq zI zJ ([(13, 1, 18), (18, 4, 21), (18, 2, 20), (18, 1, 19), (13, 0, 14), (14, 4, 17), (14, 2, 16), (14, 1, 15), (0, 2, 9), (9, 4, 12), (9, 2, 11), (9, 1, 10), (0, 1, 4), (4, 5, 8), (4, 4, 7), (4, 3, 6), (4, 2, 5), (0, 0, 1), (1, 2, 3), (1, 0, 2)])) 22 48 Q
  refine cq_putA dX9_init_62 flX9_30 (Or.inr ⟨rfl, rfl, rfl⟩) (Or.inr ⟨_, rfl⟩) rfl (by decide) ?_
  show am_R E mX9_init 65 [some (.ref 0)] [] (cq zI zJ ([(0, 3, 13), (13, 1, 18), (18, 4, 21), (18, 2, 20), (18, 1, 19), (13, 0, 14), (14, 4, 17), (14, 2, 16), (14, 1, 15), (0, 2, 9), (9, 4, 12), (9, 2, 11), (9, 1, 10), (0, 1, 4), (4, 5, 8), (4, 4, 7), (4, 3, 6), (4, 2, 5), (0, 0, 1), (1, 2, 3), (1, 0, 2)])) 22 48 Q
  refine am_aload_n rfl rfl dX9_init_65 ?_
  refine am_iconst 2 rfl dX9_init_66 ?_
  refine cq_newa (n' := 23) dX9_init_67 rfl (Or.inr (Or.inr rfl)) rfl kn_arr.2.2 (by decide) (by decide) (by decide) (by decide) (by decide) rfl (fun _ => rfl) (fun _ => rfl) (by decide) ?_
  show am_R E mX9_init 69 [some (.ref 0)] [.ref 22, .ref 0] (cq zI zJ ([(0, 3, 13), (13, 1, 18), (18, 4, 21), (18, 2, 20), (18, 1, 19), (13, 0, 14), (14, 4, 17), (14, 2, 16), (14, 1, 15), (0, 2, 9), (9, 4, 12), (9, 2, 11), (9, 1, 10), (0, 1, 4), (4, 5, 8), (4, 4, 7), (4, 3, 6), (4, 2, 5), (0, 0, 1), (1, 2, 3), (1, 0, 2)])) 23 48 Q
  refine cq_putA dX9_init_69 flX9_34 (Or.inr ⟨rfl, rfl, rfl⟩) (Or.inr ⟨_, rfl⟩) rfl (by decide) ?_
  show am_R E mX9_init 72 [some (.ref 0)] [] (cq zI zJ ([(0, 4, 22), (0, 3, 13), (13, 1, 18), (18, 4, 21), (18, 2, 20), (18, 1, 19), (13, 0, 14), (14, 4, 17), (14, 2, 16), (14, 1, 15), (0, 2, 9), (9, 4, 12), (9, 2, 11), (9, 1, 10), (0, 1, 4), (4, 5, 8), (4, 4, 7), (4, 3, 6), (4, 2, 5), (0, 0, 1), (1, 2, 3), (1, 0, 2)])) 23 48 Q
  refine am_aload_n rfl rfl dX9_init_72 ?_
  refine cq_new (n' := 24) dX9_init_73 (by decide) rfl klX9_38 (by decide) (by decide) rfl (fun _ => rfl) (fun _ => rfl) (by decide) ?_
  show am_R E mX9_init 76 [some (.ref 0)] [.ref 23, .ref 0] (cq zI zJ ([(0, 4, 22), (0, 3, 13), (13, 1, 18), (18, 4, 21), (18, 2, 20), (18, 1, 19), (13, 0, 14), (14, 4, 17), (14, 2, 16), (14, 1, 15), (0, 2, 9), (9, 4, 12), (9, 2, 11), (9, 1, 10), (0, 1, 4), (4, 5, 8), (4, 4, 7), (4, 3, 6), (4, 2, 5), (0, 0, 1), (1, 2, 3), (1, 0, 2)])) 24 48 Q
  refine am_dup rfl dX9_init_76 ?_
  refine am_aload_n rfl rfl dX9_init_77 ?_
  refine am_getA (r := 4) dX9_init_78 flX9_19 (Or.inl ⟨_, rfl⟩) rfl (by decide) rfl ?_
  refine am_invI (n2 := 26) (As := [.ref 4]) (lsZ := [some (.ref 23), some (.ref 4)]) (st := [.ref 23, .ref 0]) dX9_init_81 hX5_init lkX9_40 ⟨by decide, by decide⟩ rfl rfl (Nat.le_of_ble_eq_true rfl) rfl (Nat.le_of_ble_eq_true rfl) ⟨by decide, by decide⟩ ?_
  refine am_aload_n rfl rfl dX5_init_0 ?_
  refine am_obj dX5_init_1 lkX5_3 kn_obj.1 kn_obj.2 (Nat.le_of_ble_eq_true rfl) ⟨by decide, by decide⟩ ?_
  refine am_aload_n rfl rfl dX5_init_4 ?_
  refine am_bipush 7 rfl dX5_init_5 ?_
  refine cq_newa (n' := 25) dX5_init_7 rfl (Or.inl rfl) rfl kn_arr.1 (by decide) (by decide) (by decide) (by decide) (by decide) rfl (fun _ => rfl) (fun _ => rfl) (by decide) ?_
  show am_R E mX5_init 9 [some (.ref 23), some (.ref 4)] [.ref 24, .ref 23] (cq zI zJ ([(0, 4, 22), (0, 3, 13), (13, 1, 18), (18, 4, 21), (18, 2, 20), (18, 1, 19), (13, 0, 14), (14, 4, 17), (14, 2, 16), (14, 1, 15), (0, 2, 9), (9, 4, 12), (9, 2, 11), (9, 1, 10), (0, 1, 4), (4, 5, 8), (4, 4, 7), (4, 3, 6), (4, 2, 5), (0, 0, 1), (1, 2, 3), (1, 0, 2)])) 25 26 _
  refine cq_putA dX5_init_9 flX5_9 (Or.inr ⟨rfl, rfl, rfl⟩) (Or.inr ⟨_, rfl⟩) rfl (by decide) ?_
  show am_R E mX5_init 12 [some (.ref 23), some (.ref 4)] [] (cq zI zJ ([(23, 1, 24), (0, 4, 22), (0, 3, 13), (13, 1, 18), (18, 4, 21), (18, 2, 20), (18, 1, 19), (13, 0, 14), (14, 4, 17), (14, 2, 16), (14, 1, 15), (0, 2, 9), (9, 4, 12), (9, 2, 11), (9, 1, 10), (0, 1, 4), (4, 5, 8), (4, 4, 7), (4, 3, 6), (4, 2, 5), (0, 0, 1), (1, 2, 3), (1, 0, 2)])) 25 26 _
  refine am_aload_n rfl rfl dX5_init_12 ?_
  refine am_sipush 210 rfl dX5_init_13 ?_
  refine cq_newa (n' := 26) dX5_init_16 rfl (Or.inl rfl) rfl kn_arr.1 (by decide) (by decide) (by decide) (by decide) (by decide) rfl (fun _ => rfl) (fun _ => rfl) (by decide) ?_
  show am_R E mX5_init 18 [some (.ref 23), some (.ref 4)] [.ref 25, .ref 23] (cq zI zJ ([(23, 1, 24), (0, 4, 22), (0, 3, 13), (13, 1, 18), (18, 4, 21), (18, 2, 20), (18, 1, 19), (13, 0, 14), (14, 4, 17), (14, 2, 16), (14, 1, 15), (0, 2, 9), (9, 4, 12), (9, 2, 11), (9, 1, 10), (0, 1, 4), (4, 5, 8), (4, 4, 7), (4, 3, 6), (4, 2, 5), (0, 0, 1), (1, 2, 3), (1, 0, 2)])) 26 26 _
  refine cq_putA dX5_init_18 flX5_15 (Or.inr ⟨rfl, rfl, rfl⟩) (Or.inr ⟨_, rfl⟩) rfl (by decide) ?_
  show am_R E mX5_init 21 [some (.ref 23), some (.ref 4)] [] (cq zI zJ ([(23, 2, 25), (23, 1, 24), (0, 4, 22), (0, 3, 13), (13, 1, 18), (18, 4, 21), (18, 2, 20), (18, 1, 19), (13, 0, 14), (14, 4, 17), (14, 2, 16), (14, 1, 15), (0, 2, 9), (9, 4, 12), (9, 2, 11), (9, 1, 10), (0, 1, 4), (4, 5, 8), (4, 4, 7), (4, 3, 6), (4, 2, 5), (0, 0, 1), (1, 2, 3), (1, 0, 2)])) 26 26 _
  refine am_aload_n rfl rfl dX5_init_21 ?_
  refine am_aload_n rfl rfl dX5_init_22 ?_
  refine cq_putA dX5_init_23 flX5_18 (Or.inr ⟨rfl, rfl, rfl⟩) (Or.inl ⟨_, rfl⟩) rfl (by decide) ?_
  show am_R E mX5_init 26 [some (.ref 23), some (.ref 4)] [] (cq zI zJ ([(23, 0, 4), (23, 2, 25), (23, 1, 24), (0, 4, 22), (0, 3, 13), (13, 1, 18), (18, 4, 21), (18, 2, 20), (18, 1, 19), (13, 0, 14), (14, 4, 17), (14, 2, 16), (14, 1, 15), (0, 2, 9), (9, 4, 12), (9, 2, 11), (9, 1, 10), (0, 1, 4), (4, 5, 8), (4, 4, 7), (4, 3, 6), (4, 2, 5), (0, 0, 1), (1, 2, 3), (1, 0, 2)])) 26 26 _
  refine am_vret dX5_init_26 rfl ?_
  show am_R E mX9_init 84 [some (.ref 0)] [.ref 23, .ref 0] (cq zI zJ ([(23, 0, 4), (23, 2, 25), (23, 1, 24), (0, 4, 22), (0, 3, 13), (13, 1, 18), (18, 4, 21), (18, 2, 20), (18, 1, 19), (13, 0, 14), (14, 4, 17), (14, 2, 16), (14, 1, 15), (0, 2, 9), (9, 4, 12), (9, 2, 11), (9, 1, 10), (0, 1, 4), (4, 5, 8), (4, 4, 7), (4, 3, 6), (4, 2, 5), (0, 0, 1), (1, 2, 3), (1, 0, 2)])) 26 48 Q
  refine cq_putA dX9_init_84 flX9_43 (Or.inr ⟨rfl, rfl, rfl⟩) (Or.inl ⟨_, rfl⟩) rfl (by decide) ?_
  show am_R E mX9_init 87 [some (.ref 0)] [] (cq zI zJ ([(0, 5, 23), (23, 0, 4), (23, 2, 25), (23, 1, 24), (0, 4, 22), (0, 3, 13), (13, 1, 18), (18, 4, 21), (18, 2, 20), (18, 1, 19), (13, 0, 14), (14, 4, 17), (14, 2, 16), (14, 1, 15), (0, 2, 9), (9, 4, 12), (9, 2, 11), (9, 1, 10), (0, 1, 4), (4, 5, 8), (4, 4, 7), (4, 3, 6), (4, 2, 5), (0, 0, 1), (1, 2, 3), (1, 0, 2)])) 26 48 Q
  refine am_aload_n rfl rfl dX9_init_87 ?_
  refine am_iconst 3 rfl dX9_init_88 ?_
  refine cq_anew (n' := 27) dX9_init_89 (Or.inr rfl) rfl klX9_47 (by decide) (by decide) (by decide) (by decide) (by decide) rfl (fun _ => rfl) (fun _ => rfl) (by decide) ?_
  show am_R E mX9_init 92 [some (.ref 0)] [.ref 26, .ref 0] (cq zI zJ ([(0, 5, 23), (23, 0, 4), (23, 2, 25), (23, 1, 24), (0, 4, 22), (0, 3, 13), (13, 1, 18), (18, 4, 21), (18, 2, 20), (18, 1, 19), (13, 0, 14), (14, 4, 17), (14, 2, 16), (14, 1, 15), (0, 2, 9), (9, 4, 12), (9, 2, 11), (9, 1, 10), (0, 1, 4), (4, 5, 8), (4, 4, 7), (4, 3, 6), (4, 2, 5), (0, 0, 1), (1, 2, 3), (1, 0, 2)])) 27 48 Q
  refine am_dup rfl dX9_init_92 ?_
  refine am_iconst 0 rfl dX9_init_93 ?_
  refine cq_new (n' := 28) dX9_init_94 (by decide) rfl klX9_47 (by decide) (by decide) rfl (fun _ => rfl) (fun _ => rfl) (by decide) ?_
  show am_R E mX9_init 97 [some (.ref 0)] [.ref 27, .int 0, .ref 26, .ref 26, .ref 0] (cq zI zJ ([(0, 5, 23), (23, 0, 4), (23, 2, 25), (23, 1, 24), (0, 4, 22), (0, 3, 13), (13, 1, 18), (18, 4, 21), (18, 2, 20), (18, 1, 19), (13, 0, 14), (14, 4, 17), (14, 2, 16), (14, 1, 15), (0, 2, 9), (9, 4, 12), (9, 2, 11), (9, 1, 10), (0, 1, 4), (4, 5, 8), (4, 4, 7), (4, 3, 6), (4, 2, 5), (0, 0, 1), (1, 2, 3), (1, 0, 2)])) 28 48 Q
  refine am_dup rfl dX9_init_97 ?_
  refine am_aload_n rfl rfl dX9_init_98 ?_
  refine am_getA (r := 23) dX9_init_99 flX9_43 (Or.inl ⟨_, rfl⟩) rfl (by decide) rfl ?_
  refine am_iconst 0 rfl dX9_init_102 ?_
  refine am_invI (n2 := 30) (As := [.ref 23, .int 0]) (lsZ := [some (.ref 27), some (.ref 23), some (.int 0)]) (st := [.ref 27, .int 0, .ref 26, .ref 26, .ref 0]) dX9_init_103 hX8_init lkX9_49 ⟨by decide, by decide⟩ rfl rfl (Nat.le_of_ble_eq_true rfl) rfl (Nat.le_of_ble_eq_true rfl) ⟨by decide, by decide⟩ ?_
  refine am_aload_n rfl rfl dX8_init_0 ?_
  refine am_obj dX8_init_1 lkX8_3 kn_obj.1 kn_obj.2 (Nat.le_of_ble_eq_true rfl) ⟨by decide, by decide⟩ ?_
  refine am_aload_n rfl rfl dX8_init_4 ?_
  refine am_bipush 7 rfl dX8_init_5 ?_
  refine cq_newa (n' := 29) dX8_init_7 rfl (Or.inl rfl) rfl kn_arr.1 (by decide) (by decide) (by decide) (by decide) (by decide) rfl (fun _ => rfl) (fun _ => rfl) (by decide) ?_
  show am_R E mX8_init 9 [some (.ref 27), some (.ref 23), some (.int 0)] [.ref 28, .ref 27] (cq zI zJ ([(0, 5, 23), (23, 0, 4), (23, 2, 25), (23, 1, 24), (0, 4, 22), (0, 3, 13), (13, 1, 18), (18, 4, 21), (18, 2, 20), (18, 1, 19), (13, 0, 14), (14, 4, 17), (14, 2, 16), (14, 1, 15), (0, 2, 9), (9, 4, 12), (9, 2, 11), (9, 1, 10), (0, 1, 4), (4, 5, 8), (4, 4, 7), (4, 3, 6), (4, 2, 5), (0, 0, 1), (1, 2, 3), (1, 0, 2)])) 29 30 _
  refine cq_putA dX8_init_9 flX8_9 (Or.inr ⟨rfl, rfl, rfl⟩) (Or.inr ⟨_, rfl⟩) rfl (by decide) ?_
  show am_R E mX8_init 12 [some (.ref 27), some (.ref 23), some (.int 0)] [] (cq zI zJ ([(27, 2, 28), (0, 5, 23), (23, 0, 4), (23, 2, 25), (23, 1, 24), (0, 4, 22), (0, 3, 13), (13, 1, 18), (18, 4, 21), (18, 2, 20), (18, 1, 19), (13, 0, 14), (14, 4, 17), (14, 2, 16), (14, 1, 15), (0, 2, 9), (9, 4, 12), (9, 2, 11), (9, 1, 10), (0, 1, 4), (4, 5, 8), (4, 4, 7), (4, 3, 6), (4, 2, 5), (0, 0, 1), (1, 2, 3), (1, 0, 2)])) 29 30 _
  refine am_aload_n rfl rfl dX8_init_12 ?_
  refine am_bipush 49 rfl dX8_init_13 ?_
  refine cq_newa (n' := 30) dX8_init_15 rfl (Or.inl rfl) rfl kn_arr.1 (by decide) (by decide) (by decide) (by decide) (by decide) rfl (fun _ => rfl) (fun _ => rfl) (by decide) ?_
  show am_R E mX8_init 17 [some (.ref 27), some (.ref 23), some (.int 0)] [.ref 29, .ref 27] (cq zI zJ ([(27, 2, 28), (0, 5, 23), (23, 0, 4), (23, 2, 25), (23, 1, 24), (0, 4, 22), (0, 3, 13), (13, 1, 18), (18, 4, 21), (18, 2, 20), (18, 1, 19), (13, 0, 14), (14, 4, 17), (14, 2, 16), (14, 1, 15), (0, 2, 9), (9, 4, 12), (9, 2, 11), (9, 1, 10), (0, 1, 4), (4, 5, 8), (4, 4, 7), (4, 3, 6), (4, 2, 5), (0, 0, 1), (1, 2, 3), (1, 0, 2)])) 30 30 _
  refine cq_putA dX8_init_17 flX8_15 (Or.inr ⟨rfl, rfl, rfl⟩) (Or.inr ⟨_, rfl⟩) rfl (by decide) ?_
  show am_R E mX8_init 20 [some (.ref 27), some (.ref 23), some (.int 0)] [] (cq zI zJ ([(27, 7, 29), (27, 2, 28), (0, 5, 23), (23, 0, 4), (23, 2, 25), (23, 1, 24), (0, 4, 22), (0, 3, 13), (13, 1, 18), (18, 4, 21), (18, 2, 20), (18, 1, 19), (13, 0, 14), (14, 4, 17), (14, 2, 16), (14, 1, 15), (0, 2, 9), (9, 4, 12), (9, 2, 11), (9, 1, 10), (0, 1, 4), (4, 5, 8), (4, 4, 7), (4, 3, 6), (4, 2, 5), (0, 0, 1), (1, 2, 3), (1, 0, 2)])) 30 30 _
  refine am_aload_n rfl rfl dX8_init_20 ?_
  refine am_aload_n rfl rfl dX8_init_21 ?_
  refine cq_putA dX8_init_22 flX8_18 (Or.inr ⟨rfl, rfl, rfl⟩) (Or.inl ⟨_, rfl⟩) rfl (by decide) ?_
  show am_R E mX8_init 25 [some (.ref 27), some (.ref 23), some (.int 0)] [] (cq zI zJ ([(27, 0, 23), (27, 7, 29), (27, 2, 28), (0, 5, 23), (23, 0, 4), (23, 2, 25), (23, 1, 24), (0, 4, 22), (0, 3, 13), (13, 1, 18), (18, 4, 21), (18, 2, 20), (18, 1, 19), (13, 0, 14), (14, 4, 17), (14, 2, 16), (14, 1, 15), (0, 2, 9), (9, 4, 12), (9, 2, 11), (9, 1, 10), (0, 1, 4), (4, 5, 8), (4, 4, 7), (4, 3, 6), (4, 2, 5), (0, 0, 1), (1, 2, 3), (1, 0, 2)])) 30 30 _
  refine am_aload_n rfl rfl dX8_init_25 ?_
  refine am_iload_n rfl rfl dX8_init_26 ?_
  refine cq_putI dX8_init_27 flX8_22 (Or.inr ⟨rfl, rfl, rfl⟩) rfl rfl (by decide) ?_
  show am_R E mX8_init 30 [some (.ref 27), some (.ref 23), some (.int 0)] [] (cq (u2 zI 27 1 0) zJ ([(27, 0, 23), (27, 7, 29), (27, 2, 28), (0, 5, 23), (23, 0, 4), (23, 2, 25), (23, 1, 24), (0, 4, 22), (0, 3, 13), (13, 1, 18), (18, 4, 21), (18, 2, 20), (18, 1, 19), (13, 0, 14), (14, 4, 17), (14, 2, 16), (14, 1, 15), (0, 2, 9), (9, 4, 12), (9, 2, 11), (9, 1, 10), (0, 1, 4), (4, 5, 8), (4, 4, 7), (4, 3, 6), (4, 2, 5), (0, 0, 1), (1, 2, 3), (1, 0, 2)])) 30 30 _
  refine am_vret dX8_init_30 rfl ?_
  show am_R E mX9_init 106 [some (.ref 0)] [.ref 27, .int 0, .ref 26, .ref 26, .ref 0] (cq (u2 zI 27 1 0) zJ ([(27, 0, 23), (27, 7, 29), (27, 2, 28), (0, 5, 23), (23, 0, 4), (23, 2, 25), (23, 1, 24), (0, 4, 22), (0, 3, 13), (13, 1, 18), (18, 4, 21), (18, 2, 20), (18, 1, 19), (13, 0, 14), (14, 4, 17), (14, 2, 16), (14, 1, 15), (0, 2, 9), (9, 4, 12), (9, 2, 11), (9, 1, 10), (0, 1, 4), (4, 5, 8), (4, 4, 7), (4, 3, 6), (4, 2, 5), (0, 0, 1), (1, 2, 3), (1, 0, 2)])) 30 48 Q
  refine cq_aast (j := 0) (ci := 6) dX9_init_106 (by decide) rfl (Or.inr (Or.inr (Or.inr (Or.inr rfl)))) (by decide) rfl (by decide) (am_vin (j := 0) rfl (by decide) (by decide)).1 rfl ?_
  show am_R E mX9_init 107 [some (.ref 0)] [.ref 26, .ref 0] (cq (u2 zI 27 1 0) zJ ([(26, 0, 27), (27, 0, 23), (27, 7, 29), (27, 2, 28), (0, 5, 23), (23, 0, 4), (23, 2, 25), (23, 1, 24), (0, 4, 22), (0, 3, 13), (13, 1, 18), (18, 4, 21), (18, 2, 20), (18, 1, 19), (13, 0, 14), (14, 4, 17), (14, 2, 16), (14, 1, 15), (0, 2, 9), (9, 4, 12), (9, 2, 11), (9, 1, 10), (0, 1, 4), (4, 5, 8), (4, 4, 7), (4, 3, 6), (4, 2, 5), (0, 0, 1), (1, 2, 3), (1, 0, 2)])) 30 48 Q
  refine am_dup rfl dX9_init_107 ?_
  refine am_iconst 1 rfl dX9_init_108 ?_
  refine cq_new (n' := 31) dX9_init_109 (by decide) rfl klX9_47 (by decide) (by decide) rfl (fun _ => rfl) (fun _ => rfl) (by decide) ?_
  show am_R E mX9_init 112 [some (.ref 0)] [.ref 30, .int 1, .ref 26, .ref 26, .ref 0] (cq (u2 zI 27 1 0) zJ ([(26, 0, 27), (27, 0, 23), (27, 7, 29), (27, 2, 28), (0, 5, 23), (23, 0, 4), (23, 2, 25), (23, 1, 24), (0, 4, 22), (0, 3, 13), (13, 1, 18), (18, 4, 21), (18, 2, 20), (18, 1, 19), (13, 0, 14), (14, 4, 17), (14, 2, 16), (14, 1, 15), (0, 2, 9), (9, 4, 12), (9, 2, 11), (9, 1, 10), (0, 1, 4), (4, 5, 8), (4, 4, 7), (4, 3, 6), (4, 2, 5), (0, 0, 1), (1, 2, 3), (1, 0, 2)])) 31 48 Q
  refine am_dup rfl dX9_init_112 ?_
  refine am_aload_n rfl rfl dX9_init_113 ?_
  refine am_getA (r := 23) dX9_init_114 flX9_43 (Or.inl ⟨_, rfl⟩) rfl (by decide) rfl ?_
  refine am_iconst 2 rfl dX9_init_117 ?_
  refine am_invI (n2 := 33) (As := [.ref 23, .int 2]) (lsZ := [some (.ref 30), some (.ref 23), some (.int 2)]) (st := [.ref 30, .int 1, .ref 26, .ref 26, .ref 0]) dX9_init_118 hX8_init lkX9_49 ⟨by decide, by decide⟩ rfl rfl (Nat.le_of_ble_eq_true rfl) rfl (Nat.le_of_ble_eq_true rfl) ⟨by decide, by decide⟩ ?_
  refine am_aload_n rfl rfl dX8_init_0 ?_
  refine am_obj dX8_init_1 lkX8_3 kn_obj.1 kn_obj.2 (Nat.le_of_ble_eq_true rfl) ⟨by decide, by decide⟩ ?_
  refine am_aload_n rfl rfl dX8_init_4 ?_
  refine am_bipush 7 rfl dX8_init_5 ?_
  refine cq_newa (n' := 32) dX8_init_7 rfl (Or.inl rfl) rfl kn_arr.1 (by decide) (by decide) (by decide) (by decide) (by decide) rfl (fun _ => rfl) (fun _ => rfl) (by decide) ?_
  show am_R E mX8_init 9 [some (.ref 30), some (.ref 23), some (.int 2)] [.ref 31, .ref 30] (cq (u2 zI 27 1 0) zJ ([(26, 0, 27), (27, 0, 23), (27, 7, 29), (27, 2, 28), (0, 5, 23), (23, 0, 4), (23, 2, 25), (23, 1, 24), (0, 4, 22), (0, 3, 13), (13, 1, 18), (18, 4, 21), (18, 2, 20), (18, 1, 19), (13, 0, 14), (14, 4, 17), (14, 2, 16), (14, 1, 15), (0, 2, 9), (9, 4, 12), (9, 2, 11), (9, 1, 10), (0, 1, 4), (4, 5, 8), (4, 4, 7), (4, 3, 6), (4, 2, 5), (0, 0, 1), (1, 2, 3), (1, 0, 2)])) 32 33 _
  refine cq_putA dX8_init_9 flX8_9 (Or.inr ⟨rfl, rfl, rfl⟩) (Or.inr ⟨_, rfl⟩) rfl (by decide) ?_
  show am_R E mX8_init 12 [some (.ref 30), some (.ref 23), some (.int 2)] [] (cq (u2 zI 27 1 0) zJ ([(30, 2, 31), (26, 0, 27), (27, 0, 23), (27, 7, 29), (27, 2, 28), (0, 5, 23), (23, 0, 4), (23, 2, 25), (23, 1, 24), (0, 4, 22), (0, 3, 13), (13, 1, 18), (18, 4, 21), (18, 2, 20), (18, 1, 19), (13, 0, 14), (14, 4, 17), (14, 2, 16), (14, 1, 15), (0, 2, 9), (9, 4, 12), (9, 2, 11), (9, 1, 10), (0, 1, 4), (4, 5, 8), (4, 4, 7), (4, 3, 6), (4, 2, 5), (0, 0, 1), (1, 2, 3), (1, 0, 2)])) 32 33 _
  refine am_aload_n rfl rfl dX8_init_12 ?_
  refine am_bipush 49 rfl dX8_init_13 ?_
  refine cq_newa (n' := 33) dX8_init_15 rfl (Or.inl rfl) rfl kn_arr.1 (by decide) (by decide) (by decide) (by decide) (by decide) rfl (fun _ => rfl) (fun _ => rfl) (by decide) ?_
  show am_R E mX8_init 17 [some (.ref 30), some (.ref 23), some (.int 2)] [.ref 32, .ref 30] (cq (u2 zI 27 1 0) zJ ([(30, 2, 31), (26, 0, 27), (27, 0, 23), (27, 7, 29), (27, 2, 28), (0, 5, 23), (23, 0, 4), (23, 2, 25), (23, 1, 24), (0, 4, 22), (0, 3, 13), (13, 1, 18), (18, 4, 21), (18, 2, 20), (18, 1, 19), (13, 0, 14), (14, 4, 17), (14, 2, 16), (14, 1, 15), (0, 2, 9), (9, 4, 12), (9, 2, 11), (9, 1, 10), (0, 1, 4), (4, 5, 8), (4, 4, 7), (4, 3, 6), (4, 2, 5), (0, 0, 1), (1, 2, 3), (1, 0, 2)])) 33 33 _
  refine cq_putA dX8_init_17 flX8_15 (Or.inr ⟨rfl, rfl, rfl⟩) (Or.inr ⟨_, rfl⟩) rfl (by decide) ?_
  show am_R E mX8_init 20 [some (.ref 30), some (.ref 23), some (.int 2)] [] (cq (u2 zI 27 1 0) zJ ([(30, 7, 32), (30, 2, 31), (26, 0, 27), (27, 0, 23), (27, 7, 29), (27, 2, 28), (0, 5, 23), (23, 0, 4), (23, 2, 25), (23, 1, 24), (0, 4, 22), (0, 3, 13), (13, 1, 18), (18, 4, 21), (18, 2, 20), (18, 1, 19), (13, 0, 14), (14, 4, 17), (14, 2, 16), (14, 1, 15), (0, 2, 9), (9, 4, 12), (9, 2, 11), (9, 1, 10), (0, 1, 4), (4, 5, 8), (4, 4, 7), (4, 3, 6), (4, 2, 5), (0, 0, 1), (1, 2, 3), (1, 0, 2)])) 33 33 _
  refine am_aload_n rfl rfl dX8_init_20 ?_
  refine am_aload_n rfl rfl dX8_init_21 ?_
  refine cq_putA dX8_init_22 flX8_18 (Or.inr ⟨rfl, rfl, rfl⟩) (Or.inl ⟨_, rfl⟩) rfl (by decide) ?_
  show am_R E mX8_init 25 [some (.ref 30), some (.ref 23), some (.int 2)] [] (cq (u2 zI 27 1 0) zJ ([(30, 0, 23), (30, 7, 32), (30, 2, 31), (26, 0, 27), (27, 0, 23), (27, 7, 29), (27, 2, 28), (0, 5, 23), (23, 0, 4), (23, 2, 25), (23, 1, 24), (0, 4, 22), (0, 3, 13), (13, 1, 18), (18, 4, 21), (18, 2, 20), (18, 1, 19), (13, 0, 14), (14, 4, 17), (14, 2, 16), (14, 1, 15), (0, 2, 9), (9, 4, 12), (9, 2, 11), (9, 1, 10), (0, 1, 4), (4, 5, 8), (4, 4, 7), (4, 3, 6), (4, 2, 5), (0, 0, 1), (1, 2, 3), (1, 0, 2)])) 33 33 _
  refine am_aload_n rfl rfl dX8_init_25 ?_
  refine am_iload_n rfl rfl dX8_init_26 ?_
  refine cq_putI dX8_init_27 flX8_22 (Or.inr ⟨rfl, rfl, rfl⟩) rfl rfl (by decide) ?_
  show am_R E mX8_init 30 [some (.ref 30), some (.ref 23), some (.int 2)] [] (cq (u2 (u2 zI 27 1 0) 30 1 2) zJ ([(30, 0, 23), (30, 7, 32), (30, 2, 31), (26, 0, 27), (27, 0, 23), (27, 7, 29), (27, 2, 28), (0, 5, 23), (23, 0, 4), (23, 2, 25), (23, 1, 24), (0, 4, 22), (0, 3, 13), (13, 1, 18), (18, 4, 21), (18, 2, 20), (18, 1, 19), (13, 0, 14), (14, 4, 17), (14, 2, 16), (14, 1, 15), (0, 2, 9), (9, 4, 12), (9, 2, 11), (9, 1, 10), (0, 1, 4), (4, 5, 8), (4, 4, 7), (4, 3, 6), (4, 2, 5), (0, 0, 1), (1, 2, 3), (1, 0, 2)])) 33 33 _
  refine am_vret dX8_init_30 rfl ?_
  show am_R E mX9_init 121 [some (.ref 0)] [.ref 30, .int 1, .ref 26, .ref 26, .ref 0] (cq (u2 (u2 zI 27 1 0) 30 1 2) zJ ([(30, 0, 23), (30, 7, 32), (30, 2, 31), (26, 0, 27), (27, 0, 23), (27, 7, 29), (27, 2, 28), (0, 5, 23), (23, 0, 4), (23, 2, 25), (23, 1, 24), (0, 4, 22), (0, 3, 13), (13, 1, 18), (18, 4, 21), (18, 2, 20), (18, 1, 19), (13, 0, 14), (14, 4, 17), (14, 2, 16), (14, 1, 15), (0, 2, 9), (9, 4, 12), (9, 2, 11), (9, 1, 10), (0, 1, 4), (4, 5, 8), (4, 4, 7), (4, 3, 6), (4, 2, 5), (0, 0, 1), (1, 2, 3), (1, 0, 2)])) 33 48 Q
  refine cq_aast (j := 1) (ci := 6) dX9_init_121 (by decide) rfl (Or.inr (Or.inr (Or.inr (Or.inr rfl)))) (by decide) rfl (by decide) (am_vin (j := 1) rfl (by decide) (by decide)).1 rfl ?_
  show am_R E mX9_init 122 [some (.ref 0)] [.ref 26, .ref 0] (cq (u2 (u2 zI 27 1 0) 30 1 2) zJ ([(26, 1, 30), (30, 0, 23), (30, 7, 32), (30, 2, 31), (26, 0, 27), (27, 0, 23), (27, 7, 29), (27, 2, 28), (0, 5, 23), (23, 0, 4), (23, 2, 25), (23, 1, 24), (0, 4, 22), (0, 3, 13), (13, 1, 18), (18, 4, 21), (18, 2, 20), (18, 1, 19), (13, 0, 14), (14, 4, 17), (14, 2, 16), (14, 1, 15), (0, 2, 9), (9, 4, 12), (9, 2, 11), (9, 1, 10), (0, 1, 4), (4, 5, 8), (4, 4, 7), (4, 3, 6), (4, 2, 5), (0, 0, 1), (1, 2, 3), (1, 0, 2)])) 33 48 Q
  refine am_dup rfl dX9_init_122 ?_
  refine am_iconst 2 rfl dX9_init_123 ?_
  refine cq_new (n' := 34) dX9_init_124 (by decide) rfl klX9_47 (by decide) (by decide) rfl (fun _ => rfl) (fun _ => rfl) (by decide) ?_
  show am_R E mX9_init 127 [some (.ref 0)] [.ref 33, .int 2, .ref 26, .ref 26, .ref 0] (cq (u2 (u2 zI 27 1 0) 30 1 2) zJ ([(26, 1, 30), (30, 0, 23), (30, 7, 32), (30, 2, 31), (26, 0, 27), (27, 0, 23), (27, 7, 29), (27, 2, 28), (0, 5, 23), (23, 0, 4), (23, 2, 25), (23, 1, 24), (0, 4, 22), (0, 3, 13), (13, 1, 18), (18, 4, 21), (18, 2, 20), (18, 1, 19), (13, 0, 14), (14, 4, 17), (14, 2, 16), (14, 1, 15), (0, 2, 9), (9, 4, 12), (9, 2, 11), (9, 1, 10), (0, 1, 4), (4, 5, 8), (4, 4, 7), (4, 3, 6), (4, 2, 5), (0, 0, 1), (1, 2, 3), (1, 0, 2)])) 34 48 Q
  refine am_dup rfl dX9_init_127 ?_
  refine am_aload_n rfl rfl dX9_init_128 ?_
  refine am_getA (r := 23) dX9_init_129 flX9_43 (Or.inl ⟨_, rfl⟩) rfl (by decide) rfl ?_
  refine am_iconst 3 rfl dX9_init_132 ?_
  refine am_invI (n2 := 36) (As := [.ref 23, .int 3]) (lsZ := [some (.ref 33), some (.ref 23), some (.int 3)]) (st := [.ref 33, .int 2, .ref 26, .ref 26, .ref 0]) dX9_init_133 hX8_init lkX9_49 ⟨by decide, by decide⟩ rfl rfl (Nat.le_of_ble_eq_true rfl) rfl (Nat.le_of_ble_eq_true rfl) ⟨by decide, by decide⟩ ?_
  refine am_aload_n rfl rfl dX8_init_0 ?_
  refine am_obj dX8_init_1 lkX8_3 kn_obj.1 kn_obj.2 (Nat.le_of_ble_eq_true rfl) ⟨by decide, by decide⟩ ?_
  refine am_aload_n rfl rfl dX8_init_4 ?_
  refine am_bipush 7 rfl dX8_init_5 ?_
  refine cq_newa (n' := 35) dX8_init_7 rfl (Or.inl rfl) rfl kn_arr.1 (by decide) (by decide) (by decide) (by decide) (by decide) rfl (fun _ => rfl) (fun _ => rfl) (by decide) ?_
  show am_R E mX8_init 9 [some (.ref 33), some (.ref 23), some (.int 3)] [.ref 34, .ref 33] (cq (u2 (u2 zI 27 1 0) 30 1 2) zJ ([(26, 1, 30), (30, 0, 23), (30, 7, 32), (30, 2, 31), (26, 0, 27), (27, 0, 23), (27, 7, 29), (27, 2, 28), (0, 5, 23), (23, 0, 4), (23, 2, 25), (23, 1, 24), (0, 4, 22), (0, 3, 13), (13, 1, 18), (18, 4, 21), (18, 2, 20), (18, 1, 19), (13, 0, 14), (14, 4, 17), (14, 2, 16), (14, 1, 15), (0, 2, 9), (9, 4, 12), (9, 2, 11), (9, 1, 10), (0, 1, 4), (4, 5, 8), (4, 4, 7), (4, 3, 6), (4, 2, 5), (0, 0, 1), (1, 2, 3), (1, 0, 2)])) 35 36 _
  refine cq_putA dX8_init_9 flX8_9 (Or.inr ⟨rfl, rfl, rfl⟩) (Or.inr ⟨_, rfl⟩) rfl (by decide) ?_
  show am_R E mX8_init 12 [some (.ref 33), some (.ref 23), some (.int 3)] [] (cq (u2 (u2 zI 27 1 0) 30 1 2) zJ ([(33, 2, 34), (26, 1, 30), (30, 0, 23), (30, 7, 32), (30, 2, 31), (26, 0, 27), (27, 0, 23), (27, 7, 29), (27, 2, 28), (0, 5, 23), (23, 0, 4), (23, 2, 25), (23, 1, 24), (0, 4, 22), (0, 3, 13), (13, 1, 18), (18, 4, 21), (18, 2, 20), (18, 1, 19), (13, 0, 14), (14, 4, 17), (14, 2, 16), (14, 1, 15), (0, 2, 9), (9, 4, 12), (9, 2, 11), (9, 1, 10), (0, 1, 4), (4, 5, 8), (4, 4, 7), (4, 3, 6), (4, 2, 5), (0, 0, 1), (1, 2, 3), (1, 0, 2)])) 35 36 _
  refine am_aload_n rfl rfl dX8_init_12 ?_
  refine am_bipush 49 rfl dX8_init_13 ?_
  refine cq_newa (n' := 36) dX8_init_15 rfl (Or.inl rfl) rfl kn_arr.1 (by decide) (by decide) (by decide) (by decide) (by decide) rfl (fun _ => rfl) (fun _ => rfl) (by decide) ?_
  show am_R E mX8_init 17 [some (.ref 33), some (.ref 23), some (.int 3)] [.ref 35, .ref 33] (cq (u2 (u2 zI 27 1 0) 30 1 2) zJ ([(33, 2, 34), (26, 1, 30), (30, 0, 23), (30, 7, 32), (30, 2, 31), (26, 0, 27), (27, 0, 23), (27, 7, 29), (27, 2, 28), (0, 5, 23), (23, 0, 4), (23, 2, 25), (23, 1, 24), (0, 4, 22), (0, 3, 13), (13, 1, 18), (18, 4, 21), (18, 2, 20), (18, 1, 19), (13, 0, 14), (14, 4, 17), (14, 2, 16), (14, 1, 15), (0, 2, 9), (9, 4, 12), (9, 2, 11), (9, 1, 10), (0, 1, 4), (4, 5, 8), (4, 4, 7), (4, 3, 6), (4, 2, 5), (0, 0, 1), (1, 2, 3), (1, 0, 2)])) 36 36 _
  refine cq_putA dX8_init_17 flX8_15 (Or.inr ⟨rfl, rfl, rfl⟩) (Or.inr ⟨_, rfl⟩) rfl (by decide) ?_
  show am_R E mX8_init 20 [some (.ref 33), some (.ref 23), some (.int 3)] [] (cq (u2 (u2 zI 27 1 0) 30 1 2) zJ ([(33, 7, 35), (33, 2, 34), (26, 1, 30), (30, 0, 23), (30, 7, 32), (30, 2, 31), (26, 0, 27), (27, 0, 23), (27, 7, 29), (27, 2, 28), (0, 5, 23), (23, 0, 4), (23, 2, 25), (23, 1, 24), (0, 4, 22), (0, 3, 13), (13, 1, 18), (18, 4, 21), (18, 2, 20), (18, 1, 19), (13, 0, 14), (14, 4, 17), (14, 2, 16), (14, 1, 15), (0, 2, 9), (9, 4, 12), (9, 2, 11), (9, 1, 10), (0, 1, 4), (4, 5, 8), (4, 4, 7), (4, 3, 6), (4, 2, 5), (0, 0, 1), (1, 2, 3), (1, 0, 2)])) 36 36 _
  refine am_aload_n rfl rfl dX8_init_20 ?_
  refine am_aload_n rfl rfl dX8_init_21 ?_
  refine cq_putA dX8_init_22 flX8_18 (Or.inr ⟨rfl, rfl, rfl⟩) (Or.inl ⟨_, rfl⟩) rfl (by decide) ?_
  show am_R E mX8_init 25 [some (.ref 33), some (.ref 23), some (.int 3)] [] (cq (u2 (u2 zI 27 1 0) 30 1 2) zJ ([(33, 0, 23), (33, 7, 35), (33, 2, 34), (26, 1, 30), (30, 0, 23), (30, 7, 32), (30, 2, 31), (26, 0, 27), (27, 0, 23), (27, 7, 29), (27, 2, 28), (0, 5, 23), (23, 0, 4), (23, 2, 25), (23, 1, 24), (0, 4, 22), (0, 3, 13), (13, 1, 18), (18, 4, 21), (18, 2, 20), (18, 1, 19), (13, 0, 14), (14, 4, 17), (14, 2, 16), (14, 1, 15), (0, 2, 9), (9, 4, 12), (9, 2, 11), (9, 1, 10), (0, 1, 4), (4, 5, 8), (4, 4, 7), (4, 3, 6), (4, 2, 5), (0, 0, 1), (1, 2, 3), (1, 0, 2)])) 36 36 _
  refine am_aload_n rfl rfl dX8_init_25 ?_
  refine am_iload_n rfl rfl dX8_init_26 ?_
  refine cq_putI dX8_init_27 flX8_22 (Or.inr ⟨rfl, rfl, rfl⟩) rfl rfl (by decide) ?_
  show am_R E mX8_init 30 [some (.ref 33), some (.ref 23), some (.int 3)] [] (cq (u2 (u2 (u2 zI 27 1 0) 30 1 2) 33 1 3) zJ ([(33, 0, 23), (33, 7, 35), (33, 2, 34), (26, 1, 30), (30, 0, 23), (30, 7, 32), (30, 2, 31), (26, 0, 27), (27, 0, 23), (27, 7, 29), (27, 2, 28), (0, 5, 23), (23, 0, 4), (23, 2, 25), (23, 1, 24), (0, 4, 22), (0, 3, 13), (13, 1, 18), (18, 4, 21), (18, 2, 20), (18, 1, 19), (13, 0, 14), (14, 4, 17), (14, 2, 16), (14, 1, 15), (0, 2, 9), (9, 4, 12), (9, 2, 11), (9, 1, 10), (0, 1, 4), (4, 5, 8), (4, 4, 7), (4, 3, 6), (4, 2, 5), (0, 0, 1), (1, 2, 3), (1, 0, 2)])) 36 36 _
  refine am_vret dX8_init_30 rfl ?_
  show am_R E mX9_init 136 [some (.ref 0)] [.ref 33, .int 2, .ref 26, .ref 26, .ref 0] (cq (u2 (u2 (u2 zI 27 1 0) 30 1 2) 33 1 3) zJ ([(33, 0, 23), (33, 7, 35), (33, 2, 34), (26, 1, 30), (30, 0, 23), (30, 7, 32), (30, 2, 31), (26, 0, 27), (27, 0, 23), (27, 7, 29), (27, 2, 28), (0, 5, 23), (23, 0, 4), (23, 2, 25), (23, 1, 24), (0, 4, 22), (0, 3, 13), (13, 1, 18), (18, 4, 21), (18, 2, 20), (18, 1, 19), (13, 0, 14), (14, 4, 17), (14, 2, 16), (14, 1, 15), (0, 2, 9), (9, 4, 12), (9, 2, 11), (9, 1, 10), (0, 1, 4), (4, 5, 8), (4, 4, 7), (4, 3, 6), (4, 2, 5), (0, 0, 1), (1, 2, 3), (1, 0, 2)])) 36 48 Q
  refine cq_aast (j := 2) (ci := 6) dX9_init_136 (by decide) rfl (Or.inr (Or.inr (Or.inr (Or.inr rfl)))) (by decide) rfl (by decide) (am_vin (j := 2) rfl (by decide) (by decide)).1 rfl ?_
  show am_R E mX9_init 137 [some (.ref 0)] [.ref 26, .ref 0] (cq (u2 (u2 (u2 zI 27 1 0) 30 1 2) 33 1 3) zJ ([(26, 2, 33), (33, 0, 23), (33, 7, 35), (33, 2, 34), (26, 1, 30), (30, 0, 23), (30, 7, 32), (30, 2, 31), (26, 0, 27), (27, 0, 23), (27, 7, 29), (27, 2, 28), (0, 5, 23), (23, 0, 4), (23, 2, 25), (23, 1, 24), (0, 4, 22), (0, 3, 13), (13, 1, 18), (18, 4, 21), (18, 2, 20), (18, 1, 19), (13, 0, 14), (14, 4, 17), (14, 2, 16), (14, 1, 15), (0, 2, 9), (9, 4, 12), (9, 2, 11), (9, 1, 10), (0, 1, 4), (4, 5, 8), (4, 4, 7), (4, 3, 6), (4, 2, 5), (0, 0, 1), (1, 2, 3), (1, 0, 2)])) 36 48 Q
  refine cq_putA dX9_init_137 flX9_52 (Or.inr ⟨rfl, rfl, rfl⟩) (Or.inr ⟨_, rfl⟩) rfl (by decide) ?_
  show am_R E mX9_init 140 [some (.ref 0)] [] (cq (u2 (u2 (u2 zI 27 1 0) 30 1 2) 33 1 3) zJ ([(0, 6, 26), (26, 2, 33), (33, 0, 23), (33, 7, 35), (33, 2, 34), (26, 1, 30), (30, 0, 23), (30, 7, 32), (30, 2, 31), (26, 0, 27), (27, 0, 23), (27, 7, 29), (27, 2, 28), (0, 5, 23), (23, 0, 4), (23, 2, 25), (23, 1, 24), (0, 4, 22), (0, 3, 13), (13, 1, 18), (18, 4, 21), (18, 2, 20), (18, 1, 19), (13, 0, 14), (14, 4, 17), (14, 2, 16), (14, 1, 15), (0, 2, 9), (9, 4, 12), (9, 2, 11), (9, 1, 10), (0, 1, 4), (4, 5, 8), (4, 4, 7), (4, 3, 6), (4, 2, 5), (0, 0, 1), (1, 2, 3), (1, 0, 2)])) 36 48 Q
  refine am_aload_n rfl rfl dX9_init_140 ?_
  refine cq_new (n' := 37) dX9_init_141 (by decide) rfl klX9_56 (by decide) (by decide) rfl (fun _ => rfl) (fun _ => rfl) (by decide) ?_
  show am_R E mX9_init 144 [some (.ref 0)] [.ref 36, .ref 0] (cq (u2 (u2 (u2 zI 27 1 0) 30 1 2) 33 1 3) zJ ([(0, 6, 26), (26, 2, 33), (33, 0, 23), (33, 7, 35), (33, 2, 34), (26, 1, 30), (30, 0, 23), (30, 7, 32), (30, 2, 31), (26, 0, 27), (27, 0, 23), (27, 7, 29), (27, 2, 28), (0, 5, 23), (23, 0, 4), (23, 2, 25), (23, 1, 24), (0, 4, 22), (0, 3, 13), (13, 1, 18), (18, 4, 21), (18, 2, 20), (18, 1, 19), (13, 0, 14), (14, 4, 17), (14, 2, 16), (14, 1, 15), (0, 2, 9), (9, 4, 12), (9, 2, 11), (9, 1, 10), (0, 1, 4), (4, 5, 8), (4, 4, 7), (4, 3, 6), (4, 2, 5), (0, 0, 1), (1, 2, 3), (1, 0, 2)])) 37 48 Q
  refine am_dup rfl dX9_init_144 ?_
  refine am_aload_n rfl rfl dX9_init_145 ?_
  refine am_getA (r := 23) dX9_init_146 flX9_43 (Or.inl ⟨_, rfl⟩) rfl (by decide) rfl ?_
  refine am_invI (n2 := 41) (As := [.ref 23]) (lsZ := [some (.ref 36), some (.ref 23)]) (st := [.ref 36, .ref 0]) dX9_init_149 hX7_init lkX9_58 ⟨by decide, by decide⟩ rfl rfl (Nat.le_of_ble_eq_true rfl) rfl (Nat.le_of_ble_eq_true rfl) ⟨by decide, by decide⟩ ?_
  refine am_aload_n rfl rfl dX7_init_0 ?_
  refine am_obj dX7_init_1 lkX7_3 kn_obj.1 kn_obj.2 (Nat.le_of_ble_eq_true rfl) ⟨by decide, by decide⟩ ?_
  refine am_aload_n rfl rfl dX7_init_4 ?_
  refine am_bipush 7 rfl dX7_init_5 ?_
  refine cq_newa (n' := 38) dX7_init_7 rfl (Or.inl rfl) rfl kn_arr.1 (by decide) (by decide) (by decide) (by decide) (by decide) rfl (fun _ => rfl) (fun _ => rfl) (by decide) ?_
  show am_R E mX7_init 9 [some (.ref 36), some (.ref 23)] [.ref 37, .ref 36] (cq (u2 (u2 (u2 zI 27 1 0) 30 1 2) 33 1 3) zJ ([(0, 6, 26), (26, 2, 33), (33, 0, 23), (33, 7, 35), (33, 2, 34), (26, 1, 30), (30, 0, 23), (30, 7, 32), (30, 2, 31), (26, 0, 27), (27, 0, 23), (27, 7, 29), (27, 2, 28), (0, 5, 23), (23, 0, 4), (23, 2, 25), (23, 1, 24), (0, 4, 22), (0, 3, 13), (13, 1, 18), (18, 4, 21), (18, 2, 20), (18, 1, 19), (13, 0, 14), (14, 4, 17), (14, 2, 16), (14, 1, 15), (0, 2, 9), (9, 4, 12), (9, 2, 11), (9, 1, 10), (0, 1, 4), (4, 5, 8), (4, 4, 7), (4, 3, 6), (4, 2, 5), (0, 0, 1), (1, 2, 3), (1, 0, 2)])) 38 41 _
  refine cq_putA dX7_init_9 flX7_9 (Or.inr ⟨rfl, rfl, rfl⟩) (Or.inr ⟨_, rfl⟩) rfl (by decide) ?_
  show am_R E mX7_init 12 [some (.ref 36), some (.ref 23)] [] (cq (u2 (u2 (u2 zI 27 1 0) 30 1 2) 33 1 3) zJ ([(36, 1, 37), (0, 6, 26), (26, 2, 33), (33, 0, 23), (33, 7, 35), (33, 2, 34), (26, 1, 30), (30, 0, 23), (30, 7, 32), (30, 2, 31), (26, 0, 27), (27, 0, 23), (27, 7, 29), (27, 2, 28), (0, 5, 23), (23, 0, 4), (23, 2, 25), (23, 1, 24), (0, 4, 22), (0, 3, 13), (13, 1, 18), (18, 4, 21), (18, 2, 20), (18, 1, 19), (13, 0, 14), (14, 4, 17), (14, 2, 16), (14, 1, 15), (0, 2, 9), (9, 4, 12), (9, 2, 11), (9, 1, 10), (0, 1, 4), (4, 5, 8), (4, 4, 7), (4, 3, 6), (4, 2, 5), (0, 0, 1), (1, 2, 3), (1, 0, 2)])) 38 41 _
  refine am_aload_n rfl rfl dX7_init_12 ?_
  refine am_bipush 7 rfl dX7_init_13 ?_
  refine cq_newa (n' := 39) dX7_init_15 rfl (Or.inl rfl) rfl kn_arr.1 (by decide) (by decide) (by decide) (by decide) (by decide) rfl (fun _ => rfl) (fun _ => rfl) (by decide) ?_
  show am_R E mX7_init 17 [some (.ref 36), some (.ref 23)] [.ref 38, .ref 36] (cq (u2 (u2 (u2 zI 27 1 0) 30 1 2) 33 1 3) zJ ([(36, 1, 37), (0, 6, 26), (26, 2, 33), (33, 0, 23), (33, 7, 35), (33, 2, 34), (26, 1, 30), (30, 0, 23), (30, 7, 32), (30, 2, 31), (26, 0, 27), (27, 0, 23), (27, 7, 29), (27, 2, 28), (0, 5, 23), (23, 0, 4), (23, 2, 25), (23, 1, 24), (0, 4, 22), (0, 3, 13), (13, 1, 18), (18, 4, 21), (18, 2, 20), (18, 1, 19), (13, 0, 14), (14, 4, 17), (14, 2, 16), (14, 1, 15), (0, 2, 9), (9, 4, 12), (9, 2, 11), (9, 1, 10), (0, 1, 4), (4, 5, 8), (4, 4, 7), (4, 3, 6), (4, 2, 5), (0, 0, 1), (1, 2, 3), (1, 0, 2)])) 39 41 _
  refine cq_putA dX7_init_17 flX7_15 (Or.inr ⟨rfl, rfl, rfl⟩) (Or.inr ⟨_, rfl⟩) rfl (by decide) ?_
  show am_R E mX7_init 20 [some (.ref 36), some (.ref 23)] [] (cq (u2 (u2 (u2 zI 27 1 0) 30 1 2) 33 1 3) zJ ([(36, 2, 38), (36, 1, 37), (0, 6, 26), (26, 2, 33), (33, 0, 23), (33, 7, 35), (33, 2, 34), (26, 1, 30), (30, 0, 23), (30, 7, 32), (30, 2, 31), (26, 0, 27), (27, 0, 23), (27, 7, 29), (27, 2, 28), (0, 5, 23), (23, 0, 4), (23, 2, 25), (23, 1, 24), (0, 4, 22), (0, 3, 13), (13, 1, 18), (18, 4, 21), (18, 2, 20), (18, 1, 19), (13, 0, 14), (14, 4, 17), (14, 2, 16), (14, 1, 15), (0, 2, 9), (9, 4, 12), (9, 2, 11), (9, 1, 10), (0, 1, 4), (4, 5, 8), (4, 4, 7), (4, 3, 6), (4, 2, 5), (0, 0, 1), (1, 2, 3), (1, 0, 2)])) 39 41 _
  refine am_aload_n rfl rfl dX7_init_20 ?_
  refine am_bipush 79 rfl dX7_init_21 ?_
  refine cq_newa (n' := 40) dX7_init_23 rfl (Or.inr (Or.inl rfl)) rfl kn_arr.2.1 (by decide) (by decide) (by decide) (by decide) (by decide) rfl (fun _ => rfl) (fun _ => rfl) (by decide) ?_
  show am_R E mX7_init 25 [some (.ref 36), some (.ref 23)] [.ref 39, .ref 36] (cq (u2 (u2 (u2 zI 27 1 0) 30 1 2) 33 1 3) zJ ([(36, 2, 38), (36, 1, 37), (0, 6, 26), (26, 2, 33), (33, 0, 23), (33, 7, 35), (33, 2, 34), (26, 1, 30), (30, 0, 23), (30, 7, 32), (30, 2, 31), (26, 0, 27), (27, 0, 23), (27, 7, 29), (27, 2, 28), (0, 5, 23), (23, 0, 4), (23, 2, 25), (23, 1, 24), (0, 4, 22), (0, 3, 13), (13, 1, 18), (18, 4, 21), (18, 2, 20), (18, 1, 19), (13, 0, 14), (14, 4, 17), (14, 2, 16), (14, 1, 15), (0, 2, 9), (9, 4, 12), (9, 2, 11), (9, 1, 10), (0, 1, 4), (4, 5, 8), (4, 4, 7), (4, 3, 6), (4, 2, 5), (0, 0, 1), (1, 2, 3), (1, 0, 2)])) 40 41 _
  refine cq_putA dX7_init_25 flX7_18 (Or.inr ⟨rfl, rfl, rfl⟩) (Or.inr ⟨_, rfl⟩) rfl (by decide) ?_
  show am_R E mX7_init 28 [some (.ref 36), some (.ref 23)] [] (cq (u2 (u2 (u2 zI 27 1 0) 30 1 2) 33 1 3) zJ ([(36, 3, 39), (36, 2, 38), (36, 1, 37), (0, 6, 26), (26, 2, 33), (33, 0, 23), (33, 7, 35), (33, 2, 34), (26, 1, 30), (30, 0, 23), (30, 7, 32), (30, 2, 31), (26, 0, 27), (27, 0, 23), (27, 7, 29), (27, 2, 28), (0, 5, 23), (23, 0, 4), (23, 2, 25), (23, 1, 24), (0, 4, 22), (0, 3, 13), (13, 1, 18), (18, 4, 21), (18, 2, 20), (18, 1, 19), (13, 0, 14), (14, 4, 17), (14, 2, 16), (14, 1, 15), (0, 2, 9), (9, 4, 12), (9, 2, 11), (9, 1, 10), (0, 1, 4), (4, 5, 8), (4, 4, 7), (4, 3, 6), (4, 2, 5), (0, 0, 1), (1, 2, 3), (1, 0, 2)])) 40 41 _
  refine am_aload_n rfl rfl dX7_init_28 ?_
  refine am_bipush 79 rfl dX7_init_29 ?_
  refine cq_newa (n' := 41) dX7_init_31 rfl (Or.inr (Or.inl rfl)) rfl kn_arr.2.1 (by decide) (by decide) (by decide) (by decide) (by decide) rfl (fun _ => rfl) (fun _ => rfl) (by decide) ?_
  show am_R E mX7_init 33 [some (.ref 36), some (.ref 23)] [.ref 40, .ref 36] (cq (u2 (u2 (u2 zI 27 1 0) 30 1 2) 33 1 3) zJ ([(36, 3, 39), (36, 2, 38), (36, 1, 37), (0, 6, 26), (26, 2, 33), (33, 0, 23), (33, 7, 35), (33, 2, 34), (26, 1, 30), (30, 0, 23), (30, 7, 32), (30, 2, 31), (26, 0, 27), (27, 0, 23), (27, 7, 29), (27, 2, 28), (0, 5, 23), (23, 0, 4), (23, 2, 25), (23, 1, 24), (0, 4, 22), (0, 3, 13), (13, 1, 18), (18, 4, 21), (18, 2, 20), (18, 1, 19), (13, 0, 14), (14, 4, 17), (14, 2, 16), (14, 1, 15), (0, 2, 9), (9, 4, 12), (9, 2, 11), (9, 1, 10), (0, 1, 4), (4, 5, 8), (4, 4, 7), (4, 3, 6), (4, 2, 5), (0, 0, 1), (1, 2, 3), (1, 0, 2)])) 41 41 _
  refine cq_putA dX7_init_33 flX7_22 (Or.inr ⟨rfl, rfl, rfl⟩) (Or.inr ⟨_, rfl⟩) rfl (by decide) ?_
  show am_R E mX7_init 36 [some (.ref 36), some (.ref 23)] [] (cq (u2 (u2 (u2 zI 27 1 0) 30 1 2) 33 1 3) zJ ([(36, 4, 40), (36, 3, 39), (36, 2, 38), (36, 1, 37), (0, 6, 26), (26, 2, 33), (33, 0, 23), (33, 7, 35), (33, 2, 34), (26, 1, 30), (30, 0, 23), (30, 7, 32), (30, 2, 31), (26, 0, 27), (27, 0, 23), (27, 7, 29), (27, 2, 28), (0, 5, 23), (23, 0, 4), (23, 2, 25), (23, 1, 24), (0, 4, 22), (0, 3, 13), (13, 1, 18), (18, 4, 21), (18, 2, 20), (18, 1, 19), (13, 0, 14), (14, 4, 17), (14, 2, 16), (14, 1, 15), (0, 2, 9), (9, 4, 12), (9, 2, 11), (9, 1, 10), (0, 1, 4), (4, 5, 8), (4, 4, 7), (4, 3, 6), (4, 2, 5), (0, 0, 1), (1, 2, 3), (1, 0, 2)])) 41 41 _
  refine am_aload_n rfl rfl dX7_init_36 ?_
  refine am_aload_n rfl rfl dX7_init_37 ?_
  refine cq_putA dX7_init_38 flX7_25 (Or.inr ⟨rfl, rfl, rfl⟩) (Or.inl ⟨_, rfl⟩) rfl (by decide) ?_
  show am_R E mX7_init 41 [some (.ref 36), some (.ref 23)] [] (cq (u2 (u2 (u2 zI 27 1 0) 30 1 2) 33 1 3) zJ ([(36, 0, 23), (36, 4, 40), (36, 3, 39), (36, 2, 38), (36, 1, 37), (0, 6, 26), (26, 2, 33), (33, 0, 23), (33, 7, 35), (33, 2, 34), (26, 1, 30), (30, 0, 23), (30, 7, 32), (30, 2, 31), (26, 0, 27), (27, 0, 23), (27, 7, 29), (27, 2, 28), (0, 5, 23), (23, 0, 4), (23, 2, 25), (23, 1, 24), (0, 4, 22), (0, 3, 13), (13, 1, 18), (18, 4, 21), (18, 2, 20), (18, 1, 19), (13, 0, 14), (14, 4, 17), (14, 2, 16), (14, 1, 15), (0, 2, 9), (9, 4, 12), (9, 2, 11), (9, 1, 10), (0, 1, 4), (4, 5, 8), (4, 4, 7), (4, 3, 6), (4, 2, 5), (0, 0, 1), (1, 2, 3), (1, 0, 2)])) 41 41 _
  refine am_vret dX7_init_41 rfl ?_
  show am_R E mX9_init 152 [some (.ref 0)] [.ref 36, .ref 0] (cq (u2 (u2 (u2 zI 27 1 0) 30 1 2) 33 1 3) zJ ([(36, 0, 23), (36, 4, 40), (36, 3, 39), (36, 2, 38), (36, 1, 37), (0, 6, 26), (26, 2, 33), (33, 0, 23), (33, 7, 35), (33, 2, 34), (26, 1, 30), (30, 0, 23), (30, 7, 32), (30, 2, 31), (26, 0, 27), (27, 0, 23), (27, 7, 29), (27, 2, 28), (0, 5, 23), (23, 0, 4), (23, 2, 25), (23, 1, 24), (0, 4, 22), (0, 3, 13), (13, 1, 18), (18, 4, 21), (18, 2, 20), (18, 1, 19), (13, 0, 14), (14, 4, 17), (14, 2, 16), (14, 1, 15), (0, 2, 9), (9, 4, 12), (9, 2, 11), (9, 1, 10), (0, 1, 4), (4, 5, 8), (4, 4, 7), (4, 3, 6), (4, 2, 5), (0, 0, 1), (1, 2, 3), (1, 0, 2)])) 41 48 Q
  refine cq_putA dX9_init_152 flX9_61 (Or.inr ⟨rfl, rfl, rfl⟩) (Or.inl ⟨_, rfl⟩) rfl (by decide) ?_
  show am_R E mX9_init 155 [some (.ref 0)] [] (cq (u2 (u2 (u2 zI 27 1 0) 30 1 2) 33 1 3) zJ ([(0, 7, 36), (36, 0, 23), (36, 4, 40), (36, 3, 39), (36, 2, 38), (36, 1, 37), (0, 6, 26), (26, 2, 33), (33, 0, 23), (33, 7, 35), (33, 2, 34), (26, 1, 30), (30, 0, 23), (30, 7, 32), (30, 2, 31), (26, 0, 27), (27, 0, 23), (27, 7, 29), (27, 2, 28), (0, 5, 23), (23, 0, 4), (23, 2, 25), (23, 1, 24), (0, 4, 22), (0, 3, 13), (13, 1, 18), (18, 4, 21), (18, 2, 20), (18, 1, 19), (13, 0, 14), (14, 4, 17), (14, 2, 16), (14, 1, 15), (0, 2, 9), (9, 4, 12), (9, 2, 11), (9, 1, 10), (0, 1, 4), (4, 5, 8), (4, 4, 7), (4, 3, 6), (4, 2, 5), (0, 0, 1), (1, 2, 3), (1, 0, 2)])) 41 48 Q
  refine am_aload_n rfl rfl dX9_init_155 ?_
  refine cq_new (n' := 42) dX9_init_156 (by decide) rfl klX9_65 (by decide) (by decide) rfl (fun _ => rfl) (fun _ => rfl) (by decide) ?_
  show am_R E mX9_init 159 [some (.ref 0)] [.ref 41, .ref 0] (cq (u2 (u2 (u2 zI 27 1 0) 30 1 2) 33 1 3) zJ ([(0, 7, 36), (36, 0, 23), (36, 4, 40), (36, 3, 39), (36, 2, 38), (36, 1, 37), (0, 6, 26), (26, 2, 33), (33, 0, 23), (33, 7, 35), (33, 2, 34), (26, 1, 30), (30, 0, 23), (30, 7, 32), (30, 2, 31), (26, 0, 27), (27, 0, 23), (27, 7, 29), (27, 2, 28), (0, 5, 23), (23, 0, 4), (23, 2, 25), (23, 1, 24), (0, 4, 22), (0, 3, 13), (13, 1, 18), (18, 4, 21), (18, 2, 20), (18, 1, 19), (13, 0, 14), (14, 4, 17), (14, 2, 16), (14, 1, 15), (0, 2, 9), (9, 4, 12), (9, 2, 11), (9, 1, 10), (0, 1, 4), (4, 5, 8), (4, 4, 7), (4, 3, 6), (4, 2, 5), (0, 0, 1), (1, 2, 3), (1, 0, 2)])) 42 48 Q
  refine am_dup rfl dX9_init_159 ?_
  refine am_aload_n rfl rfl dX9_init_160 ?_
  refine am_getA (r := 4) dX9_init_161 flX9_19 (Or.inl ⟨_, rfl⟩) rfl (by decide) rfl ?_
  refine am_invI (n2 := 47) (As := [.ref 4]) (lsZ := [some (.ref 41), some (.ref 4)]) (st := [.ref 41, .ref 0]) dX9_init_164 hX4_init lkX9_67 ⟨by decide, by decide⟩ rfl rfl (Nat.le_of_ble_eq_true rfl) rfl (Nat.le_of_ble_eq_true rfl) ⟨by decide, by decide⟩ ?_
  refine am_aload_n rfl rfl dX4_init_0 ?_
  refine am_obj dX4_init_1 lkX4_3 kn_obj.1 kn_obj.2 (Nat.le_of_ble_eq_true rfl) ⟨by decide, by decide⟩ ?_
  refine am_aload_n rfl rfl dX4_init_4 ?_
  refine am_bipush 7 rfl dX4_init_5 ?_
  refine cq_newa (n' := 43) dX4_init_7 rfl (Or.inl rfl) rfl kn_arr.1 (by decide) (by decide) (by decide) (by decide) (by decide) rfl (fun _ => rfl) (fun _ => rfl) (by decide) ?_
  show am_R E mX4_init 9 [some (.ref 41), some (.ref 4)] [.ref 42, .ref 41] (cq (u2 (u2 (u2 zI 27 1 0) 30 1 2) 33 1 3) zJ ([(0, 7, 36), (36, 0, 23), (36, 4, 40), (36, 3, 39), (36, 2, 38), (36, 1, 37), (0, 6, 26), (26, 2, 33), (33, 0, 23), (33, 7, 35), (33, 2, 34), (26, 1, 30), (30, 0, 23), (30, 7, 32), (30, 2, 31), (26, 0, 27), (27, 0, 23), (27, 7, 29), (27, 2, 28), (0, 5, 23), (23, 0, 4), (23, 2, 25), (23, 1, 24), (0, 4, 22), (0, 3, 13), (13, 1, 18), (18, 4, 21), (18, 2, 20), (18, 1, 19), (13, 0, 14), (14, 4, 17), (14, 2, 16), (14, 1, 15), (0, 2, 9), (9, 4, 12), (9, 2, 11), (9, 1, 10), (0, 1, 4), (4, 5, 8), (4, 4, 7), (4, 3, 6), (4, 2, 5), (0, 0, 1), (1, 2, 3), (1, 0, 2)])) 43 47 _
  refine cq_putA dX4_init_9 flX4_9 (Or.inr ⟨rfl, rfl, rfl⟩) (Or.inr ⟨_, rfl⟩) rfl (by decide) ?_
  show am_R E mX4_init 12 [some (.ref 41), some (.ref 4)] [] (cq (u2 (u2 (u2 zI 27 1 0) 30 1 2) 33 1 3) zJ ([(41, 1, 42), (0, 7, 36), (36, 0, 23), (36, 4, 40), (36, 3, 39), (36, 2, 38), (36, 1, 37), (0, 6, 26), (26, 2, 33), (33, 0, 23), (33, 7, 35), (33, 2, 34), (26, 1, 30), (30, 0, 23), (30, 7, 32), (30, 2, 31), (26, 0, 27), (27, 0, 23), (27, 7, 29), (27, 2, 28), (0, 5, 23), (23, 0, 4), (23, 2, 25), (23, 1, 24), (0, 4, 22), (0, 3, 13), (13, 1, 18), (18, 4, 21), (18, 2, 20), (18, 1, 19), (13, 0, 14), (14, 4, 17), (14, 2, 16), (14, 1, 15), (0, 2, 9), (9, 4, 12), (9, 2, 11), (9, 1, 10), (0, 1, 4), (4, 5, 8), (4, 4, 7), (4, 3, 6), (4, 2, 5), (0, 0, 1), (1, 2, 3), (1, 0, 2)])) 43 47 _
  refine am_aload_n rfl rfl dX4_init_12 ?_
  refine am_sipush 600 rfl dX4_init_13 ?_
  refine cq_newa (n' := 44) dX4_init_16 rfl (Or.inl rfl) rfl kn_arr.1 (by decide) (by decide) (by decide) (by decide) (by decide) rfl (fun _ => rfl) (fun _ => rfl) (by decide) ?_
  show am_R E mX4_init 18 [some (.ref 41), some (.ref 4)] [.ref 43, .ref 41] (cq (u2 (u2 (u2 zI 27 1 0) 30 1 2) 33 1 3) zJ ([(41, 1, 42), (0, 7, 36), (36, 0, 23), (36, 4, 40), (36, 3, 39), (36, 2, 38), (36, 1, 37), (0, 6, 26), (26, 2, 33), (33, 0, 23), (33, 7, 35), (33, 2, 34), (26, 1, 30), (30, 0, 23), (30, 7, 32), (30, 2, 31), (26, 0, 27), (27, 0, 23), (27, 7, 29), (27, 2, 28), (0, 5, 23), (23, 0, 4), (23, 2, 25), (23, 1, 24), (0, 4, 22), (0, 3, 13), (13, 1, 18), (18, 4, 21), (18, 2, 20), (18, 1, 19), (13, 0, 14), (14, 4, 17), (14, 2, 16), (14, 1, 15), (0, 2, 9), (9, 4, 12), (9, 2, 11), (9, 1, 10), (0, 1, 4), (4, 5, 8), (4, 4, 7), (4, 3, 6), (4, 2, 5), (0, 0, 1), (1, 2, 3), (1, 0, 2)])) 44 47 _
  refine cq_putA dX4_init_18 flX4_15 (Or.inr ⟨rfl, rfl, rfl⟩) (Or.inr ⟨_, rfl⟩) rfl (by decide) ?_
  show am_R E mX4_init 21 [some (.ref 41), some (.ref 4)] [] (cq (u2 (u2 (u2 zI 27 1 0) 30 1 2) 33 1 3) zJ ([(41, 2, 43), (41, 1, 42), (0, 7, 36), (36, 0, 23), (36, 4, 40), (36, 3, 39), (36, 2, 38), (36, 1, 37), (0, 6, 26), (26, 2, 33), (33, 0, 23), (33, 7, 35), (33, 2, 34), (26, 1, 30), (30, 0, 23), (30, 7, 32), (30, 2, 31), (26, 0, 27), (27, 0, 23), (27, 7, 29), (27, 2, 28), (0, 5, 23), (23, 0, 4), (23, 2, 25), (23, 1, 24), (0, 4, 22), (0, 3, 13), (13, 1, 18), (18, 4, 21), (18, 2, 20), (18, 1, 19), (13, 0, 14), (14, 4, 17), (14, 2, 16), (14, 1, 15), (0, 2, 9), (9, 4, 12), (9, 2, 11), (9, 1, 10), (0, 1, 4), (4, 5, 8), (4, 4, 7), (4, 3, 6), (4, 2, 5), (0, 0, 1), (1, 2, 3), (1, 0, 2)])) 44 47 _
  refine am_aload_n rfl rfl dX4_init_21 ?_
  refine am_bipush 120 rfl dX4_init_22 ?_
  refine cq_newa (n' := 45) dX4_init_24 rfl (Or.inl rfl) rfl kn_arr.1 (by decide) (by decide) (by decide) (by decide) (by decide) rfl (fun _ => rfl) (fun _ => rfl) (by decide) ?_
  show am_R E mX4_init 26 [some (.ref 41), some (.ref 4)] [.ref 44, .ref 41] (cq (u2 (u2 (u2 zI 27 1 0) 30 1 2) 33 1 3) zJ ([(41, 2, 43), (41, 1, 42), (0, 7, 36), (36, 0, 23), (36, 4, 40), (36, 3, 39), (36, 2, 38), (36, 1, 37), (0, 6, 26), (26, 2, 33), (33, 0, 23), (33, 7, 35), (33, 2, 34), (26, 1, 30), (30, 0, 23), (30, 7, 32), (30, 2, 31), (26, 0, 27), (27, 0, 23), (27, 7, 29), (27, 2, 28), (0, 5, 23), (23, 0, 4), (23, 2, 25), (23, 1, 24), (0, 4, 22), (0, 3, 13), (13, 1, 18), (18, 4, 21), (18, 2, 20), (18, 1, 19), (13, 0, 14), (14, 4, 17), (14, 2, 16), (14, 1, 15), (0, 2, 9), (9, 4, 12), (9, 2, 11), (9, 1, 10), (0, 1, 4), (4, 5, 8), (4, 4, 7), (4, 3, 6), (4, 2, 5), (0, 0, 1), (1, 2, 3), (1, 0, 2)])) 45 47 _
  refine cq_putA dX4_init_26 flX4_18 (Or.inr ⟨rfl, rfl, rfl⟩) (Or.inr ⟨_, rfl⟩) rfl (by decide) ?_
  show am_R E mX4_init 29 [some (.ref 41), some (.ref 4)] [] (cq (u2 (u2 (u2 zI 27 1 0) 30 1 2) 33 1 3) zJ ([(41, 3, 44), (41, 2, 43), (41, 1, 42), (0, 7, 36), (36, 0, 23), (36, 4, 40), (36, 3, 39), (36, 2, 38), (36, 1, 37), (0, 6, 26), (26, 2, 33), (33, 0, 23), (33, 7, 35), (33, 2, 34), (26, 1, 30), (30, 0, 23), (30, 7, 32), (30, 2, 31), (26, 0, 27), (27, 0, 23), (27, 7, 29), (27, 2, 28), (0, 5, 23), (23, 0, 4), (23, 2, 25), (23, 1, 24), (0, 4, 22), (0, 3, 13), (13, 1, 18), (18, 4, 21), (18, 2, 20), (18, 1, 19), (13, 0, 14), (14, 4, 17), (14, 2, 16), (14, 1, 15), (0, 2, 9), (9, 4, 12), (9, 2, 11), (9, 1, 10), (0, 1, 4), (4, 5, 8), (4, 4, 7), (4, 3, 6), (4, 2, 5), (0, 0, 1), (1, 2, 3), (1, 0, 2)])) 45 47 _
  refine am_aload_n rfl rfl dX4_init_29 ?_
  refine am_bipush 120 rfl dX4_init_30 ?_
  refine cq_newa (n' := 46) dX4_init_32 rfl (Or.inl rfl) rfl kn_arr.1 (by decide) (by decide) (by decide) (by decide) (by decide) rfl (fun _ => rfl) (fun _ => rfl) (by decide) ?_
  show am_R E mX4_init 34 [some (.ref 41), some (.ref 4)] [.ref 45, .ref 41] (cq (u2 (u2 (u2 zI 27 1 0) 30 1 2) 33 1 3) zJ ([(41, 3, 44), (41, 2, 43), (41, 1, 42), (0, 7, 36), (36, 0, 23), (36, 4, 40), (36, 3, 39), (36, 2, 38), (36, 1, 37), (0, 6, 26), (26, 2, 33), (33, 0, 23), (33, 7, 35), (33, 2, 34), (26, 1, 30), (30, 0, 23), (30, 7, 32), (30, 2, 31), (26, 0, 27), (27, 0, 23), (27, 7, 29), (27, 2, 28), (0, 5, 23), (23, 0, 4), (23, 2, 25), (23, 1, 24), (0, 4, 22), (0, 3, 13), (13, 1, 18), (18, 4, 21), (18, 2, 20), (18, 1, 19), (13, 0, 14), (14, 4, 17), (14, 2, 16), (14, 1, 15), (0, 2, 9), (9, 4, 12), (9, 2, 11), (9, 1, 10), (0, 1, 4), (4, 5, 8), (4, 4, 7), (4, 3, 6), (4, 2, 5), (0, 0, 1), (1, 2, 3), (1, 0, 2)])) 46 47 _
  refine cq_putA dX4_init_34 flX4_21 (Or.inl rfl) (Or.inr ⟨_, rfl⟩) rfl (by decide) ?_
  show am_R E mX4_init 37 [some (.ref 41), some (.ref 4)] [] (cq (u2 (u2 (u2 zI 27 1 0) 30 1 2) 33 1 3) zJ ([(41, 4, 45), (41, 3, 44), (41, 2, 43), (41, 1, 42), (0, 7, 36), (36, 0, 23), (36, 4, 40), (36, 3, 39), (36, 2, 38), (36, 1, 37), (0, 6, 26), (26, 2, 33), (33, 0, 23), (33, 7, 35), (33, 2, 34), (26, 1, 30), (30, 0, 23), (30, 7, 32), (30, 2, 31), (26, 0, 27), (27, 0, 23), (27, 7, 29), (27, 2, 28), (0, 5, 23), (23, 0, 4), (23, 2, 25), (23, 1, 24), (0, 4, 22), (0, 3, 13), (13, 1, 18), (18, 4, 21), (18, 2, 20), (18, 1, 19), (13, 0, 14), (14, 4, 17), (14, 2, 16), (14, 1, 15), (0, 2, 9), (9, 4, 12), (9, 2, 11), (9, 1, 10), (0, 1, 4), (4, 5, 8), (4, 4, 7), (4, 3, 6), (4, 2, 5), (0, 0, 1), (1, 2, 3), (1, 0, 2)])) 46 47 _
  refine am_aload_n rfl rfl dX4_init_37 ?_
  refine am_bipush 120 rfl dX4_init_38 ?_
  refine cq_newa (n' := 47) dX4_init_40 rfl (Or.inl rfl) rfl kn_arr.1 (by decide) (by decide) (by decide) (by decide) (by decide) rfl (fun _ => rfl) (fun _ => rfl) (by decide) ?_
  show am_R E mX4_init 42 [some (.ref 41), some (.ref 4)] [.ref 46, .ref 41] (cq (u2 (u2 (u2 zI 27 1 0) 30 1 2) 33 1 3) zJ ([(41, 4, 45), (41, 3, 44), (41, 2, 43), (41, 1, 42), (0, 7, 36), (36, 0, 23), (36, 4, 40), (36, 3, 39), (36, 2, 38), (36, 1, 37), (0, 6, 26), (26, 2, 33), (33, 0, 23), (33, 7, 35), (33, 2, 34), (26, 1, 30), (30, 0, 23), (30, 7, 32), (30, 2, 31), (26, 0, 27), (27, 0, 23), (27, 7, 29), (27, 2, 28), (0, 5, 23), (23, 0, 4), (23, 2, 25), (23, 1, 24), (0, 4, 22), (0, 3, 13), (13, 1, 18), (18, 4, 21), (18, 2, 20), (18, 1, 19), (13, 0, 14), (14, 4, 17), (14, 2, 16), (14, 1, 15), (0, 2, 9), (9, 4, 12), (9, 2, 11), (9, 1, 10), (0, 1, 4), (4, 5, 8), (4, 4, 7), (4, 3, 6), (4, 2, 5), (0, 0, 1), (1, 2, 3), (1, 0, 2)])) 47 47 _
  refine cq_putA dX4_init_42 flX4_24 (Or.inl rfl) (Or.inr ⟨_, rfl⟩) rfl (by decide) ?_
  show am_R E mX4_init 45 [some (.ref 41), some (.ref 4)] [] (cq (u2 (u2 (u2 zI 27 1 0) 30 1 2) 33 1 3) zJ ([(41, 5, 46), (41, 4, 45), (41, 3, 44), (41, 2, 43), (41, 1, 42), (0, 7, 36), (36, 0, 23), (36, 4, 40), (36, 3, 39), (36, 2, 38), (36, 1, 37), (0, 6, 26), (26, 2, 33), (33, 0, 23), (33, 7, 35), (33, 2, 34), (26, 1, 30), (30, 0, 23), (30, 7, 32), (30, 2, 31), (26, 0, 27), (27, 0, 23), (27, 7, 29), (27, 2, 28), (0, 5, 23), (23, 0, 4), (23, 2, 25), (23, 1, 24), (0, 4, 22), (0, 3, 13), (13, 1, 18), (18, 4, 21), (18, 2, 20), (18, 1, 19), (13, 0, 14), (14, 4, 17), (14, 2, 16), (14, 1, 15), (0, 2, 9), (9, 4, 12), (9, 2, 11), (9, 1, 10), (0, 1, 4), (4, 5, 8), (4, 4, 7), (4, 3, 6), (4, 2, 5), (0, 0, 1), (1, 2, 3), (1, 0, 2)])) 47 47 _
  refine am_aload_n rfl rfl dX4_init_45 ?_
  refine am_aload_n rfl rfl dX4_init_46 ?_
  refine cq_putA dX4_init_47 flX4_27 (Or.inr ⟨rfl, rfl, rfl⟩) (Or.inl ⟨_, rfl⟩) rfl (by decide) ?_
  show am_R E mX4_init 50 [some (.ref 41), some (.ref 4)] [] (cq (u2 (u2 (u2 zI 27 1 0) 30 1 2) 33 1 3) zJ ([(41, 0, 4), (41, 5, 46), (41, 4, 45), (41, 3, 44), (41, 2, 43), (41, 1, 42), (0, 7, 36), (36, 0, 23), (36, 4, 40), (36, 3, 39), (36, 2, 38), (36, 1, 37), (0, 6, 26), (26, 2, 33), (33, 0, 23), (33, 7, 35), (33, 2, 34), (26, 1, 30), (30, 0, 23), (30, 7, 32), (30, 2, 31), (26, 0, 27), (27, 0, 23), (27, 7, 29), (27, 2, 28), (0, 5, 23), (23, 0, 4), (23, 2, 25), (23, 1, 24), (0, 4, 22), (0, 3, 13), (13, 1, 18), (18, 4, 21), (18, 2, 20), (18, 1, 19), (13, 0, 14), (14, 4, 17), (14, 2, 16), (14, 1, 15), (0, 2, 9), (9, 4, 12), (9, 2, 11), (9, 1, 10), (0, 1, 4), (4, 5, 8), (4, 4, 7), (4, 3, 6), (4, 2, 5), (0, 0, 1), (1, 2, 3), (1, 0, 2)])) 47 47 _
  refine am_vret dX4_init_50 rfl ?_
  show am_R E mX9_init 167 [some (.ref 0)] [.ref 41, .ref 0] (cq (u2 (u2 (u2 zI 27 1 0) 30 1 2) 33 1 3) zJ ([(41, 0, 4), (41, 5, 46), (41, 4, 45), (41, 3, 44), (41, 2, 43), (41, 1, 42), (0, 7, 36), (36, 0, 23), (36, 4, 40), (36, 3, 39), (36, 2, 38), (36, 1, 37), (0, 6, 26), (26, 2, 33), (33, 0, 23), (33, 7, 35), (33, 2, 34), (26, 1, 30), (30, 0, 23), (30, 7, 32), (30, 2, 31), (26, 0, 27), (27, 0, 23), (27, 7, 29), (27, 2, 28), (0, 5, 23), (23, 0, 4), (23, 2, 25), (23, 1, 24), (0, 4, 22), (0, 3, 13), (13, 1, 18), (18, 4, 21), (18, 2, 20), (18, 1, 19), (13, 0, 14), (14, 4, 17), (14, 2, 16), (14, 1, 15), (0, 2, 9), (9, 4, 12), (9, 2, 11), (9, 1, 10), (0, 1, 4), (4, 5, 8), (4, 4, 7), (4, 3, 6), (4, 2, 5), (0, 0, 1), (1, 2, 3), (1, 0, 2)])) 47 48 Q
  refine cq_putA dX9_init_167 flX9_68 (Or.inr ⟨rfl, rfl, rfl⟩) (Or.inl ⟨_, rfl⟩) rfl (by decide) ?_
  show am_R E mX9_init 170 [some (.ref 0)] [] (cq (u2 (u2 (u2 zI 27 1 0) 30 1 2) 33 1 3) zJ ([(0, 8, 41), (41, 0, 4), (41, 5, 46), (41, 4, 45), (41, 3, 44), (41, 2, 43), (41, 1, 42), (0, 7, 36), (36, 0, 23), (36, 4, 40), (36, 3, 39), (36, 2, 38), (36, 1, 37), (0, 6, 26), (26, 2, 33), (33, 0, 23), (33, 7, 35), (33, 2, 34), (26, 1, 30), (30, 0, 23), (30, 7, 32), (30, 2, 31), (26, 0, 27), (27, 0, 23), (27, 7, 29), (27, 2, 28), (0, 5, 23), (23, 0, 4), (23, 2, 25), (23, 1, 24), (0, 4, 22), (0, 3, 13), (13, 1, 18), (18, 4, 21), (18, 2, 20), (18, 1, 19), (13, 0, 14), (14, 4, 17), (14, 2, 16), (14, 1, 15), (0, 2, 9), (9, 4, 12), (9, 2, 11), (9, 1, 10), (0, 1, 4), (4, 5, 8), (4, 4, 7), (4, 3, 6), (4, 2, 5), (0, 0, 1), (1, 2, 3), (1, 0, 2)])) 47 48 Q
  refine am_aload_n rfl rfl dX9_init_170 ?_
  refine am_bipush 7 rfl dX9_init_171 ?_
  refine cq_newa (n' := 48) dX9_init_173 rfl (Or.inl rfl) rfl kn_arr.1 (by decide) (by decide) (by decide) (by decide) (by decide) rfl (fun _ => rfl) (fun _ => rfl) (by decide) ?_
  show am_R E mX9_init 175 [some (.ref 0)] [.ref 47, .ref 0] (cq (u2 (u2 (u2 zI 27 1 0) 30 1 2) 33 1 3) zJ ([(0, 8, 41), (41, 0, 4), (41, 5, 46), (41, 4, 45), (41, 3, 44), (41, 2, 43), (41, 1, 42), (0, 7, 36), (36, 0, 23), (36, 4, 40), (36, 3, 39), (36, 2, 38), (36, 1, 37), (0, 6, 26), (26, 2, 33), (33, 0, 23), (33, 7, 35), (33, 2, 34), (26, 1, 30), (30, 0, 23), (30, 7, 32), (30, 2, 31), (26, 0, 27), (27, 0, 23), (27, 7, 29), (27, 2, 28), (0, 5, 23), (23, 0, 4), (23, 2, 25), (23, 1, 24), (0, 4, 22), (0, 3, 13), (13, 1, 18), (18, 4, 21), (18, 2, 20), (18, 1, 19), (13, 0, 14), (14, 4, 17), (14, 2, 16), (14, 1, 15), (0, 2, 9), (9, 4, 12), (9, 2, 11), (9, 1, 10), (0, 1, 4), (4, 5, 8), (4, 4, 7), (4, 3, 6), (4, 2, 5), (0, 0, 1), (1, 2, 3), (1, 0, 2)])) 48 48 Q
  refine cq_putA dX9_init_175 flX9_72 (Or.inr ⟨rfl, rfl, rfl⟩) (Or.inr ⟨_, rfl⟩) rfl (by decide) ?_
  show am_R E mX9_init 178 [some (.ref 0)] [] (cq (u2 (u2 (u2 zI 27 1 0) 30 1 2) 33 1 3) zJ ([(0, 9, 47), (0, 8, 41), (41, 0, 4), (41, 5, 46), (41, 4, 45), (41, 3, 44), (41, 2, 43), (41, 1, 42), (0, 7, 36), (36, 0, 23), (36, 4, 40), (36, 3, 39), (36, 2, 38), (36, 1, 37), (0, 6, 26), (26, 2, 33), (33, 0, 23), (33, 7, 35), (33, 2, 34), (26, 1, 30), (30, 0, 23), (30, 7, 32), (30, 2, 31), (26, 0, 27), (27, 0, 23), (27, 7, 29), (27, 2, 28), (0, 5, 23), (23, 0, 4), (23, 2, 25), (23, 1, 24), (0, 4, 22), (0, 3, 13), (13, 1, 18), (18, 4, 21), (18, 2, 20), (18, 1, 19), (13, 0, 14), (14, 4, 17), (14, 2, 16), (14, 1, 15), (0, 2, 9), (9, 4, 12), (9, 2, 11), (9, 1, 10), (0, 1, 4), (4, 5, 8), (4, 4, 7), (4, 3, 6), (4, 2, 5), (0, 0, 1), (1, 2, 3), (1, 0, 2)])) 48 48 Q
  exact wp
abbrev wM : List (Nat × Nat × Nat) := (48, 25, 63) :: (48, 24, 62) :: (48, 23, 61) :: (48, 22, 60) :: (48, 21, 59) :: (48, 20, 58) :: (48, 19, 57) :: (48, 18, 56) :: (48, 17, 55) :: (48, 16, 54) :: (48, 7, 53) :: (48, 5, 52) :: (48, 4, 51) :: (48, 3, 50) :: (48, 2, 49) :: wC
set_option maxRecDepth 20000 in
theorem wX10_init {E : Nat × (Nat → Int32)} {I : Nat → Nat → Int32} {J : Nat → Nat → Int64} {Q : Option Value → am_H → Prop} (hI : ∀ a, 48 ≤ a → ∀ i, I a i = 0) (hJ : ∀ a, 48 ≤ a → ∀ i, J a i = 0) (wp : am_R E mX10_init 138 [some (.ref 48)] [] (cq (u2 (u2 I 48 0 4) 48 1 3) J wM) 64 64 Q) : am_R E mX10_init 0 [some (.ref 48)] [] (cq I J wC) 49 64 Q := by
  refine am_aload_n rfl rfl dX10_init_0 ?_
  refine am_obj dX10_init_1 lkX10_1 kn_obj.1 kn_obj.2 (Nat.le_of_ble_eq_true rfl) ⟨by decide, by decide⟩ ?_
  refine am_aload_n rfl rfl dX10_init_4 ?_
  refine am_iconst 4 rfl dX10_init_5 ?_
  refine cq_putI dX10_init_6 flX10_7 (Or.inl rfl) rfl rfl (by decide) ?_
  show am_R E mX10_init 9 [some (.ref 48)] [] (cq (u2 I 48 0 4) J (wC)) 49 64 Q
  refine am_aload_n rfl rfl dX10_init_9 ?_
  refine am_iconst 3 rfl dX10_init_10 ?_
  refine cq_putI dX10_init_11 flX10_13 (Or.inl rfl) rfl rfl (by decide) ?_
  show am_R E mX10_init 14 [some (.ref 48)] [] (cq (u2 (u2 I 48 0 4) 48 1 3) J (wC)) 49 64 Q
  refine am_aload_n rfl rfl dX10_init_14 ?_
  refine am_bipush 49 rfl dX10_init_15 ?_
  refine cq_newa (n' := 50) dX10_init_17 rfl (Or.inl rfl) rfl kn_arr.1 (by decide) (by decide) (by decide) (by decide) (by decide) rfl (fun i => hI 49 (by decide) i) (fun i => hJ 49 (by decide) i) (by decide) ?_
  show am_R E mX10_init 19 [some (.ref 48)] [.ref 49, .ref 48] (cq (u2 (u2 I 48 0 4) 48 1 3) J (wC)) 50 64 Q
  refine cq_putA dX10_init_19 flX10_16 (Or.inr ⟨rfl, rfl, rfl⟩) (Or.inr ⟨_, rfl⟩) rfl (by decide) ?_
  show am_R E mX10_init 22 [some (.ref 48)] [] (cq (u2 (u2 I 48 0 4) 48 1 3) J ((48, 2, 49) :: wC)) 50 64 Q
  refine am_aload_n rfl rfl dX10_init_22 ?_
  refine am_bipush 49 rfl dX10_init_23 ?_
  refine cq_newa (n' := 51) dX10_init_25 rfl (Or.inl rfl) rfl kn_arr.1 (by decide) (by decide) (by decide) (by decide) (by decide) rfl (fun i => hI 50 (by decide) i) (fun i => hJ 50 (by decide) i) (by decide) ?_
  show am_R E mX10_init 27 [some (.ref 48)] [.ref 50, .ref 48] (cq (u2 (u2 I 48 0 4) 48 1 3) J ((48, 2, 49) :: wC)) 51 64 Q
  refine cq_putA dX10_init_27 flX10_20 (Or.inr ⟨rfl, rfl, rfl⟩) (Or.inr ⟨_, rfl⟩) rfl (by decide) ?_
  show am_R E mX10_init 30 [some (.ref 48)] [] (cq (u2 (u2 I 48 0 4) 48 1 3) J ((48, 3, 50) :: (48, 2, 49) :: wC)) 51 64 Q
  refine am_aload_n rfl rfl dX10_init_30 ?_
  refine am_bipush 7 rfl dX10_init_31 ?_
  refine cq_newa (n' := 52) dX10_init_33 rfl (Or.inl rfl) rfl kn_arr.1 (by decide) (by decide) (by decide) (by decide) (by decide) rfl (fun i => hI 51 (by decide) i) (fun i => hJ 51 (by decide) i) (by decide) ?_
  show am_R E mX10_init 35 [some (.ref 48)] [.ref 51, .ref 48] (cq (u2 (u2 I 48 0 4) 48 1 3) J ((48, 3, 50) :: (48, 2, 49) :: wC)) 52 64 Q
  refine cq_putA dX10_init_35 flX10_23 (Or.inr ⟨rfl, rfl, rfl⟩) (Or.inr ⟨_, rfl⟩) rfl (by decide) ?_
  show am_R E mX10_init 38 [some (.ref 48)] [] (cq (u2 (u2 I 48 0 4) 48 1 3) J ((48, 4, 51) :: (48, 3, 50) :: (48, 2, 49) :: wC)) 52 64 Q
  refine am_aload_n rfl rfl dX10_init_38 ?_
  refine am_bipush 7 rfl dX10_init_39 ?_
  refine cq_newa (n' := 53) dX10_init_41 rfl (Or.inl rfl) rfl kn_arr.1 (by decide) (by decide) (by decide) (by decide) (by decide) rfl (fun i => hI 52 (by decide) i) (fun i => hJ 52 (by decide) i) (by decide) ?_
  show am_R E mX10_init 43 [some (.ref 48)] [.ref 52, .ref 48] (cq (u2 (u2 I 48 0 4) 48 1 3) J ((48, 4, 51) :: (48, 3, 50) :: (48, 2, 49) :: wC)) 53 64 Q
  refine cq_putA dX10_init_43 flX10_26 (Or.inr ⟨rfl, rfl, rfl⟩) (Or.inr ⟨_, rfl⟩) rfl (by decide) ?_
  show am_R E mX10_init 46 [some (.ref 48)] [] (cq (u2 (u2 I 48 0 4) 48 1 3) J ((48, 5, 52) :: (48, 4, 51) :: (48, 3, 50) :: (48, 2, 49) :: wC)) 53 64 Q
  refine am_aload_n rfl rfl dX10_init_46 ?_
  refine am_sipush 200 rfl dX10_init_47 ?_
  refine cq_newa (n' := 54) dX10_init_50 rfl (Or.inl rfl) rfl kn_arr.1 (by decide) (by decide) (by decide) (by decide) (by decide) rfl (fun i => hI 53 (by decide) i) (fun i => hJ 53 (by decide) i) (by decide) ?_
  show am_R E mX10_init 52 [some (.ref 48)] [.ref 53, .ref 48] (cq (u2 (u2 I 48 0 4) 48 1 3) J ((48, 5, 52) :: (48, 4, 51) :: (48, 3, 50) :: (48, 2, 49) :: wC)) 54 64 Q
  refine cq_putA dX10_init_52 flX10_29 (Or.inr ⟨rfl, rfl, rfl⟩) (Or.inr ⟨_, rfl⟩) rfl (by decide) ?_
  show am_R E mX10_init 55 [some (.ref 48)] [] (cq (u2 (u2 I 48 0 4) 48 1 3) J ((48, 7, 53) :: (48, 5, 52) :: (48, 4, 51) :: (48, 3, 50) :: (48, 2, 49) :: wC)) 54 64 Q
  refine am_aload_n rfl rfl dX10_init_55 ?_
  refine am_bipush 56 rfl dX10_init_56 ?_
  refine cq_newa (n' := 55) dX10_init_58 rfl (Or.inl rfl) rfl kn_arr.1 (by decide) (by decide) (by decide) (by decide) (by decide) rfl (fun i => hI 54 (by decide) i) (fun i => hJ 54 (by decide) i) (by decide) ?_
  show am_R E mX10_init 60 [some (.ref 48)] [.ref 54, .ref 48] (cq (u2 (u2 I 48 0 4) 48 1 3) J ((48, 7, 53) :: (48, 5, 52) :: (48, 4, 51) :: (48, 3, 50) :: (48, 2, 49) :: wC)) 55 64 Q
  refine cq_putA dX10_init_60 flX10_32 (Or.inr ⟨rfl, rfl, rfl⟩) (Or.inr ⟨_, rfl⟩) rfl (by decide) ?_
  show am_R E mX10_init 63 [some (.ref 48)] [] (cq (u2 (u2 I 48 0 4) 48 1 3) J ((48, 16, 54) :: (48, 7, 53) :: (48, 5, 52) :: (48, 4, 51) :: (48, 3, 50) :: (48, 2, 49) :: wC)) 55 64 Q
  refine am_aload_n rfl rfl dX10_init_63 ?_
  refine am_sipush 128 rfl dX10_init_64 ?_
  refine cq_newa (n' := 56) dX10_init_67 rfl (Or.inl rfl) rfl kn_arr.1 (by decide) (by decide) (by decide) (by decide) (by decide) rfl (fun i => hI 55 (by decide) i) (fun i => hJ 55 (by decide) i) (by decide) ?_
  show am_R E mX10_init 69 [some (.ref 48)] [.ref 55, .ref 48] (cq (u2 (u2 I 48 0 4) 48 1 3) J ((48, 16, 54) :: (48, 7, 53) :: (48, 5, 52) :: (48, 4, 51) :: (48, 3, 50) :: (48, 2, 49) :: wC)) 56 64 Q
  refine cq_putA dX10_init_69 flX10_35 (Or.inr ⟨rfl, rfl, rfl⟩) (Or.inr ⟨_, rfl⟩) rfl (by decide) ?_
  show am_R E mX10_init 72 [some (.ref 48)] [] (cq (u2 (u2 I 48 0 4) 48 1 3) J ((48, 17, 55) :: (48, 16, 54) :: (48, 7, 53) :: (48, 5, 52) :: (48, 4, 51) :: (48, 3, 50) :: (48, 2, 49) :: wC)) 56 64 Q
  refine am_aload_n rfl rfl dX10_init_72 ?_
  refine am_sipush 256 rfl dX10_init_73 ?_
  refine cq_newa (n' := 57) dX10_init_76 rfl (Or.inl rfl) rfl kn_arr.1 (by decide) (by decide) (by decide) (by decide) (by decide) rfl (fun i => hI 56 (by decide) i) (fun i => hJ 56 (by decide) i) (by decide) ?_
  show am_R E mX10_init 78 [some (.ref 48)] [.ref 56, .ref 48] (cq (u2 (u2 I 48 0 4) 48 1 3) J ((48, 17, 55) :: (48, 16, 54) :: (48, 7, 53) :: (48, 5, 52) :: (48, 4, 51) :: (48, 3, 50) :: (48, 2, 49) :: wC)) 57 64 Q
  refine cq_putA dX10_init_78 flX10_38 (Or.inr ⟨rfl, rfl, rfl⟩) (Or.inr ⟨_, rfl⟩) rfl (by decide) ?_
  show am_R E mX10_init 81 [some (.ref 48)] [] (cq (u2 (u2 I 48 0 4) 48 1 3) J ((48, 18, 56) :: (48, 17, 55) :: (48, 16, 54) :: (48, 7, 53) :: (48, 5, 52) :: (48, 4, 51) :: (48, 3, 50) :: (48, 2, 49) :: wC)) 57 64 Q
  refine am_aload_n rfl rfl dX10_init_81 ?_
  refine am_iconst 2 rfl dX10_init_82 ?_
  refine cq_newa (n' := 58) dX10_init_83 rfl (Or.inr (Or.inr rfl)) rfl kn_arr.2.2 (by decide) (by decide) (by decide) (by decide) (by decide) rfl (fun i => hI 57 (by decide) i) (fun i => hJ 57 (by decide) i) (by decide) ?_
  show am_R E mX10_init 85 [some (.ref 48)] [.ref 57, .ref 48] (cq (u2 (u2 I 48 0 4) 48 1 3) J ((48, 18, 56) :: (48, 17, 55) :: (48, 16, 54) :: (48, 7, 53) :: (48, 5, 52) :: (48, 4, 51) :: (48, 3, 50) :: (48, 2, 49) :: wC)) 58 64 Q
  refine cq_putA dX10_init_85 flX10_41 (Or.inr ⟨rfl, rfl, rfl⟩) (Or.inr ⟨_, rfl⟩) rfl (by decide) ?_
  show am_R E mX10_init 88 [some (.ref 48)] [] (cq (u2 (u2 I 48 0 4) 48 1 3) J ((48, 19, 57) :: (48, 18, 56) :: (48, 17, 55) :: (48, 16, 54) :: (48, 7, 53) :: (48, 5, 52) :: (48, 4, 51) :: (48, 3, 50) :: (48, 2, 49) :: wC)) 58 64 Q
  refine am_aload_n rfl rfl dX10_init_88 ?_
  refine am_bipush 7 rfl dX10_init_89 ?_
  refine cq_newa (n' := 59) dX10_init_91 rfl (Or.inl rfl) rfl kn_arr.1 (by decide) (by decide) (by decide) (by decide) (by decide) rfl (fun i => hI 58 (by decide) i) (fun i => hJ 58 (by decide) i) (by decide) ?_
  show am_R E mX10_init 93 [some (.ref 48)] [.ref 58, .ref 48] (cq (u2 (u2 I 48 0 4) 48 1 3) J ((48, 19, 57) :: (48, 18, 56) :: (48, 17, 55) :: (48, 16, 54) :: (48, 7, 53) :: (48, 5, 52) :: (48, 4, 51) :: (48, 3, 50) :: (48, 2, 49) :: wC)) 59 64 Q
  refine cq_putA dX10_init_93 flX10_45 (Or.inr ⟨rfl, rfl, rfl⟩) (Or.inr ⟨_, rfl⟩) rfl (by decide) ?_
  show am_R E mX10_init 96 [some (.ref 48)] [] (cq (u2 (u2 I 48 0 4) 48 1 3) J ((48, 20, 58) :: (48, 19, 57) :: (48, 18, 56) :: (48, 17, 55) :: (48, 16, 54) :: (48, 7, 53) :: (48, 5, 52) :: (48, 4, 51) :: (48, 3, 50) :: (48, 2, 49) :: wC)) 59 64 Q
  refine am_aload_n rfl rfl dX10_init_96 ?_
  refine am_bipush 7 rfl dX10_init_97 ?_
  refine cq_newa (n' := 60) dX10_init_99 rfl (Or.inl rfl) rfl kn_arr.1 (by decide) (by decide) (by decide) (by decide) (by decide) rfl (fun i => hI 59 (by decide) i) (fun i => hJ 59 (by decide) i) (by decide) ?_
  show am_R E mX10_init 101 [some (.ref 48)] [.ref 59, .ref 48] (cq (u2 (u2 I 48 0 4) 48 1 3) J ((48, 20, 58) :: (48, 19, 57) :: (48, 18, 56) :: (48, 17, 55) :: (48, 16, 54) :: (48, 7, 53) :: (48, 5, 52) :: (48, 4, 51) :: (48, 3, 50) :: (48, 2, 49) :: wC)) 60 64 Q
  refine cq_putA dX10_init_101 flX10_48 (Or.inr ⟨rfl, rfl, rfl⟩) (Or.inr ⟨_, rfl⟩) rfl (by decide) ?_
  show am_R E mX10_init 104 [some (.ref 48)] [] (cq (u2 (u2 I 48 0 4) 48 1 3) J ((48, 21, 59) :: (48, 20, 58) :: (48, 19, 57) :: (48, 18, 56) :: (48, 17, 55) :: (48, 16, 54) :: (48, 7, 53) :: (48, 5, 52) :: (48, 4, 51) :: (48, 3, 50) :: (48, 2, 49) :: wC)) 60 64 Q
  refine am_aload_n rfl rfl dX10_init_104 ?_
  refine am_sipush 5040 rfl dX10_init_105 ?_
  refine cq_newa (n' := 61) dX10_init_108 rfl (Or.inr (Or.inr rfl)) rfl kn_arr.2.2 (by decide) (by decide) (by decide) (by decide) (by decide) rfl (fun i => hI 60 (by decide) i) (fun i => hJ 60 (by decide) i) (by decide) ?_
  show am_R E mX10_init 110 [some (.ref 48)] [.ref 60, .ref 48] (cq (u2 (u2 I 48 0 4) 48 1 3) J ((48, 21, 59) :: (48, 20, 58) :: (48, 19, 57) :: (48, 18, 56) :: (48, 17, 55) :: (48, 16, 54) :: (48, 7, 53) :: (48, 5, 52) :: (48, 4, 51) :: (48, 3, 50) :: (48, 2, 49) :: wC)) 61 64 Q
  refine cq_putA dX10_init_110 flX10_51 (Or.inr ⟨rfl, rfl, rfl⟩) (Or.inr ⟨_, rfl⟩) rfl (by decide) ?_
  show am_R E mX10_init 113 [some (.ref 48)] [] (cq (u2 (u2 I 48 0 4) 48 1 3) J ((48, 22, 60) :: (48, 21, 59) :: (48, 20, 58) :: (48, 19, 57) :: (48, 18, 56) :: (48, 17, 55) :: (48, 16, 54) :: (48, 7, 53) :: (48, 5, 52) :: (48, 4, 51) :: (48, 3, 50) :: (48, 2, 49) :: wC)) 61 64 Q
  refine am_aload_n rfl rfl dX10_init_113 ?_
  refine am_sipush 5040 rfl dX10_init_114 ?_
  refine cq_newa (n' := 62) dX10_init_117 rfl (Or.inl rfl) rfl kn_arr.1 (by decide) (by decide) (by decide) (by decide) (by decide) rfl (fun i => hI 61 (by decide) i) (fun i => hJ 61 (by decide) i) (by decide) ?_
  show am_R E mX10_init 119 [some (.ref 48)] [.ref 61, .ref 48] (cq (u2 (u2 I 48 0 4) 48 1 3) J ((48, 22, 60) :: (48, 21, 59) :: (48, 20, 58) :: (48, 19, 57) :: (48, 18, 56) :: (48, 17, 55) :: (48, 16, 54) :: (48, 7, 53) :: (48, 5, 52) :: (48, 4, 51) :: (48, 3, 50) :: (48, 2, 49) :: wC)) 62 64 Q
  refine cq_putA dX10_init_119 flX10_54 (Or.inr ⟨rfl, rfl, rfl⟩) (Or.inr ⟨_, rfl⟩) rfl (by decide) ?_
  show am_R E mX10_init 122 [some (.ref 48)] [] (cq (u2 (u2 I 48 0 4) 48 1 3) J ((48, 23, 61) :: (48, 22, 60) :: (48, 21, 59) :: (48, 20, 58) :: (48, 19, 57) :: (48, 18, 56) :: (48, 17, 55) :: (48, 16, 54) :: (48, 7, 53) :: (48, 5, 52) :: (48, 4, 51) :: (48, 3, 50) :: (48, 2, 49) :: wC)) 62 64 Q
  refine am_aload_n rfl rfl dX10_init_122 ?_
  refine am_bipush 120 rfl dX10_init_123 ?_
  refine cq_newa (n' := 63) dX10_init_125 rfl (Or.inl rfl) rfl kn_arr.1 (by decide) (by decide) (by decide) (by decide) (by decide) rfl (fun i => hI 62 (by decide) i) (fun i => hJ 62 (by decide) i) (by decide) ?_
  show am_R E mX10_init 127 [some (.ref 48)] [.ref 62, .ref 48] (cq (u2 (u2 I 48 0 4) 48 1 3) J ((48, 23, 61) :: (48, 22, 60) :: (48, 21, 59) :: (48, 20, 58) :: (48, 19, 57) :: (48, 18, 56) :: (48, 17, 55) :: (48, 16, 54) :: (48, 7, 53) :: (48, 5, 52) :: (48, 4, 51) :: (48, 3, 50) :: (48, 2, 49) :: wC)) 63 64 Q
  refine cq_putA dX10_init_127 flX10_57 (Or.inr ⟨rfl, rfl, rfl⟩) (Or.inr ⟨_, rfl⟩) rfl (by decide) ?_
  show am_R E mX10_init 130 [some (.ref 48)] [] (cq (u2 (u2 I 48 0 4) 48 1 3) J ((48, 24, 62) :: (48, 23, 61) :: (48, 22, 60) :: (48, 21, 59) :: (48, 20, 58) :: (48, 19, 57) :: (48, 18, 56) :: (48, 17, 55) :: (48, 16, 54) :: (48, 7, 53) :: (48, 5, 52) :: (48, 4, 51) :: (48, 3, 50) :: (48, 2, 49) :: wC)) 63 64 Q
  refine am_aload_n rfl rfl dX10_init_130 ?_
  refine am_bipush 120 rfl dX10_init_131 ?_
  refine cq_newa (n' := 64) dX10_init_133 rfl (Or.inl rfl) rfl kn_arr.1 (by decide) (by decide) (by decide) (by decide) (by decide) rfl (fun i => hI 63 (by decide) i) (fun i => hJ 63 (by decide) i) (by decide) ?_
  show am_R E mX10_init 135 [some (.ref 48)] [.ref 63, .ref 48] (cq (u2 (u2 I 48 0 4) 48 1 3) J ((48, 24, 62) :: (48, 23, 61) :: (48, 22, 60) :: (48, 21, 59) :: (48, 20, 58) :: (48, 19, 57) :: (48, 18, 56) :: (48, 17, 55) :: (48, 16, 54) :: (48, 7, 53) :: (48, 5, 52) :: (48, 4, 51) :: (48, 3, 50) :: (48, 2, 49) :: wC)) 64 64 Q
  refine cq_putA dX10_init_135 flX10_60 (Or.inr ⟨rfl, rfl, rfl⟩) (Or.inr ⟨_, rfl⟩) rfl (by decide) ?_
  show am_R E mX10_init 138 [some (.ref 48)] [] (cq (u2 (u2 I 48 0 4) 48 1 3) J ((48, 25, 63) :: (48, 24, 62) :: (48, 23, 61) :: (48, 22, 60) :: (48, 21, 59) :: (48, 20, 58) :: (48, 19, 57) :: (48, 18, 56) :: (48, 17, 55) :: (48, 16, 54) :: (48, 7, 53) :: (48, 5, 52) :: (48, 4, 51) :: (48, 3, 50) :: (48, 2, 49) :: wC)) 64 64 Q
  exact wp
end P25
