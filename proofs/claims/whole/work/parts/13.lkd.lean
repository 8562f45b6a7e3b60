theorem lkd_1 {a1 o1 df k : Int} (h1 : k ≠ a1) : Op.lookupswitch.offset (#[(a1, o1)] : Array (Int × Int)).toList df k = df := by
  show (if a1 = k then o1 else df) = df
  rw [if_neg (Ne.symm h1)]
theorem lkd_2 {a1 o1 a2 o2 df k : Int} (h1 : k ≠ a1) (h2 : k ≠ a2) : Op.lookupswitch.offset (#[(a1, o1), (a2, o2)] : Array (Int × Int)).toList df k = df := by
  show (if a1 = k then o1 else if a2 = k then o2 else df) = df
  rw [if_neg (Ne.symm h1), if_neg (Ne.symm h2)]
theorem lkd_3 {a1 o1 a2 o2 a3 o3 df k : Int} (h1 : k ≠ a1) (h2 : k ≠ a2) (h3 : k ≠ a3) : Op.lookupswitch.offset (#[(a1, o1), (a2, o2), (a3, o3)] : Array (Int × Int)).toList df k = df := by
  show (if a1 = k then o1 else if a2 = k then o2 else if a3 = k then o3 else df) = df
  rw [if_neg (Ne.symm h1), if_neg (Ne.symm h2), if_neg (Ne.symm h3)]
