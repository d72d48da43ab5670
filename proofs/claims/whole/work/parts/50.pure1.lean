theorem lgc_gt {x y : Int64} : 0 < lg_cmp x y ↔ y < x := by
  unfold lg_cmp
  by_cases h : x > y
  · rw [if_pos h]
    exact ⟨fun _ => h, fun _ => by decide⟩
  · rw [if_neg h]
    by_cases h2 : x = y
    · rw [if_pos h2]
      exact ⟨fun q => absurd q (by decide), fun q => absurd q h⟩
    · rw [if_neg h2]
      exact ⟨fun q => absurd q (by decide), fun q => absurd q h⟩
theorem lgc_eq {x y : Int64} : lg_cmp x y = 0 ↔ x = y := by
  unfold lg_cmp
  by_cases h : x > y
  · rw [if_pos h]
    exact ⟨fun q => absurd q (by decide), fun q => absurd h (by rw [q]; exact Int64.lt_irrefl)⟩
  · rw [if_neg h]
    by_cases h2 : x = y
    · rw [if_pos h2]
      exact ⟨fun _ => h2, fun _ => rfl⟩
    · rw [if_neg h2]
      exact ⟨fun q => absurd q (by decide), fun q => absurd q h2⟩
theorem lgc_le {x y : Int64} : lg_cmp x y ≤ 0 ↔ x ≤ y := by
  have h1 := @lgc_gt x y
  constructor
  · intro h
    rw [Int64.le_iff_toInt_le]
    have h2 : ¬ y < x := fun q => by
      have := h1.mpr q
      rw [Int32.lt_iff_toInt_lt] at this
      rw [Int32.le_iff_toInt_le] at h
      omega
    rw [Int64.lt_iff_toInt_lt] at h2
    omega
  · intro h
    rw [Int32.le_iff_toInt_le]
    have h2 : ¬ 0 < lg_cmp x y := fun q => by
      have := h1.mp q
      rw [Int64.lt_iff_toInt_lt] at this
      rw [Int64.le_iff_toInt_le] at h
      omega
    rw [Int32.lt_iff_toInt_lt] at h2
    omega
theorem lgc_ge {x y : Int64} : 0 ≤ lg_cmp x y ↔ y ≤ x := by
  unfold lg_cmp
  by_cases h : x > y
  · rw [if_pos h]
    exact ⟨fun _ => by rw [Int64.le_iff_toInt_le]; rw [gt_iff_lt, Int64.lt_iff_toInt_lt] at h; omega, fun _ => by decide⟩
  · rw [if_neg h]
    by_cases h2 : x = y
    · rw [if_pos h2]
      exact ⟨fun _ => by rw [h2]; exact Int64.le_refl _, fun _ => by decide⟩
    · rw [if_neg h2]
      refine ⟨fun q => absurd q (by decide), fun q => ?_⟩
      exfalso
      apply h2
      apply Int64.toInt_inj.mp
      rw [Int64.le_iff_toInt_le] at q
      rw [gt_iff_lt, Int64.lt_iff_toInt_lt] at h
      omega
theorem lgc_lt {x y : Int64} : lg_cmp x y < 0 ↔ x < y := by
  have h := @lgc_ge x y
  rw [Int32.le_iff_toInt_le, Int64.le_iff_toInt_le] at h
  rw [Int32.lt_iff_toInt_lt, Int64.lt_iff_toInt_lt]
  have h0 : (0 : Int32).toInt = 0 := by decide
  omega
theorem l0 : (0 : Int64).toInt = 0 := by decide
theorem l1 : (1 : Int64).toInt = 1 := by decide
theorem xor_sign {x y : Int64} (hy : 0 ≤ y.toInt) : 0 ≤ (x ^^^ y).toInt ↔ 0 ≤ x.toInt := by
  have e1 : (x ^^^ y).toInt = (x.toBitVec ^^^ y.toBitVec).toInt := rfl
  have e2 : x.toInt = x.toBitVec.toInt := rfl
  have e3 : y.toInt = y.toBitVec.toInt := rfl
  have m1 := BitVec.msb_eq_toInt (x := x.toBitVec ^^^ y.toBitVec)
  have m2 := BitVec.msb_eq_toInt (x := x.toBitVec)
  have m3 := BitVec.msb_eq_toInt (x := y.toBitVec)
  rw [BitVec.msb_xor, m2, m3, ← e1, ← e2, ← e3, decide_eq_false (show ¬ y.toInt < 0 by omega), Bool.xor_false] at m1
  have m4 := decide_eq_decide.mp m1
  omega
theorem xor_sign32 {x y : Int32} (hy : 0 ≤ y.toInt) : 0 ≤ (x ^^^ y).toInt ↔ 0 ≤ x.toInt := by
  have e1 : (x ^^^ y).toInt = (x.toBitVec ^^^ y.toBitVec).toInt := rfl
  have e2 : x.toInt = x.toBitVec.toInt := rfl
  have e3 : y.toInt = y.toBitVec.toInt := rfl
  have m1 := BitVec.msb_eq_toInt (x := x.toBitVec ^^^ y.toBitVec)
  have m2 := BitVec.msb_eq_toInt (x := x.toBitVec)
  have m3 := BitVec.msb_eq_toInt (x := y.toBitVec)
  rw [BitVec.msb_xor, m2, m3, ← e1, ← e2, ← e3, decide_eq_false (show ¬ y.toInt < 0 by omega), Bool.xor_false] at m1
  have m4 := decide_eq_decide.mp m1
  omega
theorem tdiv_b {a y : Int} (hy : 1 ≤ y) : (0 ≤ a → 0 ≤ a.tdiv y ∧ a.tdiv y ≤ a ∧ 0 ≤ a.tdiv y * y ∧ a.tdiv y * y ≤ a) ∧ (a < 0 → a.tdiv y ≤ 0 ∧ a ≤ a.tdiv y ∧ a ≤ a.tdiv y * y ∧ a.tdiv y * y ≤ 0) := by
  have pos : ∀ b : Int, 0 ≤ b → 0 ≤ b.tdiv y ∧ b.tdiv y ≤ b ∧ 0 ≤ b.tdiv y * y ∧ b.tdiv y * y ≤ b := by
    intro b hb
    have h1 : b.tdiv y = b / y := Int.tdiv_eq_ediv_of_nonneg hb
    have h2 : 0 ≤ b / y := Int.ediv_nonneg hb (by omega)
    have h3 : b / y * y ≤ b := Int.ediv_mul_le b (by omega)
    have h4 : 0 ≤ b / y * y := Int.mul_nonneg h2 (by omega)
    have h5 : b / y ≤ b / y * y := by
      have := Int.mul_le_mul_of_nonneg_left hy h2
      rwa [Int.mul_one] at this
    rw [h1]
    exact ⟨h2, by omega, h4, h3⟩
  refine ⟨pos a, fun ha => ?_⟩
  have h := pos (-a) (by omega)
  rw [Int.neg_tdiv] at h
  rw [Int.neg_mul] at h
  omega
theorem div_toInt {a y : Int64} (hy : 1 ≤ y.toInt) : (a / y).toInt = a.toInt.tdiv y.toInt := by
  rw [Int64.toInt_div]
  have h1 := Int64.le_toInt a
  have h2 := Int64.toInt_lt a
  have h3 := @tdiv_b a.toInt y.toInt hy
  apply Int.bmod_eq_of_le <;> omega
theorem divmul_toInt {a y : Int64} (hy : 1 ≤ y.toInt) : (a / y * y).toInt = a.toInt.tdiv y.toInt * y.toInt := by
  rw [Int64.toInt_mul, div_toInt hy]
  have h1 := Int64.le_toInt a
  have h2 := Int64.toInt_lt a
  have h3 := @tdiv_b a.toInt y.toInt hy
  apply Int.bmod_eq_of_le <;> omega
theorem floor_eq {a : Int64} {b : Int32} (hb : 1 ≤ b.toInt) : rJ_floorDiv a b.toInt64 = rM_floor a b := by
  have hy : 1 ≤ b.toInt64.toInt := by rw [Int32.toInt_toInt64]; exact hb
  have h3 := @tdiv_b a.toInt b.toInt64.toInt hy
  have hx := @xor_sign a b.toInt64 (by omega)
  have hm := @divmul_toInt a b.toInt64 hy
  unfold rJ_floorDiv rM_floor
  by_cases h : 0 ≤ a.toInt
  · rw [if_pos (lgc_ge.mpr (by rw [Int64.le_iff_toInt_le, l0]; exact hx.mpr h)), if_pos (lgc_le.mpr (by rw [Int64.le_iff_toInt_le, hm]; omega))]
  · rw [if_neg (fun q => h (hx.mp (by have := lgc_ge.mp q; rw [Int64.le_iff_toInt_le, l0] at this; exact this)))]
    by_cases h2 : a / b.toInt64 * b.toInt64 = a
    · rw [if_pos (lgc_eq.mpr h2), if_pos (lgc_le.mpr (by rw [h2]; exact Int64.le_refl _))]
    · rw [if_neg (fun q => h2 (lgc_eq.mp q)), if_neg (fun q => h2 (by
        have := lgc_le.mp q
        rw [Int64.le_iff_toInt_le, hm] at this
        apply Int64.toInt_inj.mp
        rw [hm]
        omega))]
theorem pers_eq {p : Int32} (h0 : 0 ≤ p.toInt) (h1 : p.toInt ≤ 100) : (p * 100).toInt64 = 100 * p.toInt64 := by
  apply Int64.toInt_inj.mp
  rw [Int32.toInt_toInt64, Int32.toInt_mul, Int64.toInt_mul, Int32.toInt_toInt64, show (100 : Int32).toInt = 100 from by decide, show (100 : Int64).toInt = 100 from by decide]
  rw [Int.bmod_eq_of_le (by omega) (by omega), Int.bmod_eq_of_le (by omega) (by omega), Int.mul_comm]
theorem fmod_val (x : Int32) : (rJ_floorMod x 96).toInt = x.toInt % 96 := by
  have h96 : (96 : Int32).toInt = 96 := by decide
  have hx := @xor_sign32 x 96 (by rw [h96]; omega)
  have a1 := Int32.le_toInt x
  have a2 := Int32.toInt_lt x
  have h3 := @tdiv_b x.toInt 96 (by omega)
  have e3 := Int.mul_tdiv_add_tmod x.toInt 96
  have hr : (x - x / 96 * 96).toInt = x.toInt.tmod 96 := by
    rw [Int32.toInt_sub, Int32.toInt_mul, Int32.toInt_div, h96]
    have e1 : (x.toInt.tdiv 96).bmod (2 ^ 32) = x.toInt.tdiv 96 := by apply Int.bmod_eq_of_le <;> omega
    rw [e1]
    have e2 : (x.toInt.tdiv 96 * 96).bmod (2 ^ 32) = x.toInt.tdiv 96 * 96 := by apply Int.bmod_eq_of_le <;> omega
    rw [e2]
    have e4 : x.toInt - x.toInt.tdiv 96 * 96 = x.toInt.tmod 96 := by omega
    rw [e4]
    rw [← e4]
    apply Int.bmod_eq_of_le <;> omega
  have hlt : x.toInt.tmod 96 < 96 ∧ -96 < x.toInt.tmod 96 ∧ (0 ≤ x.toInt → 0 ≤ x.toInt.tmod 96) ∧ (x.toInt < 0 → x.toInt.tmod 96 ≤ 0) := by
    have e5 := Int.tmod_lt_of_pos x.toInt (show (0 : Int) < 96 by omega)
    have e6 := Int.tmod_lt_of_pos (-x.toInt) (show (0 : Int) < 96 by omega)
    rw [Int.neg_tmod] at e6
    omega
  unfold rJ_floorMod
  have z0 : (0 : Int32).toInt = 0 := by decide
  by_cases h : 0 ≤ x.toInt
  · rw [if_pos (by rw [Int32.le_iff_toInt_le, z0]; exact hx.mpr h), hr]
    omega
  · rw [if_neg (fun q => h (hx.mp (by rw [Int32.le_iff_toInt_le, z0] at q; exact q)))]
    by_cases h2 : x - x / 96 * 96 = 0
    · rw [if_pos h2, hr]
      rw [h2, z0] at hr
      omega
    · rw [if_neg h2]
      have h5 : (x - x / 96 * 96).toInt ≠ 0 := fun q => h2 (Int32.toInt_inj.mp (q.trans z0.symm))
      rw [Int32.toInt_add, hr, h96, Int.bmod_eq_of_le (by omega) (by omega)]
      omega
theorem fmod_nI (x : Int32) : rJ_floorMod x 96 = nI (x.toInt % 96).toNat := by
  apply Int32.toInt_inj.mp
  rw [fmod_val, nI_toInt (by omega)]
  omega
