theorem i_lt (a b : Int32) : a < b ↔ a.toInt < b.toInt := Int32.lt_iff_toInt_lt
theorem i_le (a b : Int32) : a ≤ b ↔ a.toInt ≤ b.toInt := Int32.le_iff_toInt_le
theorem i_eq (a b : Int32) : a = b ↔ a.toInt = b.toInt := ⟨fun h => h ▸ rfl, fun h => Int32.toInt_inj.mp h⟩
theorem j_lt (a b : Int64) : a < b ↔ a.toInt < b.toInt := Int64.lt_iff_toInt_lt
theorem j_le (a b : Int64) : a ≤ b ↔ a.toInt ≤ b.toInt := Int64.le_iff_toInt_le
theorem j_eq (a b : Int64) : a = b ↔ a.toInt = b.toInt := ⟨fun h => h ▸ rfl, fun h => Int64.toInt_inj.mp h⟩
theorem li_0 : (0 : Int32).toInt = 0 := by decide
theorem lj_0 : (0 : Int64).toInt = 0 := by decide
theorem li_1 : (1 : Int32).toInt = 1 := by decide
theorem lj_1 : (1 : Int64).toInt = 1 := by decide
theorem li_2 : (2 : Int32).toInt = 2 := by decide
theorem lj_2 : (2 : Int64).toInt = 2 := by decide
theorem li_3 : (3 : Int32).toInt = 3 := by decide
theorem lj_3 : (3 : Int64).toInt = 3 := by decide
theorem li_4 : (4 : Int32).toInt = 4 := by decide
theorem lj_4 : (4 : Int64).toInt = 4 := by decide
theorem li_5 : (5 : Int32).toInt = 5 := by decide
theorem lj_5 : (5 : Int64).toInt = 5 := by decide
theorem li_6 : (6 : Int32).toInt = 6 := by decide
theorem lj_6 : (6 : Int64).toInt = 6 := by decide
theorem li_7 : (7 : Int32).toInt = 7 := by decide
theorem lj_7 : (7 : Int64).toInt = 7 := by decide
theorem li_8 : (8 : Int32).toInt = 8 := by decide
theorem lj_8 : (8 : Int64).toInt = 8 := by decide
theorem li_10 : (10 : Int32).toInt = 10 := by decide
theorem lj_10 : (10 : Int64).toInt = 10 := by decide
theorem li_11 : (11 : Int32).toInt = 11 := by decide
theorem lj_11 : (11 : Int64).toInt = 11 := by decide
theorem li_12 : (12 : Int32).toInt = 12 := by decide
theorem lj_12 : (12 : Int64).toInt = 12 := by decide
theorem li_24 : (24 : Int32).toInt = 24 := by decide
theorem lj_24 : (24 : Int64).toInt = 24 := by decide
theorem li_25 : (25 : Int32).toInt = 25 := by decide
theorem lj_25 : (25 : Int64).toInt = 25 := by decide
theorem li_50 : (50 : Int32).toInt = 50 := by decide
theorem lj_50 : (50 : Int64).toInt = 50 := by decide
theorem li_130 : (130 : Int32).toInt = 130 := by decide
theorem lj_130 : (130 : Int64).toInt = 130 := by decide
theorem li_160 : (160 : Int32).toInt = 160 := by decide
theorem lj_160 : (160 : Int64).toInt = 160 := by decide
theorem li_800 : (800 : Int32).toInt = 800 := by decide
theorem lj_800 : (800 : Int64).toInt = 800 := by decide
theorem li_4000 : (4000 : Int32).toInt = 4000 := by decide
theorem lj_4000 : (4000 : Int64).toInt = 4000 := by decide
theorem li_10000 : (10000 : Int32).toInt = 10000 := by decide
theorem lj_10000 : (10000 : Int64).toInt = 10000 := by decide
theorem li_16384 : (16384 : Int32).toInt = 16384 := by decide
theorem lj_16384 : (16384 : Int64).toInt = 16384 := by decide
theorem li_26 : (26 : Int32).toInt = 26 := by decide
theorem lj_26 : (26 : Int64).toInt = 26 := by decide
theorem li_32 : (32 : Int32).toInt = 32 := by decide
theorem lj_32 : (32 : Int64).toInt = 32 := by decide
theorem li_48 : (48 : Int32).toInt = 48 := by decide
theorem lj_48 : (48 : Int64).toInt = 48 := by decide
theorem li_57 : (57 : Int32).toInt = 57 := by decide
theorem lj_57 : (57 : Int64).toInt = 57 := by decide
theorem li_59 : (59 : Int32).toInt = 59 := by decide
theorem lj_59 : (59 : Int64).toInt = 59 := by decide
theorem li_97 : (97 : Int32).toInt = 97 := by decide
theorem lj_97 : (97 : Int64).toInt = 97 := by decide
theorem li_99 : (99 : Int32).toInt = 99 := by decide
theorem lj_99 : (99 : Int64).toInt = 99 := by decide
theorem li_122 : (122 : Int32).toInt = 122 := by decide
theorem lj_122 : (122 : Int64).toInt = 122 := by decide
theorem li_m1 : (-1 : Int32).toInt = -1 := by decide
theorem lj_m1 : (-1 : Int64).toInt = -1 := by decide
theorem li_m2 : (-2 : Int32).toInt = -2 := by decide
theorem lj_m2 : (-2 : Int64).toInt = -2 := by decide
theorem li_m3 : (-3 : Int32).toInt = -3 := by decide
theorem lj_m3 : (-3 : Int64).toInt = -3 := by decide
theorem li_m4 : (-4 : Int32).toInt = -4 := by decide
theorem lj_m4 : (-4 : Int64).toInt = -4 := by decide
theorem li_m5 : (-5 : Int32).toInt = -5 := by decide
theorem lj_m5 : (-5 : Int64).toInt = -5 := by decide
theorem li_m6 : (-6 : Int32).toInt = -6 := by decide
theorem lj_m6 : (-6 : Int64).toInt = -6 := by decide
theorem va_D_nil {A : Nat → Prop} : va_D A [] := ⟨fun i j p q h => by simp at h, fun k q h => by simp at h⟩
theorem tcI (n : Nat) (h : n < 2 ^ 31) : (nI n).toNatClampNeg = n := nI_clamp h
theorem cmp_lt {x y : Int64} : lg_cmp x y < 0 ↔ x < y := by
  unfold lg_cmp
  split
  · rename_i h; constructor
    · intro q; exact absurd q (by decide)
    · intro q; exact absurd (Int64.lt_trans h q) (Int64.lt_irrefl)
  · split
    · rename_i h; subst h; constructor
      · intro q; exact absurd q (by decide)
      · intro q; exact absurd q (Int64.lt_irrefl)
    · rename_i h1 h2; constructor
      · intro _; simp only [j_lt, j_eq] at *; omega
      · intro _; decide
theorem cmp_gt {x y : Int64} : 0 < lg_cmp x y ↔ y < x := by
  unfold lg_cmp
  split
  · rename_i h; exact ⟨fun _ => h, fun _ => by decide⟩
  · split
    · rename_i h1 h2; exact ⟨fun q => absurd q (by decide), fun q => absurd q h1⟩
    · rename_i h1 h2; exact ⟨fun q => absurd q (by decide), fun q => absurd q h1⟩
theorem cmp_eq {x y : Int64} : lg_cmp x y = 0 ↔ x = y := by
  unfold lg_cmp
  split
  · rename_i h; refine ⟨fun q => absurd q (by decide), fun q => ?_⟩; subst q; exact absurd h (Int64.lt_irrefl)
  · split
    · rename_i h1 h2; exact ⟨fun _ => h2, fun _ => rfl⟩
    · rename_i h1 h2; exact ⟨fun q => absurd q (by decide), fun q => absurd q h2⟩
theorem mx0 {N : Nat} (h : N < 2 ^ 31) : (if (0 : Int32) < nI N then nI N else 0) = nI N := by
  split
  · rfl
  · rename_i q
    have e : N = 0 := by
      rcases Nat.eq_zero_or_pos N with z | z
      · exact z
      · exact absurd (nI_lt (a := 0) z h) q
    subst e
    rfl
theorem mn1 (k : Nat) : nI k + Int32.ofInt (-1) = nI k - 1 := by
  rw [Int32.sub_eq_add_neg]
  rfl
theorem cpy_c {α : Type} (v : α) (a b n : Nat) : va_cpy (fun _ => v) (fun _ => v) a b n = fun _ => v := by
  funext k
  unfold va_cpy
  split <;> rfl
theorem and3 (x : Int64) : x &&& 3 = 0 ∨ x &&& 3 = 1 ∨ x &&& 3 = 2 ∨ x &&& 3 = 3 := by
  have h : (x &&& 3).toBitVec = BitVec.ofNat 64 (x.toBitVec.toNat % 4) := by
    apply BitVec.eq_of_toNat_eq
    show (x.toBitVec &&& 3#64).toNat = _
    have e : x.toBitVec.toNat &&& 3 = x.toBitVec.toNat % 4 := Nat.and_two_pow_sub_one_eq_mod x.toBitVec.toNat 2
    rw [BitVec.toNat_and, BitVec.toNat_ofNat, BitVec.toNat_ofNat, show 3 % 2 ^ 64 = 3 from rfl, e]
    omega
  have hk : x.toBitVec.toNat % 4 < 4 := Nat.mod_lt _ (by decide)
  have inj : ∀ a : Int64, (x &&& 3).toBitVec = a.toBitVec → x &&& 3 = a := fun a q => Int64.toBitVec_inj.mp q
  rcases (show x.toBitVec.toNat % 4 = 0 ∨ x.toBitVec.toNat % 4 = 1 ∨ x.toBitVec.toNat % 4 = 2 ∨ x.toBitVec.toNat % 4 = 3 by omega) with k | k | k | k <;> rw [k] at h
  · exact Or.inl (inj 0 h)
  · exact Or.inr (Or.inl (inj 1 h))
  · exact Or.inr (Or.inr (Or.inl (inj 2 h)))
  · exact Or.inr (Or.inr (Or.inr (inj 3 h)))
theorem let3 (x : Int64) : (0 ≤ (x &&& 3).toInt32 ∧ (x &&& 3).toInt32 ≤ 2) ↔ ¬ x &&& 3 = 3 := by
  rcases and3 x with h | h | h | h <;> rw [h] <;> decide
theorem dv_X0 : ∀ j, j < 5 → defaultValue (tyX0 j) = vp_V [.null, .null, .null, .null, .int 0] j := fun j hj => by rcases (show j = 0 ∨ j = 1 ∨ j = 2 ∨ j = 3 ∨ j = 4 by omega) with rfl | rfl | rfl | rfl | rfl <;> rfl
theorem dv_X1 : ∀ j, j < 5 → defaultValue (tyX1 j) = vp_V [.null, .null, .null, .null, .int 0] j := fun j hj => by rcases (show j = 0 ∨ j = 1 ∨ j = 2 ∨ j = 3 ∨ j = 4 by omega) with rfl | rfl | rfl | rfl | rfl <;> rfl
theorem dv_X2 : ∀ j, j < 3 → defaultValue (tyX2 j) = vp_V [.null, .null, .int 0] j := fun j hj => by rcases (show j = 0 ∨ j = 1 ∨ j = 2 by omega) with rfl | rfl | rfl <;> rfl
theorem dv_X3 : ∀ j, j < 4 → defaultValue (tyX3 j) = vp_V [.null, .null, .null, .int 0] j := fun j hj => by rcases (show j = 0 ∨ j = 1 ∨ j = 2 ∨ j = 3 by omega) with rfl | rfl | rfl | rfl <;> rfl
theorem dv_X4 : ∀ j, j < 12 → defaultValue (tyX4 j) = vp_V [.null, .null, .null, .null, .int 0, .null, .null, .null, .int 0, .null, .null, .int 0] j := fun j hj => by rcases (show j = 0 ∨ j = 1 ∨ j = 2 ∨ j = 3 ∨ j = 4 ∨ j = 5 ∨ j = 6 ∨ j = 7 ∨ j = 8 ∨ j = 9 ∨ j = 10 ∨ j = 11 by omega) with rfl | rfl | rfl | rfl | rfl | rfl | rfl | rfl | rfl | rfl | rfl | rfl <;> rfl
theorem dv_X5 : ∀ j, j < 6 → defaultValue (tyX5 j) = vp_V [.null, .null, .null, .int 0, .int 0, .int 0] j := fun j hj => by rcases (show j = 0 ∨ j = 1 ∨ j = 2 ∨ j = 3 ∨ j = 4 ∨ j = 5 by omega) with rfl | rfl | rfl | rfl | rfl | rfl <;> rfl
theorem dv_X6 : ∀ j, j < 5 → defaultValue (tyX6 j) = vp_V [.int 0, .int 0, .int 0, .int 0, .null] j := fun j hj => by rcases (show j = 0 ∨ j = 1 ∨ j = 2 ∨ j = 3 ∨ j = 4 by omega) with rfl | rfl | rfl | rfl | rfl <;> rfl
theorem dv_X7 : ∀ j, j < 2 → defaultValue (tyX7 j) = vp_V [.null, .int 0] j := fun j hj => by rcases (show j = 0 ∨ j = 1 by omega) with rfl | rfl <;> rfl
theorem dv_X8 : ∀ j, j < 9 → defaultValue (tyX8 j) = vp_V [.null, .null, .null, .null, .null, .int 0, .int 0, .int 0, .int 0] j := fun j hj => by rcases (show j = 0 ∨ j = 1 ∨ j = 2 ∨ j = 3 ∨ j = 4 ∨ j = 5 ∨ j = 6 ∨ j = 7 ∨ j = 8 by omega) with rfl | rfl | rfl | rfl | rfl | rfl | rfl | rfl | rfl <;> rfl
theorem dv_X9 : ∀ j, j < 9 → defaultValue (tyX9 j) = vp_V [.null, .int 0, .int 0, .int 0, .int 0, .int 0, .int 0, .int 0, .int 0] j := fun j hj => by rcases (show j = 0 ∨ j = 1 ∨ j = 2 ∨ j = 3 ∨ j = 4 ∨ j = 5 ∨ j = 6 ∨ j = 7 ∨ j = 8 by omega) with rfl | rfl | rfl | rfl | rfl | rfl | rfl | rfl | rfl <;> rfl
theorem dv_X10 : ∀ j, j < 7 → defaultValue (tyX10 j) = vp_V [.null, .null, .int 0, .int 0, .int 0, .int 0, .int 0] j := fun j hj => by rcases (show j = 0 ∨ j = 1 ∨ j = 2 ∨ j = 3 ∨ j = 4 ∨ j = 5 ∨ j = 6 by omega) with rfl | rfl | rfl | rfl | rfl | rfl | rfl <;> rfl
theorem dv_X11 : ∀ j, j < 11 → defaultValue (tyX11 j) = vp_V [.null, .null, .null, .int 0, .null, .null, .null, .null, .null, .null, .null] j := fun j hj => by rcases (show j = 0 ∨ j = 1 ∨ j = 2 ∨ j = 3 ∨ j = 4 ∨ j = 5 ∨ j = 6 ∨ j = 7 ∨ j = 8 ∨ j = 9 ∨ j = 10 by omega) with rfl | rfl | rfl | rfl | rfl | rfl | rfl | rfl | rfl | rfl | rfl <;> rfl
theorem dv_X12 : ∀ j, j < 43 → defaultValue (tyX12 j) = vp_V [.null, .null, .null, .null, .null, .null, .int 0, .null, .null, .null, .null, .null, .int 0, .null, .int 0, .int 0, .int 0, .int 0, .null, .int 0, .null, .int 0, .int 0, .int 0, .int 0, .null, .int 0, .null, .null, .null, .int 0, .null, .null, .null, .null, .null, .null, .null, .null, .null, .null, .null, .null] j := fun j hj => by rcases (show j = 0 ∨ j = 1 ∨ j = 2 ∨ j = 3 ∨ j = 4 ∨ j = 5 ∨ j = 6 ∨ j = 7 ∨ j = 8 ∨ j = 9 ∨ j = 10 ∨ j = 11 ∨ j = 12 ∨ j = 13 ∨ j = 14 ∨ j = 15 ∨ j = 16 ∨ j = 17 ∨ j = 18 ∨ j = 19 ∨ j = 20 ∨ j = 21 ∨ j = 22 ∨ j = 23 ∨ j = 24 ∨ j = 25 ∨ j = 26 ∨ j = 27 ∨ j = 28 ∨ j = 29 ∨ j = 30 ∨ j = 31 ∨ j = 32 ∨ j = 33 ∨ j = 34 ∨ j = 35 ∨ j = 36 ∨ j = 37 ∨ j = 38 ∨ j = 39 ∨ j = 40 ∨ j = 41 ∨ j = 42 by omega) with rfl | rfl | rfl | rfl | rfl | rfl | rfl | rfl | rfl | rfl | rfl | rfl | rfl | rfl | rfl | rfl | rfl | rfl | rfl | rfl | rfl | rfl | rfl | rfl | rfl | rfl | rfl | rfl | rfl | rfl | rfl | rfl | rfl | rfl | rfl | rfl | rfl | rfl | rfl | rfl | rfl | rfl | rfl <;> rfl
