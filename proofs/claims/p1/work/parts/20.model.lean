theorem lj_15 : (15 : Int64).toInt = 15 := by decide
theorem lj_31 : (31 : Int64).toInt = 31 := by decide
theorem shz (t : Int32) (s : Int32) (k : Nat) (hs : ((s &&& 31).toBitVec.smod 32).toNat = k) : t >>> (s &&& 31) = 0 ↔ t.toInt / 2 ^ k = 0 := by
  rw [i_eq, pk_shr t (s &&& 31) k hs, Int.shiftRight_eq_div_pow]
  exact Iff.rfl
theorem sh1 (t : Int32) : t >>> ((1 : Int32) &&& 31) = 0 ↔ (0 ≤ t.toInt ∧ t.toInt < 2) := (shz t 1 1 (by decide)).trans (by omega)
theorem sh2 (t : Int32) : t >>> ((2 : Int32) &&& 31) = 0 ↔ (0 ≤ t.toInt ∧ t.toInt < 4) := (shz t 2 2 (by decide)).trans (by omega)
theorem sh3 (t : Int32) : t >>> ((3 : Int32) &&& 31) = 0 ↔ (0 ≤ t.toInt ∧ t.toInt < 8) := (shz t 3 3 (by decide)).trans (by omega)
theorem sh4 (t : Int32) : t >>> ((4 : Int32) &&& 31) = 0 ↔ (0 ≤ t.toInt ∧ t.toInt < 16) := (shz t 4 4 (by decide)).trans (by omega)
theorem sh5 (t : Int32) : t >>> ((5 : Int32) &&& 31) = 0 ↔ (0 ≤ t.toInt ∧ t.toInt < 32) := (shz t 5 5 (by decide)).trans (by omega)
def gp (k : Nat) : Nat → Int32 := fun j => if j < k then -1 else 0
theorem gp_1 : upd (fun _ => 0) 0 (-1) = gp 1 := by
  funext j
  unfold upd gp
  by_cases h : j = 0
  · subst h; rfl
  · rw [if_neg h, if_neg (by omega)]
theorem gp_s (k : Nat) : upd (gp k) k (-1) = gp (k + 1) := by
  funext j
  unfold upd gp
  by_cases h : j = k
  · subst h; rw [if_pos rfl, if_pos (by omega)]
  · rw [if_neg h]
    by_cases h2 : j < k
    · rw [if_pos h2, if_pos (by omega)]
    · rw [if_neg h2, if_neg (by omega)]
abbrev rm_c_M_in : Room := { frames := 0, cells := 0, slots := 0, locals := 0 }
theorem lf_c_M_in_0 (x1 : Int64) (x2 : Int64) (x3 : Int64) (c_1 : (lg_cmp x1 x2) < 0) : ¬ (x2 ≤ x1 ∧ x1 ≤ x3) := by (simp only [cmp_lt, cmp_gt] at * <;> (simp only [true_or, or_true, false_or, or_false, true_and, and_true, false_and, and_false, not_true_eq_false, not_false_eq_true, i_lt, i_le, i_eq, j_lt, j_le, j_eq, Int32.toInt_toInt64, li_0, lj_0, li_1, lj_1, li_2, lj_2, li_3, lj_3, li_4, lj_4, li_5, lj_5, li_6, lj_6, li_7, lj_7, li_8, lj_8, li_10, lj_10, li_11, lj_11, li_12, lj_12, li_24, lj_24, li_25, lj_25, li_50, lj_50, li_130, lj_130, li_160, lj_160, li_800, lj_800, li_4000, lj_4000, li_10000, lj_10000, li_16384, lj_16384, li_26, lj_26, li_32, lj_32, li_48, lj_48, li_57, lj_57, li_59, lj_59, li_97, lj_97, li_99, lj_99, li_122, lj_122, li_m1, lj_m1, li_m2, lj_m2, li_m3, lj_m3, li_m4, lj_m4, li_m5, lj_m5, li_m6, lj_m6] at * <;> omega))
theorem lf_c_M_in_1 (x1 : Int64) (x2 : Int64) (x3 : Int64) (c_1 : ¬ (lg_cmp x1 x2) < 0) (c_2 : 0 < (lg_cmp x1 x3)) : ¬ (x2 ≤ x1 ∧ x1 ≤ x3) := by (simp only [cmp_lt, cmp_gt] at * <;> (simp only [true_or, or_true, false_or, or_false, true_and, and_true, false_and, and_false, not_true_eq_false, not_false_eq_true, i_lt, i_le, i_eq, j_lt, j_le, j_eq, Int32.toInt_toInt64, li_0, lj_0, li_1, lj_1, li_2, lj_2, li_3, lj_3, li_4, lj_4, li_5, lj_5, li_6, lj_6, li_7, lj_7, li_8, lj_8, li_10, lj_10, li_11, lj_11, li_12, lj_12, li_24, lj_24, li_25, lj_25, li_50, lj_50, li_130, lj_130, li_160, lj_160, li_800, lj_800, li_4000, lj_4000, li_10000, lj_10000, li_16384, lj_16384, li_26, lj_26, li_32, lj_32, li_48, lj_48, li_57, lj_57, li_59, lj_59, li_97, lj_97, li_99, lj_99, li_122, lj_122, li_m1, lj_m1, li_m2, lj_m2, li_m3, lj_m3, li_m4, lj_m4, li_m5, lj_m5, li_m6, lj_m6] at * <;> omega))
theorem lf_c_M_in_2 (x1 : Int64) (x2 : Int64) (x3 : Int64) (c_1 : ¬ (lg_cmp x1 x2) < 0) (c_2 : ¬ 0 < (lg_cmp x1 x3)) : x2 ≤ x1 ∧ x1 ≤ x3 := by (simp only [cmp_lt, cmp_gt] at * <;> (simp only [true_or, or_true, false_or, or_false, true_and, and_true, false_and, and_false, not_true_eq_false, not_false_eq_true, i_lt, i_le, i_eq, j_lt, j_le, j_eq, Int32.toInt_toInt64, li_0, lj_0, li_1, lj_1, li_2, lj_2, li_3, lj_3, li_4, lj_4, li_5, lj_5, li_6, lj_6, li_7, lj_7, li_8, lj_8, li_10, lj_10, li_11, lj_11, li_12, lj_12, li_24, lj_24, li_25, lj_25, li_50, lj_50, li_130, lj_130, li_160, lj_160, li_800, lj_800, li_4000, lj_4000, li_10000, lj_10000, li_16384, lj_16384, li_26, lj_26, li_32, lj_32, li_48, lj_48, li_57, lj_57, li_59, lj_59, li_97, lj_97, li_99, lj_99, li_122, lj_122, li_m1, lj_m1, li_m2, lj_m2, li_m3, lj_m3, li_m4, lj_m4, li_m5, lj_m5, li_m6, lj_m6] at * <;> omega))
set_option maxHeartbeats 4000000 in
set_option maxRecDepth 100000 in
theorem c_M_in (l : Launch) (g : va_G) (cT : Nat → ClassId) (sz : Nat) (x1 : Int64) (x2 : Int64) (x3 : Int64)  : Ctr l g cT sz yX12_in wsX12_in rm_c_M_in [.long x1, .long x2, .long x3] [] (QI g (fun (r : Int32) (u : Unit) => (r = 1 ∧ (x2 ≤ x1 ∧ x1 ≤ x3)) ∨ (r = 0 ∧ (¬ (x2 ≤ x1 ∧ x1 ≤ x3)))) (fun (u : Unit) => [])) 0 0 := by
  refine mk_ctr (cc := cX12_in) (maxL := 6) (ret := (some .boolean)) (by decide) rfl (Nat.le_of_ble_eq_true rfl) ?_
  intro p e s m args below meth c A Q hx hb hr hts hown hlocks hin hml hP hK hD hN hZ hA hS hQ ls hl
  have hl : lv_has ls 6 [(0, .long x1), (2, .long x2), (4, .long x3)] := hl
  obtain ⟨H, hH⟩ : ∃ H : Heap, H = s.heap := ⟨_, rfl⟩
  obtain ⟨locs, hlo⟩ : ∃ x : List Loc, x = [] := ⟨_, rfl⟩
  rw [← hH] at hP
  have hS : va_S A s.heap H locs := by rw [hH, hlo]; exact hS
  have hgo : W p l e rm_c_M_in s m args below meth c H locs 0 0 Q (F0 m 0 ls []) := by
    clear hH hlo
    refine lv_lload_n hx hb dX12_in_0 rfl (lv_at hl 0 rfl) ?_
    refine lv_lload_n hx hb dX12_in_1 rfl (lv_at hl 1 rfl) ?_
    refine w_lcmp (v := lg_cmp x1 x2) hx hb dX12_in_2 rfl ?_
    refine lv_if_lt (tgt := 17) hx hb dX12_in_3 (by decide) (fun c_1 => ?_) (fun c_1 => ?_)
    · skip
      refine lv_iconst (v := 0) hx hb dX12_in_17 (by decide) ?_
      exact rt_i hx hb hr hlocks hQ hP hD hS () [] dX12_in_18 rfl (Nat.le_of_ble_eq_true rfl) (Nat.le_of_ble_eq_true rfl) rfl (by decide) (Or.inr ⟨rfl, (lf_c_M_in_0 x1 x2 x3 c_1)⟩)
    · skip
      refine lv_lload_n hx hb dX12_in_6 rfl (lv_at hl 0 rfl) ?_
      refine lv_lload hx hb dX12_in_7 (lv_at hl 2 rfl) ?_
      refine w_lcmp (v := lg_cmp x1 x3) hx hb dX12_in_9 rfl ?_
      refine lv_if_gt (tgt := 17) hx hb dX12_in_10 (by decide) (fun c_2 => ?_) (fun c_2 => ?_)
      · skip
        refine lv_iconst (v := 0) hx hb dX12_in_17 (by decide) ?_
        exact rt_i hx hb hr hlocks hQ hP hD hS () [] dX12_in_18 rfl (Nat.le_of_ble_eq_true rfl) (Nat.le_of_ble_eq_true rfl) rfl (by decide) (Or.inr ⟨rfl, (lf_c_M_in_1 x1 x2 x3 c_1 c_2)⟩)
      · skip
        refine lv_iconst (v := 1) hx hb dX12_in_13 (by decide) ?_
        refine lv_goto (tgt := 18) hx hb dX12_in_14 (by decide) ?_
        exact rt_i hx hb hr hlocks hQ hP hD hS () [] dX12_in_18 rfl (Nat.le_of_ble_eq_true rfl) (Nat.le_of_ble_eq_true rfl) rfl (by decide) (Or.inl ⟨rfl, (lf_c_M_in_2 x1 x2 x3 c_1 c_2)⟩)
  rw [hH, hlo] at hgo
  exact hgo
theorem yd_X12_in : yX12_in.cls = RX12 ∧ yX12_in.cls ≠ "java/lang/invoke/MethodHandle" ∧ yX12_in.cls ≠ "java/lang/invoke/VarHandle" ∧ (parseMethodDescriptor yX12_in.desc).map (fun d => d.parameters.length) = some 3 := by decide +kernel
abbrev rm_c_M_isReader : Room := { frames := 1, cells := 0, slots := 0, locals := 25 }
theorem lf_c_M_isReader_0 (x : Int32) (h_3 : 0 ≤ x.toInt64 ∧ x.toInt64 ≤ 1) : x = 0 ∨ x = 1 := by (simp only [true_or, or_true, false_or, or_false, true_and, and_true, false_and, and_false, not_true_eq_false, not_false_eq_true, i_lt, i_le, i_eq, j_lt, j_le, j_eq, Int32.toInt_toInt64, li_0, lj_0, li_1, lj_1, li_2, lj_2, li_3, lj_3, li_4, lj_4, li_5, lj_5, li_6, lj_6, li_7, lj_7, li_8, lj_8, li_10, lj_10, li_11, lj_11, li_12, lj_12, li_24, lj_24, li_25, lj_25, li_50, lj_50, li_130, lj_130, li_160, lj_160, li_800, lj_800, li_4000, lj_4000, li_10000, lj_10000, li_16384, lj_16384, li_26, lj_26, li_32, lj_32, li_48, lj_48, li_57, lj_57, li_59, lj_59, li_97, lj_97, li_99, lj_99, li_122, lj_122, li_m1, lj_m1, li_m2, lj_m2, li_m3, lj_m3, li_m4, lj_m4, li_m5, lj_m5, li_m6, lj_m6] at * <;> omega)
theorem lf_c_M_isReader_1 (x : Int32) (h_4 : ¬ (0 ≤ x.toInt64 ∧ x.toInt64 ≤ 1)) : ¬ (x = 0 ∨ x = 1) := by (simp only [true_or, or_true, false_or, or_false, true_and, and_true, false_and, and_false, not_true_eq_false, not_false_eq_true, i_lt, i_le, i_eq, j_lt, j_le, j_eq, Int32.toInt_toInt64, li_0, lj_0, li_1, lj_1, li_2, lj_2, li_3, lj_3, li_4, lj_4, li_5, lj_5, li_6, lj_6, li_7, lj_7, li_8, lj_8, li_10, lj_10, li_11, lj_11, li_12, lj_12, li_24, lj_24, li_25, lj_25, li_50, lj_50, li_130, lj_130, li_160, lj_160, li_800, lj_800, li_4000, lj_4000, li_10000, lj_10000, li_16384, lj_16384, li_26, lj_26, li_32, lj_32, li_48, lj_48, li_57, lj_57, li_59, lj_59, li_97, lj_97, li_99, lj_99, li_122, lj_122, li_m1, lj_m1, li_m2, lj_m2, li_m3, lj_m3, li_m4, lj_m4, li_m5, lj_m5, li_m6, lj_m6] at * <;> omega)
set_option maxHeartbeats 4000000 in
set_option maxRecDepth 100000 in
theorem c_M_isReader (l : Launch) (g : va_G) (cT : Nat → ClassId) (sz : Nat) (x : Int32)  : Ctr l g cT sz yX12_isReader wsX12_isReader rm_c_M_isReader [.int x] [] (QI g (fun (r : Int32) (u : Unit) => (r = 1 ∧ (x = 0 ∨ x = 1)) ∨ (r = 0 ∧ (¬ (x = 0 ∨ x = 1)))) (fun (u : Unit) => [])) 0 0 := by
  refine mk_ctr (cc := cX12_isReader) (maxL := 1) (ret := (some .boolean)) (by decide) rfl (Nat.le_of_ble_eq_true rfl) ?_
  intro p e s m args below meth c A Q hx hb hr hts hown hlocks hin hml hP hK hD hN hZ hA hS hQ ls hl
  have hl : lv_has ls 1 [(0, .int x)] := hl
  obtain ⟨H, hH⟩ : ∃ H : Heap, H = s.heap := ⟨_, rfl⟩
  obtain ⟨locs, hlo⟩ : ∃ x : List Loc, x = [] := ⟨_, rfl⟩
  rw [← hH] at hP
  have hS : va_S A s.heap H locs := by rw [hH, hlo]; exact hS
  have hgo : W p l e rm_c_M_isReader s m args below meth c H locs 0 0 Q (F0 m 0 ls []) := by
    clear hH hlo
    refine lv_iload_n hx hb dX12_isReader_0 rfl (lv_at hl 0 rfl) ?_
    refine lv_i2l (v := x.toInt64) hx hb dX12_isReader_1 rfl ?_
    refine lv_lconst (v := 0) hx hb dX12_isReader_2 (by decide) ?_
    refine lv_lconst (v := 1) hx hb dX12_isReader_3 (by decide) ?_
    refine cp_i (va_runS (As := [.long x.toInt64, .long 0, .long 1]) (rest := []) ⟨hx, hb, hml, hown, hts⟩ (c_M_in l g cT H.size x.toInt64 0 1) (va_cwS 3 hts gX12_isReader_X12_in rfl rfl rfl yd_X12_in.2 ⟨(Nat.le_of_ble_eq_true rfl), (Nat.le_of_ble_eq_true rfl)⟩) (preS (ws := []) (wc := []) rfl (fun _ _ h => by simp at h) (va_D_nil (A := A)) hK hN hZ hS hA [] rfl rfl) rfl rfl hl.1 rfl (lv_room (Nat.le_of_ble_eq_true rfl)) dX12_isReader_4 ⟨(Nat.le_of_ble_eq_true rfl), (Nat.le_of_ble_eq_true rfl)⟩) hP hS hA (fun r_1 u H locs h_2 hP hS => ?_)
    rcases h_2 with ⟨rfl, h_3⟩ | ⟨rfl, h_4⟩
    · skip
      exact rt_i hx hb hr hlocks hQ hP hD hS () [] dX12_isReader_7 rfl (Nat.le_of_ble_eq_true rfl) (Nat.le_of_ble_eq_true rfl) rfl (by decide) (Or.inl ⟨rfl, (lf_c_M_isReader_0 x h_3)⟩)
    · skip
      exact rt_i hx hb hr hlocks hQ hP hD hS () [] dX12_isReader_7 rfl (Nat.le_of_ble_eq_true rfl) (Nat.le_of_ble_eq_true rfl) rfl (by decide) (Or.inr ⟨rfl, (lf_c_M_isReader_1 x h_4)⟩)
  rw [hH, hlo] at hgo
  exact hgo
theorem hi_X12_isState_X12 : ∀ w ∈ wsX120, w ∈ wsX12_isState := fun _ h => List.mem_cons_of_mem _ (List.mem_append_right _ h)
theorem yd_X12_isReader : yX12_isReader.cls = RX12 ∧ yX12_isReader.cls ≠ "java/lang/invoke/MethodHandle" ∧ yX12_isReader.cls ≠ "java/lang/invoke/VarHandle" ∧ (parseMethodDescriptor yX12_isReader.desc).map (fun d => d.parameters.length) = some 1 := by decide +kernel
abbrev rm_c_M_isState : Room := { frames := 2, cells := 0, slots := 0, locals := 45 }
theorem lf_c_M_isState_0 (q : Int32) (h_7 : 0 ≤ q.toInt64 ∧ q.toInt64 ≤ 0) : ((0 : Int32) = 0 ∨ (0 : Int32) = 1) ∧ q = 0 := by (simp only [true_or, or_true, false_or, or_false, true_and, and_true, false_and, and_false, not_true_eq_false, not_false_eq_true, i_lt, i_le, i_eq, j_lt, j_le, j_eq, Int32.toInt_toInt64, li_0, lj_0, li_1, lj_1, li_2, lj_2, li_3, lj_3, li_4, lj_4, li_5, lj_5, li_6, lj_6, li_7, lj_7, li_8, lj_8, li_10, lj_10, li_11, lj_11, li_12, lj_12, li_24, lj_24, li_25, lj_25, li_50, lj_50, li_130, lj_130, li_160, lj_160, li_800, lj_800, li_4000, lj_4000, li_10000, lj_10000, li_16384, lj_16384, li_26, lj_26, li_32, lj_32, li_48, lj_48, li_57, lj_57, li_59, lj_59, li_97, lj_97, li_99, lj_99, li_122, lj_122, li_m1, lj_m1, li_m2, lj_m2, li_m3, lj_m3, li_m4, lj_m4, li_m5, lj_m5, li_m6, lj_m6] at * <;> omega)
theorem lf_c_M_isState_1 (q : Int32) (h_8 : ¬ (0 ≤ q.toInt64 ∧ q.toInt64 ≤ 0)) : ¬ (((0 : Int32) = 0 ∨ (0 : Int32) = 1) ∧ q = 0) := by (simp only [true_or, or_true, false_or, or_false, true_and, and_true, false_and, and_false, not_true_eq_false, not_false_eq_true, i_lt, i_le, i_eq, j_lt, j_le, j_eq, Int32.toInt_toInt64, li_0, lj_0, li_1, lj_1, li_2, lj_2, li_3, lj_3, li_4, lj_4, li_5, lj_5, li_6, lj_6, li_7, lj_7, li_8, lj_8, li_10, lj_10, li_11, lj_11, li_12, lj_12, li_24, lj_24, li_25, lj_25, li_50, lj_50, li_130, lj_130, li_160, lj_160, li_800, lj_800, li_4000, lj_4000, li_10000, lj_10000, li_16384, lj_16384, li_26, lj_26, li_32, lj_32, li_48, lj_48, li_57, lj_57, li_59, lj_59, li_97, lj_97, li_99, lj_99, li_122, lj_122, li_m1, lj_m1, li_m2, lj_m2, li_m3, lj_m3, li_m4, lj_m4, li_m5, lj_m5, li_m6, lj_m6] at * <;> omega)
theorem lf_c_M_isState_2 (q : Int32) (h_11 : 0 ≤ q.toInt64 ∧ q.toInt64 ≤ 0) : ((1 : Int32) = 0 ∨ (1 : Int32) = 1) ∧ q = 0 := by (simp only [true_or, or_true, false_or, or_false, true_and, and_true, false_and, and_false, not_true_eq_false, not_false_eq_true, i_lt, i_le, i_eq, j_lt, j_le, j_eq, Int32.toInt_toInt64, li_0, lj_0, li_1, lj_1, li_2, lj_2, li_3, lj_3, li_4, lj_4, li_5, lj_5, li_6, lj_6, li_7, lj_7, li_8, lj_8, li_10, lj_10, li_11, lj_11, li_12, lj_12, li_24, lj_24, li_25, lj_25, li_50, lj_50, li_130, lj_130, li_160, lj_160, li_800, lj_800, li_4000, lj_4000, li_10000, lj_10000, li_16384, lj_16384, li_26, lj_26, li_32, lj_32, li_48, lj_48, li_57, lj_57, li_59, lj_59, li_97, lj_97, li_99, lj_99, li_122, lj_122, li_m1, lj_m1, li_m2, lj_m2, li_m3, lj_m3, li_m4, lj_m4, li_m5, lj_m5, li_m6, lj_m6] at * <;> omega)
theorem lf_c_M_isState_3 (q : Int32) (h_12 : ¬ (0 ≤ q.toInt64 ∧ q.toInt64 ≤ 0)) : ¬ (((1 : Int32) = 0 ∨ (1 : Int32) = 1) ∧ q = 0) := by (simp only [true_or, or_true, false_or, or_false, true_and, and_true, false_and, and_false, not_true_eq_false, not_false_eq_true, i_lt, i_le, i_eq, j_lt, j_le, j_eq, Int32.toInt_toInt64, li_0, lj_0, li_1, lj_1, li_2, lj_2, li_3, lj_3, li_4, lj_4, li_5, lj_5, li_6, lj_6, li_7, lj_7, li_8, lj_8, li_10, lj_10, li_11, lj_11, li_12, lj_12, li_24, lj_24, li_25, lj_25, li_50, lj_50, li_130, lj_130, li_160, lj_160, li_800, lj_800, li_4000, lj_4000, li_10000, lj_10000, li_16384, lj_16384, li_26, lj_26, li_32, lj_32, li_48, lj_48, li_57, lj_57, li_59, lj_59, li_97, lj_97, li_99, lj_99, li_122, lj_122, li_m1, lj_m1, li_m2, lj_m2, li_m3, lj_m3, li_m4, lj_m4, li_m5, lj_m5, li_m6, lj_m6] at * <;> omega)
theorem lf_c_M_isState_4 (x : Int32) (q : Int32) (h_4 : ¬ (x = 0 ∨ x = 1)) : ¬ ((x = 0 ∨ x = 1) ∧ q = 0) := by (simp only [true_or, or_true, false_or, or_false, true_and, and_true, false_and, and_false, not_true_eq_false, not_false_eq_true, i_lt, i_le, i_eq, j_lt, j_le, j_eq, Int32.toInt_toInt64, li_0, lj_0, li_1, lj_1, li_2, lj_2, li_3, lj_3, li_4, lj_4, li_5, lj_5, li_6, lj_6, li_7, lj_7, li_8, lj_8, li_10, lj_10, li_11, lj_11, li_12, lj_12, li_24, lj_24, li_25, lj_25, li_50, lj_50, li_130, lj_130, li_160, lj_160, li_800, lj_800, li_4000, lj_4000, li_10000, lj_10000, li_16384, lj_16384, li_26, lj_26, li_32, lj_32, li_48, lj_48, li_57, lj_57, li_59, lj_59, li_97, lj_97, li_99, lj_99, li_122, lj_122, li_m1, lj_m1, li_m2, lj_m2, li_m3, lj_m3, li_m4, lj_m4, li_m5, lj_m5, li_m6, lj_m6] at * <;> omega)
set_option maxHeartbeats 4000000 in
set_option maxRecDepth 100000 in
theorem c_M_isState (l : Launch) (g : va_G) (cT : Nat → ClassId) (sz : Nat) (y : Nat) (qq : Nat → Nat) (z6 : Int32) (z12 : Int32) (z14 : Int32) (z15 : Int32) (z16 : Int32) (z17 : Int32) (z19 : Int32) (z21 : Int32) (z22 : Int32) (z23 : Int32) (z24 : Int32) (z26 : Int32) (z30 : Int32) (x : Int32) (q : Int32)  : Ctr l g cT sz yX12_isState wsX12_isState rm_c_M_isState [.ref y, .int x, .int q] [(y, .inr (12, [.ref (qq 0), .ref (qq 1), .ref (qq 2), .ref (qq 3), .ref (qq 4), .ref (qq 5), .int z6, .ref (qq 7), .ref (qq 8), .ref (qq 9), .ref (qq 10), .ref (qq 11), .int z12, .ref (qq 13), .int z14, .int z15, .int z16, .int z17, .ref (qq 18), .int z19, .ref (qq 20), .int z21, .int z22, .int z23, .int z24, .ref (qq 25), .int z26, .ref (qq 27), .ref (qq 28), .ref (qq 29), .int z30, .ref (qq 31), .ref (qq 32), .ref (qq 33), .ref (qq 34), .ref (qq 35), .ref (qq 36), .ref (qq 37), .ref (qq 38), .ref (qq 39), .ref (qq 40), .ref (qq 41), .ref (qq 42)])), ((qq 0), .inl (cT 0, 2, .inl (fun _ => 1)))] (QI g (fun (r : Int32) (u : Unit) => (r = 1 ∧ ((x = 0 ∨ x = 1) ∧ q = 0)) ∨ (r = 0 ∧ (¬ ((x = 0 ∨ x = 1) ∧ q = 0)))) (fun (u : Unit) => [(y, .inr (12, [.ref (qq 0), .ref (qq 1), .ref (qq 2), .ref (qq 3), .ref (qq 4), .ref (qq 5), .int z6, .ref (qq 7), .ref (qq 8), .ref (qq 9), .ref (qq 10), .ref (qq 11), .int z12, .ref (qq 13), .int z14, .int z15, .int z16, .int z17, .ref (qq 18), .int z19, .ref (qq 20), .int z21, .int z22, .int z23, .int z24, .ref (qq 25), .int z26, .ref (qq 27), .ref (qq 28), .ref (qq 29), .int z30, .ref (qq 31), .ref (qq 32), .ref (qq 33), .ref (qq 34), .ref (qq 35), .ref (qq 36), .ref (qq 37), .ref (qq 38), .ref (qq 39), .ref (qq 40), .ref (qq 41), .ref (qq 42)])), ((qq 0), .inl (cT 0, 2, .inl (fun _ => 1)))])) 0 0 := by
  refine mk_ctr (cc := cX12_isState) (maxL := 3) (ret := (some .boolean)) (by decide) rfl (Nat.le_of_ble_eq_true rfl) ?_
  intro p e s m args below meth c A Q hx hb hr hts hown hlocks hin hml hP hK hD hN hZ hA hS hQ ls hl
  have hl : lv_has ls 3 [(0, .ref y), (1, .int x), (2, .int q)] := hl
  obtain ⟨H, hH⟩ : ∃ H : Heap, H = s.heap := ⟨_, rfl⟩
  obtain ⟨locs, hlo⟩ : ∃ x : List Loc, x = [] := ⟨_, rfl⟩
  rw [← hH] at hP
  have hS : va_S A s.heap H locs := by rw [hH, hlo]; exact hS
  have hgo : W p l e rm_c_M_isState s m args below meth c H locs 0 0 Q (F0 m 0 ls []) := by
    clear hH hlo
    refine lv_iload_n hx hb dX12_isState_0 rfl (lv_at hl 1 rfl) ?_
    refine cp_i (va_runS (As := [.int x]) (rest := []) ⟨hx, hb, hml, hown, hts⟩ (c_M_isReader l g cT H.size x) (va_cwS 1 hts gX12_isState_X12_isReader rfl rfl rfl yd_X12_isReader.2 ⟨(Nat.le_of_ble_eq_true rfl), (Nat.le_of_ble_eq_true rfl)⟩) (preS (ws := []) (wc := []) rfl (fun _ _ h => by simp at h) (va_D_nil (A := A)) hK hN hZ hS hA [] rfl rfl) rfl rfl hl.1 rfl (lv_room (Nat.le_of_ble_eq_true rfl)) dX12_isState_1 ⟨(Nat.le_of_ble_eq_true rfl), (Nat.le_of_ble_eq_true rfl)⟩) hP hS hA (fun r_1 u H locs h_2 hP hS => ?_)
    rcases h_2 with ⟨rfl, h_3⟩ | ⟨rfl, h_4⟩
    · skip
      rcases h_3 with rfl | rfl
      · skip
        refine if_eq_f hx hb dX12_isState_4 29 (by decide) (by decide) ?_
        refine lv_iload_n hx hb dX12_isState_7 rfl (lv_at hl 2 rfl) ?_
        refine lv_i2l (v := q.toInt64) hx hb dX12_isState_8 rfl ?_
        refine lv_lconst (v := 0) hx hb dX12_isState_9 (by decide) ?_
        refine lv_aload_n hx hb dX12_isState_10 rfl (lv_at hl 0 rfl) ?_
        refine va_get (C := RX12) (T := TX12) (N := 43) (v := .ref (qq 0)) hx hb hts hi_X12_isState_X12 hown hK hP 0 rfl rfl 0 (by decide) (hts (.fieldLink RX12 7 "BothWaysModel" "states" "[I") (by decide +kernel)) (fun _ h => h) rfl dX12_isState_11 ?_
        refine lv_iload_n hx hb dX12_isState_14 rfl (lv_at hl 1 rfl) ?_
        refine w_iald (v := 1) hx hb hK hP 1 rfl dX12_isState_15 (inC (by decide)) rfl ?_
        refine lv_iconst (v := 1) hx hb dX12_isState_16 (by decide) ?_
        refine w_isub (v := 0) hx hb dX12_isState_17 (by decide) ?_
        refine lv_i2l (v := 0) hx hb dX12_isState_18 (by decide) ?_
        refine cp_i (va_runS (As := [.long q.toInt64, .long 0, .long 0]) (rest := []) ⟨hx, hb, hml, hown, hts⟩ (c_M_in l g cT H.size q.toInt64 0 0) (va_cwS 3 hts gX12_isState_X12_in rfl rfl rfl yd_X12_in.2 ⟨(Nat.le_of_ble_eq_true rfl), (Nat.le_of_ble_eq_true rfl)⟩) (preS (ws := []) (wc := []) rfl (fun _ _ h => by simp at h) (va_D_nil (A := A)) hK hN hZ hS hA [] rfl rfl) rfl rfl hl.1 rfl (lv_room (Nat.le_of_ble_eq_true rfl)) dX12_isState_19 ⟨(Nat.le_of_ble_eq_true rfl), (Nat.le_of_ble_eq_true rfl)⟩) hP hS hA (fun r_5 u H locs h_6 hP hS => ?_)
        rcases h_6 with ⟨rfl, h_7⟩ | ⟨rfl, h_8⟩
        · skip
          refine if_eq_f hx hb dX12_isState_22 29 (by decide) (by decide) ?_
          refine lv_iconst (v := 1) hx hb dX12_isState_25 (by decide) ?_
          refine lv_goto (tgt := 30) hx hb dX12_isState_26 (by decide) ?_
          exact rt_i hx hb hr hlocks hQ hP hD hS () [0, 1] dX12_isState_30 rfl (Nat.le_of_ble_eq_true rfl) (Nat.le_of_ble_eq_true rfl) rfl (by decide) (Or.inl ⟨rfl, (lf_c_M_isState_0 q h_7)⟩)
        · skip
          refine if_eq_t hx hb 29 dX12_isState_22 (by decide) (by decide) ?_
          refine lv_iconst (v := 0) hx hb dX12_isState_29 (by decide) ?_
          exact rt_i hx hb hr hlocks hQ hP hD hS () [0, 1] dX12_isState_30 rfl (Nat.le_of_ble_eq_true rfl) (Nat.le_of_ble_eq_true rfl) rfl (by decide) (Or.inr ⟨rfl, (lf_c_M_isState_1 q h_8)⟩)
      · skip
        refine if_eq_f hx hb dX12_isState_4 29 (by decide) (by decide) ?_
        refine lv_iload_n hx hb dX12_isState_7 rfl (lv_at hl 2 rfl) ?_
        refine lv_i2l (v := q.toInt64) hx hb dX12_isState_8 rfl ?_
        refine lv_lconst (v := 0) hx hb dX12_isState_9 (by decide) ?_
        refine lv_aload_n hx hb dX12_isState_10 rfl (lv_at hl 0 rfl) ?_
        refine va_get (C := RX12) (T := TX12) (N := 43) (v := .ref (qq 0)) hx hb hts hi_X12_isState_X12 hown hK hP 0 rfl rfl 0 (by decide) (hts (.fieldLink RX12 7 "BothWaysModel" "states" "[I") (by decide +kernel)) (fun _ h => h) rfl dX12_isState_11 ?_
        refine lv_iload_n hx hb dX12_isState_14 rfl (lv_at hl 1 rfl) ?_
        refine w_iald (v := 1) hx hb hK hP 1 rfl dX12_isState_15 (inC (by decide)) rfl ?_
        refine lv_iconst (v := 1) hx hb dX12_isState_16 (by decide) ?_
        refine w_isub (v := 0) hx hb dX12_isState_17 (by decide) ?_
        refine lv_i2l (v := 0) hx hb dX12_isState_18 (by decide) ?_
        refine cp_i (va_runS (As := [.long q.toInt64, .long 0, .long 0]) (rest := []) ⟨hx, hb, hml, hown, hts⟩ (c_M_in l g cT H.size q.toInt64 0 0) (va_cwS 3 hts gX12_isState_X12_in rfl rfl rfl yd_X12_in.2 ⟨(Nat.le_of_ble_eq_true rfl), (Nat.le_of_ble_eq_true rfl)⟩) (preS (ws := []) (wc := []) rfl (fun _ _ h => by simp at h) (va_D_nil (A := A)) hK hN hZ hS hA [] rfl rfl) rfl rfl hl.1 rfl (lv_room (Nat.le_of_ble_eq_true rfl)) dX12_isState_19 ⟨(Nat.le_of_ble_eq_true rfl), (Nat.le_of_ble_eq_true rfl)⟩) hP hS hA (fun r_9 u H locs h_10 hP hS => ?_)
        rcases h_10 with ⟨rfl, h_11⟩ | ⟨rfl, h_12⟩
        · skip
          refine if_eq_f hx hb dX12_isState_22 29 (by decide) (by decide) ?_
          refine lv_iconst (v := 1) hx hb dX12_isState_25 (by decide) ?_
          refine lv_goto (tgt := 30) hx hb dX12_isState_26 (by decide) ?_
          exact rt_i hx hb hr hlocks hQ hP hD hS () [0, 1] dX12_isState_30 rfl (Nat.le_of_ble_eq_true rfl) (Nat.le_of_ble_eq_true rfl) rfl (by decide) (Or.inl ⟨rfl, (lf_c_M_isState_2 q h_11)⟩)
        · skip
          refine if_eq_t hx hb 29 dX12_isState_22 (by decide) (by decide) ?_
          refine lv_iconst (v := 0) hx hb dX12_isState_29 (by decide) ?_
          exact rt_i hx hb hr hlocks hQ hP hD hS () [0, 1] dX12_isState_30 rfl (Nat.le_of_ble_eq_true rfl) (Nat.le_of_ble_eq_true rfl) rfl (by decide) (Or.inr ⟨rfl, (lf_c_M_isState_3 q h_12)⟩)
    · skip
      refine if_eq_t hx hb 29 dX12_isState_4 (by decide) (by decide) ?_
      refine lv_iconst (v := 0) hx hb dX12_isState_29 (by decide) ?_
      exact rt_i hx hb hr hlocks hQ hP hD hS () [0, 1] dX12_isState_30 rfl (Nat.le_of_ble_eq_true rfl) (Nat.le_of_ble_eq_true rfl) rfl (by decide) (Or.inr ⟨rfl, (lf_c_M_isState_4 x q h_4)⟩)
  rw [hH, hlo] at hgo
  exact hgo
abbrev rm_c_M_at0 : Room := { frames := 0, cells := 0, slots := 0, locals := 0 }
set_option maxHeartbeats 4000000 in
set_option maxRecDepth 100000 in
theorem c_M_at0 (l : Launch) (g : va_G) (cT : Nat → ClassId) (sz : Nat) (x : Int32) (q : Int32) (z : Int32)  : Ctr l g cT sz yX12_at0 wsX12_at0 rm_c_M_at0 [.int x, .int q, .int z] [] (QI g (fun (r : Int32) (u : Unit) => r = (25 : Int32) * x + (5 : Int32) * q + z) (fun (u : Unit) => [])) 0 0 := by
  refine mk_ctr (cc := cX12_at0) (maxL := 3) (ret := (some .int)) (by decide) rfl (Nat.le_of_ble_eq_true rfl) ?_
  intro p e s m args below meth c A Q hx hb hr hts hown hlocks hin hml hP hK hD hN hZ hA hS hQ ls hl
  have hl : lv_has ls 3 [(0, .int x), (1, .int q), (2, .int z)] := hl
  obtain ⟨H, hH⟩ : ∃ H : Heap, H = s.heap := ⟨_, rfl⟩
  obtain ⟨locs, hlo⟩ : ∃ x : List Loc, x = [] := ⟨_, rfl⟩
  rw [← hH] at hP
  have hS : va_S A s.heap H locs := by rw [hH, hlo]; exact hS
  have hgo : W p l e rm_c_M_at0 s m args below meth c H locs 0 0 Q (F0 m 0 ls []) := by
    clear hH hlo
    refine lv_bipush (v := 25) hx hb dX12_at0_0 (by decide) ?_
    refine lv_iload_n hx hb dX12_at0_2 rfl (lv_at hl 0 rfl) ?_
    refine w_imul (v := (25 : Int32) * x) hx hb dX12_at0_3 rfl ?_
    refine lv_iconst (v := 5) hx hb dX12_at0_4 (by decide) ?_
    refine lv_iload_n hx hb dX12_at0_5 rfl (lv_at hl 1 rfl) ?_
    refine w_imul (v := (5 : Int32) * q) hx hb dX12_at0_6 rfl ?_
    refine w_iadd (v := ((25 : Int32) * x) + ((5 : Int32) * q)) hx hb dX12_at0_7 rfl ?_
    refine lv_iload_n hx hb dX12_at0_8 rfl (lv_at hl 2 rfl) ?_
    refine w_iadd (v := (((25 : Int32) * x) + ((5 : Int32) * q)) + z) hx hb dX12_at0_9 rfl ?_
    exact rt_i hx hb hr hlocks hQ hP hD hS () [] dX12_at0_10 rfl (Nat.le_of_ble_eq_true rfl) (Nat.le_of_ble_eq_true rfl) rfl (by decide) (by first | rfl | decide)
  rw [hH, hlo] at hgo
  exact hgo
theorem hi_X12_movesOf_X12 : ∀ w ∈ wsX120, w ∈ wsX12_movesOf := fun _ h => List.mem_cons_of_mem _ (List.mem_append_right _ h)
abbrev rm_c_M_movesOf_0 : Room := { frames := 0, cells := 0, slots := 0, locals := 0 }
set_option maxHeartbeats 4000000 in
set_option maxRecDepth 100000 in
theorem c_M_movesOf_0 (l : Launch) (g : va_G) (cT : Nat → ClassId) (sz : Nat) (y : Nat) (qq : Nat → Nat) (z6 : Int32) (z12 : Int32) (z14 : Int32) (z15 : Int32) (z16 : Int32) (z17 : Int32) (z19 : Int32) (z21 : Int32) (z22 : Int32) (z23 : Int32) (z24 : Int32) (z26 : Int32) (z30 : Int32)  : Ctr l g cT sz yX12_movesOf wsX12_movesOf rm_c_M_movesOf_0 [.ref y, .int 0] [(y, .inr (12, [.ref (qq 0), .ref (qq 1), .ref (qq 2), .ref (qq 3), .ref (qq 4), .ref (qq 5), .int z6, .ref (qq 7), .ref (qq 8), .ref (qq 9), .ref (qq 10), .ref (qq 11), .int z12, .ref (qq 13), .int z14, .int z15, .int z16, .int z17, .ref (qq 18), .int z19, .ref (qq 20), .int z21, .int z22, .int z23, .int z24, .ref (qq 25), .int z26, .ref (qq 27), .ref (qq 28), .ref (qq 29), .int z30, .ref (qq 31), .ref (qq 32), .ref (qq 33), .ref (qq 34), .ref (qq 35), .ref (qq 36), .ref (qq 37), .ref (qq 38), .ref (qq 39), .ref (qq 40), .ref (qq 41), .ref (qq 42)])), ((qq 2), .inl (cT 0, 50, .inl (fun _ => (-1))))] (QI g (fun (r : Int32) (u : Unit) => r = 0) (fun (u : Unit) => [(y, .inr (12, [.ref (qq 0), .ref (qq 1), .ref (qq 2), .ref (qq 3), .ref (qq 4), .ref (qq 5), .int z6, .ref (qq 7), .ref (qq 8), .ref (qq 9), .ref (qq 10), .ref (qq 11), .int z12, .ref (qq 13), .int z14, .int z15, .int z16, .int z17, .ref (qq 18), .int z19, .ref (qq 20), .int z21, .int z22, .int z23, .int z24, .ref (qq 25), .int z26, .ref (qq 27), .ref (qq 28), .ref (qq 29), .int z30, .ref (qq 31), .ref (qq 32), .ref (qq 33), .ref (qq 34), .ref (qq 35), .ref (qq 36), .ref (qq 37), .ref (qq 38), .ref (qq 39), .ref (qq 40), .ref (qq 41), .ref (qq 42)])), ((qq 2), .inl (cT 0, 50, .inl (fun _ => (-1))))])) 0 0 := by
  refine mk_ctr (cc := cX12_movesOf) (maxL := 4) (ret := (some .int)) (by decide) rfl (Nat.le_of_ble_eq_true rfl) ?_
  intro p e s m args below meth c A Q hx hb hr hts hown hlocks hin hml hP hK hD hN hZ hA hS hQ ls hl
  have hl : lv_has ls 4 [(0, .ref y), (1, .int 0)] := hl
  obtain ⟨H, hH⟩ : ∃ H : Heap, H = s.heap := ⟨_, rfl⟩
  obtain ⟨locs, hlo⟩ : ∃ x : List Loc, x = [] := ⟨_, rfl⟩
  rw [← hH] at hP
  have hS : va_S A s.heap H locs := by rw [hH, hlo]; exact hS
  have hgo : W p l e rm_c_M_movesOf_0 s m args below meth c H locs 0 0 Q (F0 m 0 ls []) := by
    clear hH hlo
    refine lv_iconst (v := 0) hx hb dX12_movesOf_0 (by decide) ?_
    refine lv_istore_n (lv' := [(2, .int 0), (0, .ref y), (1, .int 0)]) hx hb dX12_movesOf_1 rfl hl (by decide) rfl (fun ls hl => ?_)
    refine lv_bipush (v := 25) hx hb dX12_movesOf_2 (by decide) ?_
    refine lv_iload_n hx hb dX12_movesOf_4 rfl (lv_at hl 2 rfl) ?_
    refine w_imul (v := 0) hx hb dX12_movesOf_5 (by decide) ?_
    refine lv_istore_n (lv' := [(3, .int 0), (2, .int 0), (0, .ref y), (1, .int 0)]) hx hb dX12_movesOf_6 rfl hl (by decide) rfl (fun ls hl => ?_)
    have loop_1 : ∀ (fuel : Nat) (j : Nat), j ≤ 25 → 25 - j < fuel → ∀ (H : Heap) (locs : List Loc), va_P g vwCl [(y, .inr (12, [.ref (qq 0), .ref (qq 1), .ref (qq 2), .ref (qq 3), .ref (qq 4), .ref (qq 5), .int z6, .ref (qq 7), .ref (qq 8), .ref (qq 9), .ref (qq 10), .ref (qq 11), .int z12, .ref (qq 13), .int z14, .int z15, .int z16, .int z17, .ref (qq 18), .int z19, .ref (qq 20), .int z21, .int z22, .int z23, .int z24, .ref (qq 25), .int z26, .ref (qq 27), .ref (qq 28), .ref (qq 29), .int z30, .ref (qq 31), .ref (qq 32), .ref (qq 33), .ref (qq 34), .ref (qq 35), .ref (qq 36), .ref (qq 37), .ref (qq 38), .ref (qq 39), .ref (qq 40), .ref (qq 41), .ref (qq 42)])), ((qq 2), .inl (cT 0, 50, .inl (fun _ => (-1))))] H → va_D A [(y, .inr (12, [.ref (qq 0), .ref (qq 1), .ref (qq 2), .ref (qq 3), .ref (qq 4), .ref (qq 5), .int z6, .ref (qq 7), .ref (qq 8), .ref (qq 9), .ref (qq 10), .ref (qq 11), .int z12, .ref (qq 13), .int z14, .int z15, .int z16, .int z17, .ref (qq 18), .int z19, .ref (qq 20), .int z21, .int z22, .int z23, .int z24, .ref (qq 25), .int z26, .ref (qq 27), .ref (qq 28), .ref (qq 29), .int z30, .ref (qq 31), .ref (qq 32), .ref (qq 33), .ref (qq 34), .ref (qq 35), .ref (qq 36), .ref (qq 37), .ref (qq 38), .ref (qq 39), .ref (qq 40), .ref (qq 41), .ref (qq 42)])), ((qq 2), .inl (cT 0, 50, .inl (fun _ => (-1))))] → va_S A s.heap H locs → ∀ ls : Array Slot, lv_has ls 4 [(3, .int (nI j)), (2, .int 0), (0, .ref y), (1, .int 0)] → W p l e rm_c_M_movesOf_0 s m args below meth c H locs 0 0 Q (F0 m 7 ls []) := by
      intro fuel
      induction fuel with
      | zero => intro j hj hfu; omega
      | succ fuel ih_loop_1 =>
        intro j hj hfu H locs hP hD hS ls hl
        refine lv_iload_n hx hb dX12_movesOf_7 rfl (lv_at hl 0 rfl) ?_
        refine lv_bipush (v := 25) hx hb dX12_movesOf_8 (by decide) ?_
        refine lv_iload_n hx hb dX12_movesOf_10 rfl (lv_at hl 3 rfl) ?_
        refine w_imul (v := 0) hx hb dX12_movesOf_11 (by decide) ?_
        refine lv_bipush (v := 25) hx hb dX12_movesOf_12 (by decide) ?_
        refine w_iadd (v := 25) hx hb dX12_movesOf_14 (by decide) ?_
        refine lv_icmp_ge (tgt := 42) hx hb dX12_movesOf_15 (by decide) (fun c_2 => ?_) (fun c_2 => ?_)
        · skip
          refine lv_iload_n hx hb dX12_movesOf_42 rfl (lv_at hl 1 rfl) ?_
          exact rt_i hx hb hr hlocks hQ hP hD hS () [0, 1] dX12_movesOf_43 rfl (Nat.le_of_ble_eq_true rfl) (Nat.le_of_ble_eq_true rfl) rfl (by decide) rfl
        · skip
          have hlt : j < 25 := Nat.lt_of_not_le (fun h => c_2 (nI_le (a := 25) h (by omega)))
          refine lv_iload_n hx hb dX12_movesOf_18 rfl (lv_at hl 1 rfl) ?_
          refine lv_aload_n hx hb dX12_movesOf_19 rfl (lv_at hl 2 rfl) ?_
          refine va_get (C := RX12) (T := TX12) (N := 43) (v := .ref (qq 2)) hx hb hts hi_X12_movesOf_X12 hown hK hP 0 rfl rfl 2 (by decide) (hts (.fieldLink RX12 16 "BothWaysModel" "goTo" "[I") (by decide +kernel)) (fun _ h => h) rfl dX12_movesOf_20 ?_
          refine lv_iload_n hx hb dX12_movesOf_23 rfl (lv_at hl 0 rfl) ?_
          refine w_iald (v := (-1)) hx hb hK hP 1 rfl dX12_movesOf_24 (vp_in_nI (show j < 50 by omega) (by decide)) rfl ?_
          refine lv_iconst (v := (-1)) hx hb dX12_movesOf_25 (by decide) ?_
          refine icmp_eq_t hx hb 33 dX12_movesOf_26 (by decide) (by decide) ?_
          refine lv_iconst (v := 0) hx hb dX12_movesOf_33 (by decide) ?_
          refine w_iadd (v := 0) hx hb dX12_movesOf_34 (by decide) ?_
          refine lv_istore_n (lv' := [(2, .int 0), (3, .int (nI j)), (0, .ref y), (1, .int 0)]) hx hb dX12_movesOf_35 rfl hl (by decide) rfl (fun ls hl => ?_)
          refine lv_iinc (v := (nI (j + 1))) (lv' := [(3, .int (nI (j + 1))), (2, .int 0), (0, .ref y), (1, .int 0)]) hx hb dX12_movesOf_36 hl (k := 1) rfl (nI_1 j) (by decide) rfl (fun ls hl => ?_)
          refine lv_goto (tgt := 7) hx hb dX12_movesOf_39 (by decide) ?_
          exact ih_loop_1 (j + 1) (by omega) (by omega) _ _ (hP.sub [0, 1] rfl) (hD.sub [0, 1] (by decide) rfl) hS ls (lv_sub hl [0, 1, 2, 3] rfl)
    exact loop_1 _ 0 (by decide) (Nat.lt_succ_self _) _ _ (hP.sub [0, 1] rfl) (hD.sub [0, 1] (by decide) rfl) hS ls (lv_sub hl [0, 1, 2, 3] rfl)
  rw [hH, hlo] at hgo
  exact hgo
abbrev rm_c_M_movesOf_1 : Room := { frames := 0, cells := 0, slots := 0, locals := 0 }
set_option maxHeartbeats 4000000 in
set_option maxRecDepth 100000 in
theorem c_M_movesOf_1 (l : Launch) (g : va_G) (cT : Nat → ClassId) (sz : Nat) (y : Nat) (qq : Nat → Nat) (z6 : Int32) (z12 : Int32) (z14 : Int32) (z15 : Int32) (z16 : Int32) (z17 : Int32) (z19 : Int32) (z21 : Int32) (z22 : Int32) (z23 : Int32) (z24 : Int32) (z26 : Int32) (z30 : Int32)  : Ctr l g cT sz yX12_movesOf wsX12_movesOf rm_c_M_movesOf_1 [.ref y, .int 1] [(y, .inr (12, [.ref (qq 0), .ref (qq 1), .ref (qq 2), .ref (qq 3), .ref (qq 4), .ref (qq 5), .int z6, .ref (qq 7), .ref (qq 8), .ref (qq 9), .ref (qq 10), .ref (qq 11), .int z12, .ref (qq 13), .int z14, .int z15, .int z16, .int z17, .ref (qq 18), .int z19, .ref (qq 20), .int z21, .int z22, .int z23, .int z24, .ref (qq 25), .int z26, .ref (qq 27), .ref (qq 28), .ref (qq 29), .int z30, .ref (qq 31), .ref (qq 32), .ref (qq 33), .ref (qq 34), .ref (qq 35), .ref (qq 36), .ref (qq 37), .ref (qq 38), .ref (qq 39), .ref (qq 40), .ref (qq 41), .ref (qq 42)])), ((qq 2), .inl (cT 0, 50, .inl (fun _ => (-1))))] (QI g (fun (r : Int32) (u : Unit) => r = 0) (fun (u : Unit) => [(y, .inr (12, [.ref (qq 0), .ref (qq 1), .ref (qq 2), .ref (qq 3), .ref (qq 4), .ref (qq 5), .int z6, .ref (qq 7), .ref (qq 8), .ref (qq 9), .ref (qq 10), .ref (qq 11), .int z12, .ref (qq 13), .int z14, .int z15, .int z16, .int z17, .ref (qq 18), .int z19, .ref (qq 20), .int z21, .int z22, .int z23, .int z24, .ref (qq 25), .int z26, .ref (qq 27), .ref (qq 28), .ref (qq 29), .int z30, .ref (qq 31), .ref (qq 32), .ref (qq 33), .ref (qq 34), .ref (qq 35), .ref (qq 36), .ref (qq 37), .ref (qq 38), .ref (qq 39), .ref (qq 40), .ref (qq 41), .ref (qq 42)])), ((qq 2), .inl (cT 0, 50, .inl (fun _ => (-1))))])) 0 0 := by
  refine mk_ctr (cc := cX12_movesOf) (maxL := 4) (ret := (some .int)) (by decide) rfl (Nat.le_of_ble_eq_true rfl) ?_
  intro p e s m args below meth c A Q hx hb hr hts hown hlocks hin hml hP hK hD hN hZ hA hS hQ ls hl
  have hl : lv_has ls 4 [(0, .ref y), (1, .int 1)] := hl
  obtain ⟨H, hH⟩ : ∃ H : Heap, H = s.heap := ⟨_, rfl⟩
  obtain ⟨locs, hlo⟩ : ∃ x : List Loc, x = [] := ⟨_, rfl⟩
  rw [← hH] at hP
  have hS : va_S A s.heap H locs := by rw [hH, hlo]; exact hS
  have hgo : W p l e rm_c_M_movesOf_1 s m args below meth c H locs 0 0 Q (F0 m 0 ls []) := by
    clear hH hlo
    refine lv_iconst (v := 0) hx hb dX12_movesOf_0 (by decide) ?_
    refine lv_istore_n (lv' := [(2, .int 0), (0, .ref y), (1, .int 1)]) hx hb dX12_movesOf_1 rfl hl (by decide) rfl (fun ls hl => ?_)
    refine lv_bipush (v := 25) hx hb dX12_movesOf_2 (by decide) ?_
    refine lv_iload_n hx hb dX12_movesOf_4 rfl (lv_at hl 2 rfl) ?_
    refine w_imul (v := 25) hx hb dX12_movesOf_5 (by decide) ?_
    refine lv_istore_n (lv' := [(3, .int 25), (2, .int 0), (0, .ref y), (1, .int 1)]) hx hb dX12_movesOf_6 rfl hl (by decide) rfl (fun ls hl => ?_)
    have loop_1 : ∀ (fuel : Nat) (j : Nat), j ≤ 50 → 50 - j < fuel → ∀ (H : Heap) (locs : List Loc), va_P g vwCl [(y, .inr (12, [.ref (qq 0), .ref (qq 1), .ref (qq 2), .ref (qq 3), .ref (qq 4), .ref (qq 5), .int z6, .ref (qq 7), .ref (qq 8), .ref (qq 9), .ref (qq 10), .ref (qq 11), .int z12, .ref (qq 13), .int z14, .int z15, .int z16, .int z17, .ref (qq 18), .int z19, .ref (qq 20), .int z21, .int z22, .int z23, .int z24, .ref (qq 25), .int z26, .ref (qq 27), .ref (qq 28), .ref (qq 29), .int z30, .ref (qq 31), .ref (qq 32), .ref (qq 33), .ref (qq 34), .ref (qq 35), .ref (qq 36), .ref (qq 37), .ref (qq 38), .ref (qq 39), .ref (qq 40), .ref (qq 41), .ref (qq 42)])), ((qq 2), .inl (cT 0, 50, .inl (fun _ => (-1))))] H → va_D A [(y, .inr (12, [.ref (qq 0), .ref (qq 1), .ref (qq 2), .ref (qq 3), .ref (qq 4), .ref (qq 5), .int z6, .ref (qq 7), .ref (qq 8), .ref (qq 9), .ref (qq 10), .ref (qq 11), .int z12, .ref (qq 13), .int z14, .int z15, .int z16, .int z17, .ref (qq 18), .int z19, .ref (qq 20), .int z21, .int z22, .int z23, .int z24, .ref (qq 25), .int z26, .ref (qq 27), .ref (qq 28), .ref (qq 29), .int z30, .ref (qq 31), .ref (qq 32), .ref (qq 33), .ref (qq 34), .ref (qq 35), .ref (qq 36), .ref (qq 37), .ref (qq 38), .ref (qq 39), .ref (qq 40), .ref (qq 41), .ref (qq 42)])), ((qq 2), .inl (cT 0, 50, .inl (fun _ => (-1))))] → va_S A s.heap H locs → ∀ ls : Array Slot, lv_has ls 4 [(3, .int (nI j)), (2, .int 0), (0, .ref y), (1, .int 1)] → W p l e rm_c_M_movesOf_1 s m args below meth c H locs 0 0 Q (F0 m 7 ls []) := by
      intro fuel
      induction fuel with
      | zero => intro j hj hfu; omega
      | succ fuel ih_loop_1 =>
        intro j hj hfu H locs hP hD hS ls hl
        refine lv_iload_n hx hb dX12_movesOf_7 rfl (lv_at hl 0 rfl) ?_
        refine lv_bipush (v := 25) hx hb dX12_movesOf_8 (by decide) ?_
        refine lv_iload_n hx hb dX12_movesOf_10 rfl (lv_at hl 3 rfl) ?_
        refine w_imul (v := 25) hx hb dX12_movesOf_11 (by decide) ?_
        refine lv_bipush (v := 25) hx hb dX12_movesOf_12 (by decide) ?_
        refine w_iadd (v := 50) hx hb dX12_movesOf_14 (by decide) ?_
        refine lv_icmp_ge (tgt := 42) hx hb dX12_movesOf_15 (by decide) (fun c_2 => ?_) (fun c_2 => ?_)
        · skip
          refine lv_iload_n hx hb dX12_movesOf_42 rfl (lv_at hl 1 rfl) ?_
          exact rt_i hx hb hr hlocks hQ hP hD hS () [0, 1] dX12_movesOf_43 rfl (Nat.le_of_ble_eq_true rfl) (Nat.le_of_ble_eq_true rfl) rfl (by decide) rfl
        · skip
          have hlt : j < 50 := Nat.lt_of_not_le (fun h => c_2 (nI_le (a := 50) h (by omega)))
          refine lv_iload_n hx hb dX12_movesOf_18 rfl (lv_at hl 1 rfl) ?_
          refine lv_aload_n hx hb dX12_movesOf_19 rfl (lv_at hl 2 rfl) ?_
          refine va_get (C := RX12) (T := TX12) (N := 43) (v := .ref (qq 2)) hx hb hts hi_X12_movesOf_X12 hown hK hP 0 rfl rfl 2 (by decide) (hts (.fieldLink RX12 16 "BothWaysModel" "goTo" "[I") (by decide +kernel)) (fun _ h => h) rfl dX12_movesOf_20 ?_
          refine lv_iload_n hx hb dX12_movesOf_23 rfl (lv_at hl 0 rfl) ?_
          refine w_iald (v := (-1)) hx hb hK hP 1 rfl dX12_movesOf_24 (vp_in_nI (show j < 50 by omega) (by decide)) rfl ?_
          refine lv_iconst (v := (-1)) hx hb dX12_movesOf_25 (by decide) ?_
          refine icmp_eq_t hx hb 33 dX12_movesOf_26 (by decide) (by decide) ?_
          refine lv_iconst (v := 0) hx hb dX12_movesOf_33 (by decide) ?_
          refine w_iadd (v := 0) hx hb dX12_movesOf_34 (by decide) ?_
          refine lv_istore_n (lv' := [(2, .int 0), (3, .int (nI j)), (0, .ref y), (1, .int 1)]) hx hb dX12_movesOf_35 rfl hl (by decide) rfl (fun ls hl => ?_)
          refine lv_iinc (v := (nI (j + 1))) (lv' := [(3, .int (nI (j + 1))), (2, .int 0), (0, .ref y), (1, .int 1)]) hx hb dX12_movesOf_36 hl (k := 1) rfl (nI_1 j) (by decide) rfl (fun ls hl => ?_)
          refine lv_goto (tgt := 7) hx hb dX12_movesOf_39 (by decide) ?_
          exact ih_loop_1 (j + 1) (by omega) (by omega) _ _ (hP.sub [0, 1] rfl) (hD.sub [0, 1] (by decide) rfl) hS ls (lv_sub hl [0, 1, 2, 3] rfl)
    exact loop_1 _ 25 (by decide) (Nat.lt_succ_self _) _ _ (hP.sub [0, 1] rfl) (hD.sub [0, 1] (by decide) rfl) hS ls (lv_sub hl [0, 1, 2, 3] rfl)
  rw [hH, hlo] at hgo
  exact hgo
theorem hi_X12_reader_X12 : ∀ w ∈ wsX120, w ∈ wsX12_reader := fun _ h => List.mem_cons_of_mem _ (List.mem_append_right _ h)
abbrev rm_c_M_reader : Room := { frames := 2, cells := 0, slots := 0, locals := 45 }
theorem lf_c_M_reader_0 (n : Int32) (h_7 : 1 ≤ n.toInt64 ∧ n.toInt64 ≤ 5) : n = 1 ∨ n = 2 ∨ n = 3 ∨ n = 4 ∨ n = 5 := by (simp only [true_or, or_true, false_or, or_false, true_and, and_true, false_and, and_false, not_true_eq_false, not_false_eq_true, i_lt, i_le, i_eq, j_lt, j_le, j_eq, Int32.toInt_toInt64, li_0, lj_0, li_1, lj_1, li_2, lj_2, li_3, lj_3, li_4, lj_4, li_5, lj_5, li_6, lj_6, li_7, lj_7, li_8, lj_8, li_10, lj_10, li_11, lj_11, li_12, lj_12, li_24, lj_24, li_25, lj_25, li_50, lj_50, li_130, lj_130, li_160, lj_160, li_800, lj_800, li_4000, lj_4000, li_10000, lj_10000, li_16384, lj_16384, li_26, lj_26, li_32, lj_32, li_48, lj_48, li_57, lj_57, li_59, lj_59, li_97, lj_97, li_99, lj_99, li_122, lj_122, li_m1, lj_m1, li_m2, lj_m2, li_m3, lj_m3, li_m4, lj_m4, li_m5, lj_m5, li_m6, lj_m6] at * <;> omega)
theorem lf_c_M_reader_1 (t : Int32) (j : Nat) (h_11 : 0 ≤ t.toInt64 ∧ t.toInt64 ≤ 1) (hj : j ≤ 50) (c_16 : 25 ≤ (nI j)) : (1 : Int32) = sp_reader 0 1 t := by (unfold sp_reader; rw [if_pos, if_neg] <;> ((try simp only [sh1, sh2, sh3, sh4, sh5] at *) <;> (simp only [lj_15, lj_31, true_or, or_true, false_or, or_false, true_and, and_true, false_and, and_false, not_true_eq_false, not_false_eq_true, i_lt, i_le, i_eq, j_lt, j_le, j_eq, Int32.toInt_toInt64, li_0, lj_0, li_1, lj_1, li_2, lj_2, li_3, lj_3, li_4, lj_4, li_5, lj_5, li_6, lj_6, li_7, lj_7, li_8, lj_8, li_10, lj_10, li_11, lj_11, li_12, lj_12, li_24, lj_24, li_25, lj_25, li_50, lj_50, li_130, lj_130, li_160, lj_160, li_800, lj_800, li_4000, lj_4000, li_10000, lj_10000, li_16384, lj_16384, li_26, lj_26, li_32, lj_32, li_48, lj_48, li_57, lj_57, li_59, lj_59, li_97, lj_97, li_99, lj_99, li_122, lj_122, li_m1, lj_m1, li_m2, lj_m2, li_m3, lj_m3, li_m4, lj_m4, li_m5, lj_m5, li_m6, lj_m6] at * <;> omega)))
theorem lf_c_M_reader_2 (t : Int32) (h_12 : ¬ (0 ≤ t.toInt64 ∧ t.toInt64 ≤ 1)) : ((-3) : Int32) = sp_reader 0 1 t := by (unfold sp_reader; rw [if_pos, if_pos] <;> ((try simp only [sh1, sh2, sh3, sh4, sh5] at *) <;> (simp only [lj_15, lj_31, true_or, or_true, false_or, or_false, true_and, and_true, false_and, and_false, not_true_eq_false, not_false_eq_true, i_lt, i_le, i_eq, j_lt, j_le, j_eq, Int32.toInt_toInt64, li_0, lj_0, li_1, lj_1, li_2, lj_2, li_3, lj_3, li_4, lj_4, li_5, lj_5, li_6, lj_6, li_7, lj_7, li_8, lj_8, li_10, lj_10, li_11, lj_11, li_12, lj_12, li_24, lj_24, li_25, lj_25, li_50, lj_50, li_130, lj_130, li_160, lj_160, li_800, lj_800, li_4000, lj_4000, li_10000, lj_10000, li_16384, lj_16384, li_26, lj_26, li_32, lj_32, li_48, lj_48, li_57, lj_57, li_59, lj_59, li_97, lj_97, li_99, lj_99, li_122, lj_122, li_m1, lj_m1, li_m2, lj_m2, li_m3, lj_m3, li_m4, lj_m4, li_m5, lj_m5, li_m6, lj_m6] at * <;> omega)))
theorem lf_c_M_reader_3 (t : Int32) (j : Nat) (h_19 : 0 ≤ t.toInt64 ∧ t.toInt64 ≤ 3) (hj : j ≤ 50) (c_24 : 25 ≤ (nI j)) : (1 : Int32) = sp_reader 0 2 t := by (unfold sp_reader; rw [if_pos, if_neg] <;> ((try simp only [sh1, sh2, sh3, sh4, sh5] at *) <;> (simp only [lj_15, lj_31, true_or, or_true, false_or, or_false, true_and, and_true, false_and, and_false, not_true_eq_false, not_false_eq_true, i_lt, i_le, i_eq, j_lt, j_le, j_eq, Int32.toInt_toInt64, li_0, lj_0, li_1, lj_1, li_2, lj_2, li_3, lj_3, li_4, lj_4, li_5, lj_5, li_6, lj_6, li_7, lj_7, li_8, lj_8, li_10, lj_10, li_11, lj_11, li_12, lj_12, li_24, lj_24, li_25, lj_25, li_50, lj_50, li_130, lj_130, li_160, lj_160, li_800, lj_800, li_4000, lj_4000, li_10000, lj_10000, li_16384, lj_16384, li_26, lj_26, li_32, lj_32, li_48, lj_48, li_57, lj_57, li_59, lj_59, li_97, lj_97, li_99, lj_99, li_122, lj_122, li_m1, lj_m1, li_m2, lj_m2, li_m3, lj_m3, li_m4, lj_m4, li_m5, lj_m5, li_m6, lj_m6] at * <;> omega)))
theorem lf_c_M_reader_4 (t : Int32) (h_20 : ¬ (0 ≤ t.toInt64 ∧ t.toInt64 ≤ 3)) : ((-3) : Int32) = sp_reader 0 2 t := by (unfold sp_reader; rw [if_pos, if_pos] <;> ((try simp only [sh1, sh2, sh3, sh4, sh5] at *) <;> (simp only [lj_15, lj_31, true_or, or_true, false_or, or_false, true_and, and_true, false_and, and_false, not_true_eq_false, not_false_eq_true, i_lt, i_le, i_eq, j_lt, j_le, j_eq, Int32.toInt_toInt64, li_0, lj_0, li_1, lj_1, li_2, lj_2, li_3, lj_3, li_4, lj_4, li_5, lj_5, li_6, lj_6, li_7, lj_7, li_8, lj_8, li_10, lj_10, li_11, lj_11, li_12, lj_12, li_24, lj_24, li_25, lj_25, li_50, lj_50, li_130, lj_130, li_160, lj_160, li_800, lj_800, li_4000, lj_4000, li_10000, lj_10000, li_16384, lj_16384, li_26, lj_26, li_32, lj_32, li_48, lj_48, li_57, lj_57, li_59, lj_59, li_97, lj_97, li_99, lj_99, li_122, lj_122, li_m1, lj_m1, li_m2, lj_m2, li_m3, lj_m3, li_m4, lj_m4, li_m5, lj_m5, li_m6, lj_m6] at * <;> omega)))
theorem lf_c_M_reader_5 (t : Int32) (j : Nat) (h_27 : 0 ≤ t.toInt64 ∧ t.toInt64 ≤ 7) (hj : j ≤ 50) (c_32 : 25 ≤ (nI j)) : (1 : Int32) = sp_reader 0 3 t := by (unfold sp_reader; rw [if_pos, if_neg] <;> ((try simp only [sh1, sh2, sh3, sh4, sh5] at *) <;> (simp only [lj_15, lj_31, true_or, or_true, false_or, or_false, true_and, and_true, false_and, and_false, not_true_eq_false, not_false_eq_true, i_lt, i_le, i_eq, j_lt, j_le, j_eq, Int32.toInt_toInt64, li_0, lj_0, li_1, lj_1, li_2, lj_2, li_3, lj_3, li_4, lj_4, li_5, lj_5, li_6, lj_6, li_7, lj_7, li_8, lj_8, li_10, lj_10, li_11, lj_11, li_12, lj_12, li_24, lj_24, li_25, lj_25, li_50, lj_50, li_130, lj_130, li_160, lj_160, li_800, lj_800, li_4000, lj_4000, li_10000, lj_10000, li_16384, lj_16384, li_26, lj_26, li_32, lj_32, li_48, lj_48, li_57, lj_57, li_59, lj_59, li_97, lj_97, li_99, lj_99, li_122, lj_122, li_m1, lj_m1, li_m2, lj_m2, li_m3, lj_m3, li_m4, lj_m4, li_m5, lj_m5, li_m6, lj_m6] at * <;> omega)))
theorem lf_c_M_reader_6 (t : Int32) (h_28 : ¬ (0 ≤ t.toInt64 ∧ t.toInt64 ≤ 7)) : ((-3) : Int32) = sp_reader 0 3 t := by (unfold sp_reader; rw [if_pos, if_pos] <;> ((try simp only [sh1, sh2, sh3, sh4, sh5] at *) <;> (simp only [lj_15, lj_31, true_or, or_true, false_or, or_false, true_and, and_true, false_and, and_false, not_true_eq_false, not_false_eq_true, i_lt, i_le, i_eq, j_lt, j_le, j_eq, Int32.toInt_toInt64, li_0, lj_0, li_1, lj_1, li_2, lj_2, li_3, lj_3, li_4, lj_4, li_5, lj_5, li_6, lj_6, li_7, lj_7, li_8, lj_8, li_10, lj_10, li_11, lj_11, li_12, lj_12, li_24, lj_24, li_25, lj_25, li_50, lj_50, li_130, lj_130, li_160, lj_160, li_800, lj_800, li_4000, lj_4000, li_10000, lj_10000, li_16384, lj_16384, li_26, lj_26, li_32, lj_32, li_48, lj_48, li_57, lj_57, li_59, lj_59, li_97, lj_97, li_99, lj_99, li_122, lj_122, li_m1, lj_m1, li_m2, lj_m2, li_m3, lj_m3, li_m4, lj_m4, li_m5, lj_m5, li_m6, lj_m6] at * <;> omega)))
theorem lf_c_M_reader_7 (t : Int32) (j : Nat) (h_35 : 0 ≤ t.toInt64 ∧ t.toInt64 ≤ 15) (hj : j ≤ 50) (c_40 : 25 ≤ (nI j)) : (1 : Int32) = sp_reader 0 4 t := by (unfold sp_reader; rw [if_pos, if_neg] <;> ((try simp only [sh1, sh2, sh3, sh4, sh5] at *) <;> (simp only [lj_15, lj_31, true_or, or_true, false_or, or_false, true_and, and_true, false_and, and_false, not_true_eq_false, not_false_eq_true, i_lt, i_le, i_eq, j_lt, j_le, j_eq, Int32.toInt_toInt64, li_0, lj_0, li_1, lj_1, li_2, lj_2, li_3, lj_3, li_4, lj_4, li_5, lj_5, li_6, lj_6, li_7, lj_7, li_8, lj_8, li_10, lj_10, li_11, lj_11, li_12, lj_12, li_24, lj_24, li_25, lj_25, li_50, lj_50, li_130, lj_130, li_160, lj_160, li_800, lj_800, li_4000, lj_4000, li_10000, lj_10000, li_16384, lj_16384, li_26, lj_26, li_32, lj_32, li_48, lj_48, li_57, lj_57, li_59, lj_59, li_97, lj_97, li_99, lj_99, li_122, lj_122, li_m1, lj_m1, li_m2, lj_m2, li_m3, lj_m3, li_m4, lj_m4, li_m5, lj_m5, li_m6, lj_m6] at * <;> omega)))
theorem lf_c_M_reader_8 (t : Int32) (h_36 : ¬ (0 ≤ t.toInt64 ∧ t.toInt64 ≤ 15)) : ((-3) : Int32) = sp_reader 0 4 t := by (unfold sp_reader; rw [if_pos, if_pos] <;> ((try simp only [sh1, sh2, sh3, sh4, sh5] at *) <;> (simp only [lj_15, lj_31, true_or, or_true, false_or, or_false, true_and, and_true, false_and, and_false, not_true_eq_false, not_false_eq_true, i_lt, i_le, i_eq, j_lt, j_le, j_eq, Int32.toInt_toInt64, li_0, lj_0, li_1, lj_1, li_2, lj_2, li_3, lj_3, li_4, lj_4, li_5, lj_5, li_6, lj_6, li_7, lj_7, li_8, lj_8, li_10, lj_10, li_11, lj_11, li_12, lj_12, li_24, lj_24, li_25, lj_25, li_50, lj_50, li_130, lj_130, li_160, lj_160, li_800, lj_800, li_4000, lj_4000, li_10000, lj_10000, li_16384, lj_16384, li_26, lj_26, li_32, lj_32, li_48, lj_48, li_57, lj_57, li_59, lj_59, li_97, lj_97, li_99, lj_99, li_122, lj_122, li_m1, lj_m1, li_m2, lj_m2, li_m3, lj_m3, li_m4, lj_m4, li_m5, lj_m5, li_m6, lj_m6] at * <;> omega)))
theorem lf_c_M_reader_9 (t : Int32) (j : Nat) (h_43 : 0 ≤ t.toInt64 ∧ t.toInt64 ≤ 31) (hj : j ≤ 50) (c_48 : 25 ≤ (nI j)) : (1 : Int32) = sp_reader 0 5 t := by (unfold sp_reader; rw [if_pos, if_neg] <;> ((try simp only [sh1, sh2, sh3, sh4, sh5] at *) <;> (simp only [lj_15, lj_31, true_or, or_true, false_or, or_false, true_and, and_true, false_and, and_false, not_true_eq_false, not_false_eq_true, i_lt, i_le, i_eq, j_lt, j_le, j_eq, Int32.toInt_toInt64, li_0, lj_0, li_1, lj_1, li_2, lj_2, li_3, lj_3, li_4, lj_4, li_5, lj_5, li_6, lj_6, li_7, lj_7, li_8, lj_8, li_10, lj_10, li_11, lj_11, li_12, lj_12, li_24, lj_24, li_25, lj_25, li_50, lj_50, li_130, lj_130, li_160, lj_160, li_800, lj_800, li_4000, lj_4000, li_10000, lj_10000, li_16384, lj_16384, li_26, lj_26, li_32, lj_32, li_48, lj_48, li_57, lj_57, li_59, lj_59, li_97, lj_97, li_99, lj_99, li_122, lj_122, li_m1, lj_m1, li_m2, lj_m2, li_m3, lj_m3, li_m4, lj_m4, li_m5, lj_m5, li_m6, lj_m6] at * <;> omega)))
theorem lf_c_M_reader_10 (t : Int32) (h_44 : ¬ (0 ≤ t.toInt64 ∧ t.toInt64 ≤ 31)) : ((-3) : Int32) = sp_reader 0 5 t := by (unfold sp_reader; rw [if_pos, if_pos] <;> ((try simp only [sh1, sh2, sh3, sh4, sh5] at *) <;> (simp only [lj_15, lj_31, true_or, or_true, false_or, or_false, true_and, and_true, false_and, and_false, not_true_eq_false, not_false_eq_true, i_lt, i_le, i_eq, j_lt, j_le, j_eq, Int32.toInt_toInt64, li_0, lj_0, li_1, lj_1, li_2, lj_2, li_3, lj_3, li_4, lj_4, li_5, lj_5, li_6, lj_6, li_7, lj_7, li_8, lj_8, li_10, lj_10, li_11, lj_11, li_12, lj_12, li_24, lj_24, li_25, lj_25, li_50, lj_50, li_130, lj_130, li_160, lj_160, li_800, lj_800, li_4000, lj_4000, li_10000, lj_10000, li_16384, lj_16384, li_26, lj_26, li_32, lj_32, li_48, lj_48, li_57, lj_57, li_59, lj_59, li_97, lj_97, li_99, lj_99, li_122, lj_122, li_m1, lj_m1, li_m2, lj_m2, li_m3, lj_m3, li_m4, lj_m4, li_m5, lj_m5, li_m6, lj_m6] at * <;> omega)))
theorem lf_c_M_reader_11 (n : Int32) (t : Int32) (h_8 : ¬ (1 ≤ n.toInt64 ∧ n.toInt64 ≤ 5)) : ((-3) : Int32) = sp_reader 0 n t := by (unfold sp_reader; rw [if_pos, if_pos] <;> ((try simp only [sh1, sh2, sh3, sh4, sh5] at *) <;> (simp only [lj_15, lj_31, true_or, or_true, false_or, or_false, true_and, and_true, false_and, and_false, not_true_eq_false, not_false_eq_true, i_lt, i_le, i_eq, j_lt, j_le, j_eq, Int32.toInt_toInt64, li_0, lj_0, li_1, lj_1, li_2, lj_2, li_3, lj_3, li_4, lj_4, li_5, lj_5, li_6, lj_6, li_7, lj_7, li_8, lj_8, li_10, lj_10, li_11, lj_11, li_12, lj_12, li_24, lj_24, li_25, lj_25, li_50, lj_50, li_130, lj_130, li_160, lj_160, li_800, lj_800, li_4000, lj_4000, li_10000, lj_10000, li_16384, lj_16384, li_26, lj_26, li_32, lj_32, li_48, lj_48, li_57, lj_57, li_59, lj_59, li_97, lj_97, li_99, lj_99, li_122, lj_122, li_m1, lj_m1, li_m2, lj_m2, li_m3, lj_m3, li_m4, lj_m4, li_m5, lj_m5, li_m6, lj_m6] at * <;> omega)))
theorem lf_c_M_reader_12 (n : Int32) (h_51 : 1 ≤ n.toInt64 ∧ n.toInt64 ≤ 5) : n = 1 ∨ n = 2 ∨ n = 3 ∨ n = 4 ∨ n = 5 := by (simp only [true_or, or_true, false_or, or_false, true_and, and_true, false_and, and_false, not_true_eq_false, not_false_eq_true, i_lt, i_le, i_eq, j_lt, j_le, j_eq, Int32.toInt_toInt64, li_0, lj_0, li_1, lj_1, li_2, lj_2, li_3, lj_3, li_4, lj_4, li_5, lj_5, li_6, lj_6, li_7, lj_7, li_8, lj_8, li_10, lj_10, li_11, lj_11, li_12, lj_12, li_24, lj_24, li_25, lj_25, li_50, lj_50, li_130, lj_130, li_160, lj_160, li_800, lj_800, li_4000, lj_4000, li_10000, lj_10000, li_16384, lj_16384, li_26, lj_26, li_32, lj_32, li_48, lj_48, li_57, lj_57, li_59, lj_59, li_97, lj_97, li_99, lj_99, li_122, lj_122, li_m1, lj_m1, li_m2, lj_m2, li_m3, lj_m3, li_m4, lj_m4, li_m5, lj_m5, li_m6, lj_m6] at * <;> omega)
theorem lf_c_M_reader_13 (t : Int32) (j : Nat) (h_55 : 0 ≤ t.toInt64 ∧ t.toInt64 ≤ 1) (hj : j ≤ 50) (c_60 : 50 ≤ (nI j)) : (1 : Int32) = sp_reader 1 1 t := by (unfold sp_reader; rw [if_pos, if_neg] <;> ((try simp only [sh1, sh2, sh3, sh4, sh5] at *) <;> (simp only [lj_15, lj_31, true_or, or_true, false_or, or_false, true_and, and_true, false_and, and_false, not_true_eq_false, not_false_eq_true, i_lt, i_le, i_eq, j_lt, j_le, j_eq, Int32.toInt_toInt64, li_0, lj_0, li_1, lj_1, li_2, lj_2, li_3, lj_3, li_4, lj_4, li_5, lj_5, li_6, lj_6, li_7, lj_7, li_8, lj_8, li_10, lj_10, li_11, lj_11, li_12, lj_12, li_24, lj_24, li_25, lj_25, li_50, lj_50, li_130, lj_130, li_160, lj_160, li_800, lj_800, li_4000, lj_4000, li_10000, lj_10000, li_16384, lj_16384, li_26, lj_26, li_32, lj_32, li_48, lj_48, li_57, lj_57, li_59, lj_59, li_97, lj_97, li_99, lj_99, li_122, lj_122, li_m1, lj_m1, li_m2, lj_m2, li_m3, lj_m3, li_m4, lj_m4, li_m5, lj_m5, li_m6, lj_m6] at * <;> omega)))
theorem lf_c_M_reader_14 (t : Int32) (h_56 : ¬ (0 ≤ t.toInt64 ∧ t.toInt64 ≤ 1)) : ((-3) : Int32) = sp_reader 1 1 t := by (unfold sp_reader; rw [if_pos, if_pos] <;> ((try simp only [sh1, sh2, sh3, sh4, sh5] at *) <;> (simp only [lj_15, lj_31, true_or, or_true, false_or, or_false, true_and, and_true, false_and, and_false, not_true_eq_false, not_false_eq_true, i_lt, i_le, i_eq, j_lt, j_le, j_eq, Int32.toInt_toInt64, li_0, lj_0, li_1, lj_1, li_2, lj_2, li_3, lj_3, li_4, lj_4, li_5, lj_5, li_6, lj_6, li_7, lj_7, li_8, lj_8, li_10, lj_10, li_11, lj_11, li_12, lj_12, li_24, lj_24, li_25, lj_25, li_50, lj_50, li_130, lj_130, li_160, lj_160, li_800, lj_800, li_4000, lj_4000, li_10000, lj_10000, li_16384, lj_16384, li_26, lj_26, li_32, lj_32, li_48, lj_48, li_57, lj_57, li_59, lj_59, li_97, lj_97, li_99, lj_99, li_122, lj_122, li_m1, lj_m1, li_m2, lj_m2, li_m3, lj_m3, li_m4, lj_m4, li_m5, lj_m5, li_m6, lj_m6] at * <;> omega)))
theorem lf_c_M_reader_15 (t : Int32) (j : Nat) (h_63 : 0 ≤ t.toInt64 ∧ t.toInt64 ≤ 3) (hj : j ≤ 50) (c_68 : 50 ≤ (nI j)) : (1 : Int32) = sp_reader 1 2 t := by (unfold sp_reader; rw [if_pos, if_neg] <;> ((try simp only [sh1, sh2, sh3, sh4, sh5] at *) <;> (simp only [lj_15, lj_31, true_or, or_true, false_or, or_false, true_and, and_true, false_and, and_false, not_true_eq_false, not_false_eq_true, i_lt, i_le, i_eq, j_lt, j_le, j_eq, Int32.toInt_toInt64, li_0, lj_0, li_1, lj_1, li_2, lj_2, li_3, lj_3, li_4, lj_4, li_5, lj_5, li_6, lj_6, li_7, lj_7, li_8, lj_8, li_10, lj_10, li_11, lj_11, li_12, lj_12, li_24, lj_24, li_25, lj_25, li_50, lj_50, li_130, lj_130, li_160, lj_160, li_800, lj_800, li_4000, lj_4000, li_10000, lj_10000, li_16384, lj_16384, li_26, lj_26, li_32, lj_32, li_48, lj_48, li_57, lj_57, li_59, lj_59, li_97, lj_97, li_99, lj_99, li_122, lj_122, li_m1, lj_m1, li_m2, lj_m2, li_m3, lj_m3, li_m4, lj_m4, li_m5, lj_m5, li_m6, lj_m6] at * <;> omega)))
theorem lf_c_M_reader_16 (t : Int32) (h_64 : ¬ (0 ≤ t.toInt64 ∧ t.toInt64 ≤ 3)) : ((-3) : Int32) = sp_reader 1 2 t := by (unfold sp_reader; rw [if_pos, if_pos] <;> ((try simp only [sh1, sh2, sh3, sh4, sh5] at *) <;> (simp only [lj_15, lj_31, true_or, or_true, false_or, or_false, true_and, and_true, false_and, and_false, not_true_eq_false, not_false_eq_true, i_lt, i_le, i_eq, j_lt, j_le, j_eq, Int32.toInt_toInt64, li_0, lj_0, li_1, lj_1, li_2, lj_2, li_3, lj_3, li_4, lj_4, li_5, lj_5, li_6, lj_6, li_7, lj_7, li_8, lj_8, li_10, lj_10, li_11, lj_11, li_12, lj_12, li_24, lj_24, li_25, lj_25, li_50, lj_50, li_130, lj_130, li_160, lj_160, li_800, lj_800, li_4000, lj_4000, li_10000, lj_10000, li_16384, lj_16384, li_26, lj_26, li_32, lj_32, li_48, lj_48, li_57, lj_57, li_59, lj_59, li_97, lj_97, li_99, lj_99, li_122, lj_122, li_m1, lj_m1, li_m2, lj_m2, li_m3, lj_m3, li_m4, lj_m4, li_m5, lj_m5, li_m6, lj_m6] at * <;> omega)))
theorem lf_c_M_reader_17 (t : Int32) (j : Nat) (h_71 : 0 ≤ t.toInt64 ∧ t.toInt64 ≤ 7) (hj : j ≤ 50) (c_76 : 50 ≤ (nI j)) : (1 : Int32) = sp_reader 1 3 t := by (unfold sp_reader; rw [if_pos, if_neg] <;> ((try simp only [sh1, sh2, sh3, sh4, sh5] at *) <;> (simp only [lj_15, lj_31, true_or, or_true, false_or, or_false, true_and, and_true, false_and, and_false, not_true_eq_false, not_false_eq_true, i_lt, i_le, i_eq, j_lt, j_le, j_eq, Int32.toInt_toInt64, li_0, lj_0, li_1, lj_1, li_2, lj_2, li_3, lj_3, li_4, lj_4, li_5, lj_5, li_6, lj_6, li_7, lj_7, li_8, lj_8, li_10, lj_10, li_11, lj_11, li_12, lj_12, li_24, lj_24, li_25, lj_25, li_50, lj_50, li_130, lj_130, li_160, lj_160, li_800, lj_800, li_4000, lj_4000, li_10000, lj_10000, li_16384, lj_16384, li_26, lj_26, li_32, lj_32, li_48, lj_48, li_57, lj_57, li_59, lj_59, li_97, lj_97, li_99, lj_99, li_122, lj_122, li_m1, lj_m1, li_m2, lj_m2, li_m3, lj_m3, li_m4, lj_m4, li_m5, lj_m5, li_m6, lj_m6] at * <;> omega)))
theorem lf_c_M_reader_18 (t : Int32) (h_72 : ¬ (0 ≤ t.toInt64 ∧ t.toInt64 ≤ 7)) : ((-3) : Int32) = sp_reader 1 3 t := by (unfold sp_reader; rw [if_pos, if_pos] <;> ((try simp only [sh1, sh2, sh3, sh4, sh5] at *) <;> (simp only [lj_15, lj_31, true_or, or_true, false_or, or_false, true_and, and_true, false_and, and_false, not_true_eq_false, not_false_eq_true, i_lt, i_le, i_eq, j_lt, j_le, j_eq, Int32.toInt_toInt64, li_0, lj_0, li_1, lj_1, li_2, lj_2, li_3, lj_3, li_4, lj_4, li_5, lj_5, li_6, lj_6, li_7, lj_7, li_8, lj_8, li_10, lj_10, li_11, lj_11, li_12, lj_12, li_24, lj_24, li_25, lj_25, li_50, lj_50, li_130, lj_130, li_160, lj_160, li_800, lj_800, li_4000, lj_4000, li_10000, lj_10000, li_16384, lj_16384, li_26, lj_26, li_32, lj_32, li_48, lj_48, li_57, lj_57, li_59, lj_59, li_97, lj_97, li_99, lj_99, li_122, lj_122, li_m1, lj_m1, li_m2, lj_m2, li_m3, lj_m3, li_m4, lj_m4, li_m5, lj_m5, li_m6, lj_m6] at * <;> omega)))
theorem lf_c_M_reader_19 (t : Int32) (j : Nat) (h_79 : 0 ≤ t.toInt64 ∧ t.toInt64 ≤ 15) (hj : j ≤ 50) (c_84 : 50 ≤ (nI j)) : (1 : Int32) = sp_reader 1 4 t := by (unfold sp_reader; rw [if_pos, if_neg] <;> ((try simp only [sh1, sh2, sh3, sh4, sh5] at *) <;> (simp only [lj_15, lj_31, true_or, or_true, false_or, or_false, true_and, and_true, false_and, and_false, not_true_eq_false, not_false_eq_true, i_lt, i_le, i_eq, j_lt, j_le, j_eq, Int32.toInt_toInt64, li_0, lj_0, li_1, lj_1, li_2, lj_2, li_3, lj_3, li_4, lj_4, li_5, lj_5, li_6, lj_6, li_7, lj_7, li_8, lj_8, li_10, lj_10, li_11, lj_11, li_12, lj_12, li_24, lj_24, li_25, lj_25, li_50, lj_50, li_130, lj_130, li_160, lj_160, li_800, lj_800, li_4000, lj_4000, li_10000, lj_10000, li_16384, lj_16384, li_26, lj_26, li_32, lj_32, li_48, lj_48, li_57, lj_57, li_59, lj_59, li_97, lj_97, li_99, lj_99, li_122, lj_122, li_m1, lj_m1, li_m2, lj_m2, li_m3, lj_m3, li_m4, lj_m4, li_m5, lj_m5, li_m6, lj_m6] at * <;> omega)))
theorem lf_c_M_reader_20 (t : Int32) (h_80 : ¬ (0 ≤ t.toInt64 ∧ t.toInt64 ≤ 15)) : ((-3) : Int32) = sp_reader 1 4 t := by (unfold sp_reader; rw [if_pos, if_pos] <;> ((try simp only [sh1, sh2, sh3, sh4, sh5] at *) <;> (simp only [lj_15, lj_31, true_or, or_true, false_or, or_false, true_and, and_true, false_and, and_false, not_true_eq_false, not_false_eq_true, i_lt, i_le, i_eq, j_lt, j_le, j_eq, Int32.toInt_toInt64, li_0, lj_0, li_1, lj_1, li_2, lj_2, li_3, lj_3, li_4, lj_4, li_5, lj_5, li_6, lj_6, li_7, lj_7, li_8, lj_8, li_10, lj_10, li_11, lj_11, li_12, lj_12, li_24, lj_24, li_25, lj_25, li_50, lj_50, li_130, lj_130, li_160, lj_160, li_800, lj_800, li_4000, lj_4000, li_10000, lj_10000, li_16384, lj_16384, li_26, lj_26, li_32, lj_32, li_48, lj_48, li_57, lj_57, li_59, lj_59, li_97, lj_97, li_99, lj_99, li_122, lj_122, li_m1, lj_m1, li_m2, lj_m2, li_m3, lj_m3, li_m4, lj_m4, li_m5, lj_m5, li_m6, lj_m6] at * <;> omega)))
theorem lf_c_M_reader_21 (t : Int32) (j : Nat) (h_87 : 0 ≤ t.toInt64 ∧ t.toInt64 ≤ 31) (hj : j ≤ 50) (c_92 : 50 ≤ (nI j)) : (1 : Int32) = sp_reader 1 5 t := by (unfold sp_reader; rw [if_pos, if_neg] <;> ((try simp only [sh1, sh2, sh3, sh4, sh5] at *) <;> (simp only [lj_15, lj_31, true_or, or_true, false_or, or_false, true_and, and_true, false_and, and_false, not_true_eq_false, not_false_eq_true, i_lt, i_le, i_eq, j_lt, j_le, j_eq, Int32.toInt_toInt64, li_0, lj_0, li_1, lj_1, li_2, lj_2, li_3, lj_3, li_4, lj_4, li_5, lj_5, li_6, lj_6, li_7, lj_7, li_8, lj_8, li_10, lj_10, li_11, lj_11, li_12, lj_12, li_24, lj_24, li_25, lj_25, li_50, lj_50, li_130, lj_130, li_160, lj_160, li_800, lj_800, li_4000, lj_4000, li_10000, lj_10000, li_16384, lj_16384, li_26, lj_26, li_32, lj_32, li_48, lj_48, li_57, lj_57, li_59, lj_59, li_97, lj_97, li_99, lj_99, li_122, lj_122, li_m1, lj_m1, li_m2, lj_m2, li_m3, lj_m3, li_m4, lj_m4, li_m5, lj_m5, li_m6, lj_m6] at * <;> omega)))
theorem lf_c_M_reader_22 (t : Int32) (h_88 : ¬ (0 ≤ t.toInt64 ∧ t.toInt64 ≤ 31)) : ((-3) : Int32) = sp_reader 1 5 t := by (unfold sp_reader; rw [if_pos, if_pos] <;> ((try simp only [sh1, sh2, sh3, sh4, sh5] at *) <;> (simp only [lj_15, lj_31, true_or, or_true, false_or, or_false, true_and, and_true, false_and, and_false, not_true_eq_false, not_false_eq_true, i_lt, i_le, i_eq, j_lt, j_le, j_eq, Int32.toInt_toInt64, li_0, lj_0, li_1, lj_1, li_2, lj_2, li_3, lj_3, li_4, lj_4, li_5, lj_5, li_6, lj_6, li_7, lj_7, li_8, lj_8, li_10, lj_10, li_11, lj_11, li_12, lj_12, li_24, lj_24, li_25, lj_25, li_50, lj_50, li_130, lj_130, li_160, lj_160, li_800, lj_800, li_4000, lj_4000, li_10000, lj_10000, li_16384, lj_16384, li_26, lj_26, li_32, lj_32, li_48, lj_48, li_57, lj_57, li_59, lj_59, li_97, lj_97, li_99, lj_99, li_122, lj_122, li_m1, lj_m1, li_m2, lj_m2, li_m3, lj_m3, li_m4, lj_m4, li_m5, lj_m5, li_m6, lj_m6] at * <;> omega)))
theorem lf_c_M_reader_23 (n : Int32) (t : Int32) (h_52 : ¬ (1 ≤ n.toInt64 ∧ n.toInt64 ≤ 5)) : ((-3) : Int32) = sp_reader 1 n t := by (unfold sp_reader; rw [if_pos, if_pos] <;> ((try simp only [sh1, sh2, sh3, sh4, sh5] at *) <;> (simp only [lj_15, lj_31, true_or, or_true, false_or, or_false, true_and, and_true, false_and, and_false, not_true_eq_false, not_false_eq_true, i_lt, i_le, i_eq, j_lt, j_le, j_eq, Int32.toInt_toInt64, li_0, lj_0, li_1, lj_1, li_2, lj_2, li_3, lj_3, li_4, lj_4, li_5, lj_5, li_6, lj_6, li_7, lj_7, li_8, lj_8, li_10, lj_10, li_11, lj_11, li_12, lj_12, li_24, lj_24, li_25, lj_25, li_50, lj_50, li_130, lj_130, li_160, lj_160, li_800, lj_800, li_4000, lj_4000, li_10000, lj_10000, li_16384, lj_16384, li_26, lj_26, li_32, lj_32, li_48, lj_48, li_57, lj_57, li_59, lj_59, li_97, lj_97, li_99, lj_99, li_122, lj_122, li_m1, lj_m1, li_m2, lj_m2, li_m3, lj_m3, li_m4, lj_m4, li_m5, lj_m5, li_m6, lj_m6] at * <;> omega)))
theorem lf_c_M_reader_24 (x : Int32) (n : Int32) (t : Int32) (h_4 : ¬ (x = 0 ∨ x = 1)) : ((-2) : Int32) = sp_reader x n t := by (unfold sp_reader; rw [if_neg] <;> ((try simp only [sh1, sh2, sh3, sh4, sh5] at *) <;> (simp only [lj_15, lj_31, true_or, or_true, false_or, or_false, true_and, and_true, false_and, and_false, not_true_eq_false, not_false_eq_true, i_lt, i_le, i_eq, j_lt, j_le, j_eq, Int32.toInt_toInt64, li_0, lj_0, li_1, lj_1, li_2, lj_2, li_3, lj_3, li_4, lj_4, li_5, lj_5, li_6, lj_6, li_7, lj_7, li_8, lj_8, li_10, lj_10, li_11, lj_11, li_12, lj_12, li_24, lj_24, li_25, lj_25, li_50, lj_50, li_130, lj_130, li_160, lj_160, li_800, lj_800, li_4000, lj_4000, li_10000, lj_10000, li_16384, lj_16384, li_26, lj_26, li_32, lj_32, li_48, lj_48, li_57, lj_57, li_59, lj_59, li_97, lj_97, li_99, lj_99, li_122, lj_122, li_m1, lj_m1, li_m2, lj_m2, li_m3, lj_m3, li_m4, lj_m4, li_m5, lj_m5, li_m6, lj_m6] at * <;> omega)))
set_option maxHeartbeats 4000000 in
set_option maxRecDepth 100000 in
theorem c_M_reader (l : Launch) (g : va_G) (cT : Nat → ClassId) (sz : Nat) (y : Nat) (qq : Nat → Nat) (z6 : Int32) (z12 : Int32) (z14 : Int32) (z15 : Int32) (z16 : Int32) (z17 : Int32) (z19 : Int32) (z21 : Int32) (z22 : Int32) (z23 : Int32) (z24 : Int32) (z26 : Int32) (z30 : Int32) (x : Int32) (n : Int32) (t : Int32)  : Ctr l g cT sz yX12_reader wsX12_reader rm_c_M_reader [.ref y, .int x, .int n, .int t] [(y, .inr (12, [.ref (qq 0), .ref (qq 1), .ref (qq 2), .ref (qq 3), .ref (qq 4), .ref (qq 5), .int z6, .ref (qq 7), .ref (qq 8), .ref (qq 9), .ref (qq 10), .ref (qq 11), .int z12, .ref (qq 13), .int z14, .int z15, .int z16, .int z17, .ref (qq 18), .int z19, .ref (qq 20), .int z21, .int z22, .int z23, .int z24, .ref (qq 25), .int z26, .ref (qq 27), .ref (qq 28), .ref (qq 29), .int z30, .ref (qq 31), .ref (qq 32), .ref (qq 33), .ref (qq 34), .ref (qq 35), .ref (qq 36), .ref (qq 37), .ref (qq 38), .ref (qq 39), .ref (qq 40), .ref (qq 41), .ref (qq 42)])), ((qq 0), .inl (cT 0, 2, .inl (fun _ => 1))), ((qq 1), .inl (cT 0, 2, .inl (fun _ => 0))), ((qq 2), .inl (cT 0, 50, .inl (fun _ => (-1))))] (QI g (fun (r : Int32) (u : Unit) => r = sp_reader x n t) (fun (u : Unit) => [])) 0 0 := by
  refine mk_ctr (cc := cX12_reader) (maxL := 5) (ret := (some .int)) (by decide) rfl (Nat.le_of_ble_eq_true rfl) ?_
  intro p e s m args below meth c A Q hx hb hr hts hown hlocks hin hml hP hK hD hN hZ hA hS hQ ls hl
  have hl : lv_has ls 5 [(0, .ref y), (1, .int x), (2, .int n), (3, .int t)] := hl
  obtain ⟨H, hH⟩ : ∃ H : Heap, H = s.heap := ⟨_, rfl⟩
  obtain ⟨locs, hlo⟩ : ∃ x : List Loc, x = [] := ⟨_, rfl⟩
  rw [← hH] at hP
  have hS : va_S A s.heap H locs := by rw [hH, hlo]; exact hS
  have hgo : W p l e rm_c_M_reader s m args below meth c H locs 0 0 Q (F0 m 0 ls []) := by
    clear hH hlo
    refine lv_iload_n hx hb dX12_reader_0 rfl (lv_at hl 1 rfl) ?_
    refine cp_i (va_runS (As := [.int x]) (rest := []) ⟨hx, hb, hml, hown, hts⟩ (c_M_isReader l g cT H.size x) (va_cwS 1 hts gX12_reader_X12_isReader rfl rfl rfl yd_X12_isReader.2 ⟨(Nat.le_of_ble_eq_true rfl), (Nat.le_of_ble_eq_true rfl)⟩) (preS (ws := []) (wc := []) rfl (fun _ _ h => by simp at h) (va_D_nil (A := A)) hK hN hZ hS hA [] rfl rfl) rfl rfl hl.1 rfl (lv_room (Nat.le_of_ble_eq_true rfl)) dX12_reader_1 ⟨(Nat.le_of_ble_eq_true rfl), (Nat.le_of_ble_eq_true rfl)⟩) hP hS hA (fun r_1 u H locs h_2 hP hS => ?_)
    rcases h_2 with ⟨rfl, h_3⟩ | ⟨rfl, h_4⟩
    · skip
      rcases h_3 with rfl | rfl
      · skip
        refine if_ne_t hx hb 10 dX12_reader_4 (by decide) (by decide) ?_
        refine lv_iload_n hx hb dX12_reader_10 rfl (lv_at hl 2 rfl) ?_
        refine lv_i2l (v := n.toInt64) hx hb dX12_reader_11 rfl ?_
        refine lv_lconst (v := 1) hx hb dX12_reader_12 (by decide) ?_
        refine lv_ldc2 (v := 5) hx hb hown (hts (.constantLong RX12 110 (5)) (by decide +kernel)) dX12_reader_13 ?_
        refine cp_i (va_runS (As := [.long n.toInt64, .long 1, .long 5]) (rest := []) ⟨hx, hb, hml, hown, hts⟩ (c_M_in l g cT H.size n.toInt64 1 5) (va_cwS 3 hts gX12_reader_X12_in rfl rfl rfl yd_X12_in.2 ⟨(Nat.le_of_ble_eq_true rfl), (Nat.le_of_ble_eq_true rfl)⟩) (preS (ws := []) (wc := []) rfl (fun _ _ h => by simp at h) (va_D_nil (A := A)) hK hN hZ hS hA [] rfl rfl) rfl rfl hl.1 rfl (lv_room (Nat.le_of_ble_eq_true rfl)) dX12_reader_16 ⟨(Nat.le_of_ble_eq_true rfl), (Nat.le_of_ble_eq_true rfl)⟩) hP hS hA (fun r_5 u H locs h_6 hP hS => ?_)
        rcases h_6 with ⟨rfl, h_7⟩ | ⟨rfl, h_8⟩
        · skip
          rcases (lf_c_M_reader_0 n h_7) with rfl | rfl | rfl | rfl | rfl
          · skip
            refine if_eq_f hx hb dX12_reader_19 37 (by decide) (by decide) ?_
            refine lv_iload_n hx hb dX12_reader_22 rfl (lv_at hl 3 rfl) ?_
            refine lv_i2l (v := t.toInt64) hx hb dX12_reader_23 rfl ?_
            refine lv_lconst (v := 0) hx hb dX12_reader_24 (by decide) ?_
            refine lv_iconst (v := 1) hx hb dX12_reader_25 (by decide) ?_
            refine lv_iload_n hx hb dX12_reader_26 rfl (lv_at hl 2 rfl) ?_
            refine w_ishl (v := 2) hx hb dX12_reader_27 (by decide) ?_
            refine lv_iconst (v := 1) hx hb dX12_reader_28 (by decide) ?_
            refine w_isub (v := 1) hx hb dX12_reader_29 (by decide) ?_
            refine lv_i2l (v := 1) hx hb dX12_reader_30 (by decide) ?_
            refine cp_i (va_runS (As := [.long t.toInt64, .long 0, .long 1]) (rest := []) ⟨hx, hb, hml, hown, hts⟩ (c_M_in l g cT H.size t.toInt64 0 1) (va_cwS 3 hts gX12_reader_X12_in rfl rfl rfl yd_X12_in.2 ⟨(Nat.le_of_ble_eq_true rfl), (Nat.le_of_ble_eq_true rfl)⟩) (preS (ws := []) (wc := []) rfl (fun _ _ h => by simp at h) (va_D_nil (A := A)) hK hN hZ hS hA [] rfl rfl) rfl rfl hl.1 rfl (lv_room (Nat.le_of_ble_eq_true rfl)) dX12_reader_31 ⟨(Nat.le_of_ble_eq_true rfl), (Nat.le_of_ble_eq_true rfl)⟩) hP hS hA (fun r_9 u H locs h_10 hP hS => ?_)
            rcases h_10 with ⟨rfl, h_11⟩ | ⟨rfl, h_12⟩
            · skip
              refine if_ne_t hx hb 40 dX12_reader_34 (by decide) (by decide) ?_
              refine lv_aload_n hx hb dX12_reader_40 rfl (lv_at hl 0 rfl) ?_
              refine va_get (C := RX12) (T := TX12) (N := 43) (v := .ref (qq 0)) hx hb hts hi_X12_reader_X12 hown hK hP 0 rfl rfl 0 (by decide) (hts (.fieldLink RX12 7 "BothWaysModel" "states" "[I") (by decide +kernel)) (fun _ h => h) rfl dX12_reader_41 ?_
              refine lv_iload_n hx hb dX12_reader_44 rfl (lv_at hl 1 rfl) ?_
              refine lv_iload_n hx hb dX12_reader_45 rfl (lv_at hl 2 rfl) ?_
              obtain ⟨f_13, ef_13⟩ : ∃ z, z = upd (fun _ => 1) (0 : Int32).toNatClampNeg 1 := ⟨_, rfl⟩
              refine w_iast (f' := f_13) hx hb hK hP hD hS 1 rfl dX12_reader_46 (inC (by decide)) ef_13.symm (fun H locs hP hD hS => ?_)
              have hP : va_P g vwCl [(y, .inr (12, [.ref (qq 0), .ref (qq 1), .ref (qq 2), .ref (qq 3), .ref (qq 4), .ref (qq 5), .int z6, .ref (qq 7), .ref (qq 8), .ref (qq 9), .ref (qq 10), .ref (qq 11), .int z12, .ref (qq 13), .int z14, .int z15, .int z16, .int z17, .ref (qq 18), .int z19, .ref (qq 20), .int z21, .int z22, .int z23, .int z24, .ref (qq 25), .int z26, .ref (qq 27), .ref (qq 28), .ref (qq 29), .int z30, .ref (qq 31), .ref (qq 32), .ref (qq 33), .ref (qq 34), .ref (qq 35), .ref (qq 36), .ref (qq 37), .ref (qq 38), .ref (qq 39), .ref (qq 40), .ref (qq 41), .ref (qq 42)])), ((qq 0), .inl (cT 0, 2, .inl f_13)), ((qq 1), .inl (cT 0, 2, .inl (fun _ => 0))), ((qq 2), .inl (cT 0, 50, .inl (fun _ => (-1))))] H := hP
              have hD : va_D A [(y, .inr (12, [.ref (qq 0), .ref (qq 1), .ref (qq 2), .ref (qq 3), .ref (qq 4), .ref (qq 5), .int z6, .ref (qq 7), .ref (qq 8), .ref (qq 9), .ref (qq 10), .ref (qq 11), .int z12, .ref (qq 13), .int z14, .int z15, .int z16, .int z17, .ref (qq 18), .int z19, .ref (qq 20), .int z21, .int z22, .int z23, .int z24, .ref (qq 25), .int z26, .ref (qq 27), .ref (qq 28), .ref (qq 29), .int z30, .ref (qq 31), .ref (qq 32), .ref (qq 33), .ref (qq 34), .ref (qq 35), .ref (qq 36), .ref (qq 37), .ref (qq 38), .ref (qq 39), .ref (qq 40), .ref (qq 41), .ref (qq 42)])), ((qq 0), .inl (cT 0, 2, .inl f_13)), ((qq 1), .inl (cT 0, 2, .inl (fun _ => 0))), ((qq 2), .inl (cT 0, 50, .inl (fun _ => (-1))))] := hD
              refine lv_aload_n hx hb dX12_reader_47 rfl (lv_at hl 0 rfl) ?_
              refine va_get (C := RX12) (T := TX12) (N := 43) (v := .ref (qq 1)) hx hb hts hi_X12_reader_X12 hown hK hP 0 rfl rfl 1 (by decide) (hts (.fieldLink RX12 13 "BothWaysModel" "takes" "[I") (by decide +kernel)) (fun _ h => h) rfl dX12_reader_48 ?_
              refine lv_iload_n hx hb dX12_reader_51 rfl (lv_at hl 1 rfl) ?_
              refine lv_iload_n hx hb dX12_reader_52 rfl (lv_at hl 3 rfl) ?_
              obtain ⟨f_14, ef_14⟩ : ∃ z, z = upd (fun _ => 0) (0 : Int32).toNatClampNeg t := ⟨_, rfl⟩
              refine w_iast (f' := f_14) hx hb hK hP hD hS 2 rfl dX12_reader_53 (inC (by decide)) ef_14.symm (fun H locs hP hD hS => ?_)
              have hP : va_P g vwCl [(y, .inr (12, [.ref (qq 0), .ref (qq 1), .ref (qq 2), .ref (qq 3), .ref (qq 4), .ref (qq 5), .int z6, .ref (qq 7), .ref (qq 8), .ref (qq 9), .ref (qq 10), .ref (qq 11), .int z12, .ref (qq 13), .int z14, .int z15, .int z16, .int z17, .ref (qq 18), .int z19, .ref (qq 20), .int z21, .int z22, .int z23, .int z24, .ref (qq 25), .int z26, .ref (qq 27), .ref (qq 28), .ref (qq 29), .int z30, .ref (qq 31), .ref (qq 32), .ref (qq 33), .ref (qq 34), .ref (qq 35), .ref (qq 36), .ref (qq 37), .ref (qq 38), .ref (qq 39), .ref (qq 40), .ref (qq 41), .ref (qq 42)])), ((qq 0), .inl (cT 0, 2, .inl f_13)), ((qq 1), .inl (cT 0, 2, .inl f_14)), ((qq 2), .inl (cT 0, 50, .inl (fun _ => (-1))))] H := hP
              have hD : va_D A [(y, .inr (12, [.ref (qq 0), .ref (qq 1), .ref (qq 2), .ref (qq 3), .ref (qq 4), .ref (qq 5), .int z6, .ref (qq 7), .ref (qq 8), .ref (qq 9), .ref (qq 10), .ref (qq 11), .int z12, .ref (qq 13), .int z14, .int z15, .int z16, .int z17, .ref (qq 18), .int z19, .ref (qq 20), .int z21, .int z22, .int z23, .int z24, .ref (qq 25), .int z26, .ref (qq 27), .ref (qq 28), .ref (qq 29), .int z30, .ref (qq 31), .ref (qq 32), .ref (qq 33), .ref (qq 34), .ref (qq 35), .ref (qq 36), .ref (qq 37), .ref (qq 38), .ref (qq 39), .ref (qq 40), .ref (qq 41), .ref (qq 42)])), ((qq 0), .inl (cT 0, 2, .inl f_13)), ((qq 1), .inl (cT 0, 2, .inl f_14)), ((qq 2), .inl (cT 0, 50, .inl (fun _ => (-1))))] := hD
              refine lv_bipush (v := 25) hx hb dX12_reader_54 (by decide) ?_
              refine lv_iload_n hx hb dX12_reader_56 rfl (lv_at hl 1 rfl) ?_
              refine w_imul (v := 0) hx hb dX12_reader_57 (by decide) ?_
              refine lv_istore (lv' := [(4, .int 0), (0, .ref y), (1, .int 0), (2, .int 1), (3, .int t)]) hx hb dX12_reader_58 hl (by decide) rfl (fun ls hl => ?_)
              have loop_15 : ∀ (fuel : Nat) (j : Nat), j ≤ 50 → 50 - j < fuel → ∀ (H : Heap) (locs : List Loc), va_P g vwCl [(y, .inr (12, [.ref (qq 0), .ref (qq 1), .ref (qq 2), .ref (qq 3), .ref (qq 4), .ref (qq 5), .int z6, .ref (qq 7), .ref (qq 8), .ref (qq 9), .ref (qq 10), .ref (qq 11), .int z12, .ref (qq 13), .int z14, .int z15, .int z16, .int z17, .ref (qq 18), .int z19, .ref (qq 20), .int z21, .int z22, .int z23, .int z24, .ref (qq 25), .int z26, .ref (qq 27), .ref (qq 28), .ref (qq 29), .int z30, .ref (qq 31), .ref (qq 32), .ref (qq 33), .ref (qq 34), .ref (qq 35), .ref (qq 36), .ref (qq 37), .ref (qq 38), .ref (qq 39), .ref (qq 40), .ref (qq 41), .ref (qq 42)])), ((qq 0), .inl (cT 0, 2, .inl f_13)), ((qq 1), .inl (cT 0, 2, .inl f_14)), ((qq 2), .inl (cT 0, 50, .inl (fun _ => (-1))))] H → va_D A [(y, .inr (12, [.ref (qq 0), .ref (qq 1), .ref (qq 2), .ref (qq 3), .ref (qq 4), .ref (qq 5), .int z6, .ref (qq 7), .ref (qq 8), .ref (qq 9), .ref (qq 10), .ref (qq 11), .int z12, .ref (qq 13), .int z14, .int z15, .int z16, .int z17, .ref (qq 18), .int z19, .ref (qq 20), .int z21, .int z22, .int z23, .int z24, .ref (qq 25), .int z26, .ref (qq 27), .ref (qq 28), .ref (qq 29), .int z30, .ref (qq 31), .ref (qq 32), .ref (qq 33), .ref (qq 34), .ref (qq 35), .ref (qq 36), .ref (qq 37), .ref (qq 38), .ref (qq 39), .ref (qq 40), .ref (qq 41), .ref (qq 42)])), ((qq 0), .inl (cT 0, 2, .inl f_13)), ((qq 1), .inl (cT 0, 2, .inl f_14)), ((qq 2), .inl (cT 0, 50, .inl (fun _ => (-1))))] → va_S A s.heap H locs → ∀ ls : Array Slot, lv_has ls 5 [(4, .int (nI j)), (0, .ref y), (1, .int 0), (2, .int 1), (3, .int t)] → W p l e rm_c_M_reader s m args below meth c H locs 0 0 Q (F0 m 60 ls []) := by
                intro fuel
                induction fuel with
                | zero => intro j hj hfu; omega
                | succ fuel ih_loop_15 =>
                  intro j hj hfu H locs hP hD hS ls hl
                  refine lv_iload hx hb dX12_reader_60 (lv_at hl 0 rfl) ?_
                  refine lv_bipush (v := 25) hx hb dX12_reader_62 (by decide) ?_
                  refine lv_iload_n hx hb dX12_reader_64 rfl (lv_at hl 2 rfl) ?_
                  refine w_imul (v := 0) hx hb dX12_reader_65 (by decide) ?_
                  refine lv_bipush (v := 25) hx hb dX12_reader_66 (by decide) ?_
                  refine w_iadd (v := 25) hx hb dX12_reader_68 (by decide) ?_
                  refine lv_icmp_ge (tgt := 86) hx hb dX12_reader_69 (by decide) (fun c_16 => ?_) (fun c_16 => ?_)
                  · skip
                    refine lv_iconst (v := 1) hx hb dX12_reader_86 (by decide) ?_
                    exact rt_i hx hb hr hlocks hQ hP hD hS () [] dX12_reader_87 rfl (Nat.le_of_ble_eq_true rfl) (Nat.le_of_ble_eq_true rfl) rfl (by decide) (lf_c_M_reader_1 t j h_11 hj c_16)
                  · skip
                    have hlt : j < 25 := Nat.lt_of_not_le (fun h => c_16 (nI_le (a := 25) h (by omega)))
                    refine lv_aload_n hx hb dX12_reader_72 rfl (lv_at hl 1 rfl) ?_
                    refine va_get (C := RX12) (T := TX12) (N := 43) (v := .ref (qq 2)) hx hb hts hi_X12_reader_X12 hown hK hP 0 rfl rfl 2 (by decide) (hts (.fieldLink RX12 16 "BothWaysModel" "goTo" "[I") (by decide +kernel)) (fun _ h => h) rfl dX12_reader_73 ?_
                    refine lv_iload hx hb dX12_reader_76 (lv_at hl 0 rfl) ?_
                    refine lv_iconst (v := (-1)) hx hb dX12_reader_78 (by decide) ?_
                    refine w_iast (f' := (fun _ => (-1))) hx hb hK hP hD hS 3 rfl dX12_reader_79 (vp_in_nI (show j < 50 by omega) (by decide)) (upd_c _ _) (fun H locs hP hD hS => ?_)
                    have hP : va_P g vwCl [(y, .inr (12, [.ref (qq 0), .ref (qq 1), .ref (qq 2), .ref (qq 3), .ref (qq 4), .ref (qq 5), .int z6, .ref (qq 7), .ref (qq 8), .ref (qq 9), .ref (qq 10), .ref (qq 11), .int z12, .ref (qq 13), .int z14, .int z15, .int z16, .int z17, .ref (qq 18), .int z19, .ref (qq 20), .int z21, .int z22, .int z23, .int z24, .ref (qq 25), .int z26, .ref (qq 27), .ref (qq 28), .ref (qq 29), .int z30, .ref (qq 31), .ref (qq 32), .ref (qq 33), .ref (qq 34), .ref (qq 35), .ref (qq 36), .ref (qq 37), .ref (qq 38), .ref (qq 39), .ref (qq 40), .ref (qq 41), .ref (qq 42)])), ((qq 0), .inl (cT 0, 2, .inl f_13)), ((qq 1), .inl (cT 0, 2, .inl f_14)), ((qq 2), .inl (cT 0, 50, .inl (fun _ => (-1))))] H := hP
                    have hD : va_D A [(y, .inr (12, [.ref (qq 0), .ref (qq 1), .ref (qq 2), .ref (qq 3), .ref (qq 4), .ref (qq 5), .int z6, .ref (qq 7), .ref (qq 8), .ref (qq 9), .ref (qq 10), .ref (qq 11), .int z12, .ref (qq 13), .int z14, .int z15, .int z16, .int z17, .ref (qq 18), .int z19, .ref (qq 20), .int z21, .int z22, .int z23, .int z24, .ref (qq 25), .int z26, .ref (qq 27), .ref (qq 28), .ref (qq 29), .int z30, .ref (qq 31), .ref (qq 32), .ref (qq 33), .ref (qq 34), .ref (qq 35), .ref (qq 36), .ref (qq 37), .ref (qq 38), .ref (qq 39), .ref (qq 40), .ref (qq 41), .ref (qq 42)])), ((qq 0), .inl (cT 0, 2, .inl f_13)), ((qq 1), .inl (cT 0, 2, .inl f_14)), ((qq 2), .inl (cT 0, 50, .inl (fun _ => (-1))))] := hD
                    refine lv_iinc (v := (nI (j + 1))) (lv' := [(4, .int (nI (j + 1))), (0, .ref y), (1, .int 0), (2, .int 1), (3, .int t)]) hx hb dX12_reader_80 hl (k := 0) rfl (nI_1 j) (by decide) rfl (fun ls hl => ?_)
                    refine lv_goto (tgt := 60) hx hb dX12_reader_83 (by decide) ?_
                    exact ih_loop_15 (j + 1) (by omega) (by omega) _ _ (hP.sub [0, 1, 2, 3] rfl) (hD.sub [0, 1, 2, 3] (by decide) rfl) hS ls (lv_sub hl [0, 1, 2, 3, 4] rfl)
              exact loop_15 _ 0 (by decide) (Nat.lt_succ_self _) _ _ (hP.sub [0, 1, 2, 3] rfl) (hD.sub [0, 1, 2, 3] (by decide) rfl) hS ls (lv_sub hl [0, 1, 2, 3, 4] rfl)
            · skip
              refine if_ne_f hx hb dX12_reader_34 40 (by decide) (by decide) ?_
              refine lv_bipush (v := (-3)) hx hb dX12_reader_37 (by decide) ?_
              exact rt_i hx hb hr hlocks hQ hP hD hS () [] dX12_reader_39 rfl (Nat.le_of_ble_eq_true rfl) (Nat.le_of_ble_eq_true rfl) rfl (by decide) (lf_c_M_reader_2 t h_12)
          · skip
            refine if_eq_f hx hb dX12_reader_19 37 (by decide) (by decide) ?_
            refine lv_iload_n hx hb dX12_reader_22 rfl (lv_at hl 3 rfl) ?_
            refine lv_i2l (v := t.toInt64) hx hb dX12_reader_23 rfl ?_
            refine lv_lconst (v := 0) hx hb dX12_reader_24 (by decide) ?_
            refine lv_iconst (v := 1) hx hb dX12_reader_25 (by decide) ?_
            refine lv_iload_n hx hb dX12_reader_26 rfl (lv_at hl 2 rfl) ?_
            refine w_ishl (v := 4) hx hb dX12_reader_27 (by decide) ?_
            refine lv_iconst (v := 1) hx hb dX12_reader_28 (by decide) ?_
            refine w_isub (v := 3) hx hb dX12_reader_29 (by decide) ?_
            refine lv_i2l (v := 3) hx hb dX12_reader_30 (by decide) ?_
            refine cp_i (va_runS (As := [.long t.toInt64, .long 0, .long 3]) (rest := []) ⟨hx, hb, hml, hown, hts⟩ (c_M_in l g cT H.size t.toInt64 0 3) (va_cwS 3 hts gX12_reader_X12_in rfl rfl rfl yd_X12_in.2 ⟨(Nat.le_of_ble_eq_true rfl), (Nat.le_of_ble_eq_true rfl)⟩) (preS (ws := []) (wc := []) rfl (fun _ _ h => by simp at h) (va_D_nil (A := A)) hK hN hZ hS hA [] rfl rfl) rfl rfl hl.1 rfl (lv_room (Nat.le_of_ble_eq_true rfl)) dX12_reader_31 ⟨(Nat.le_of_ble_eq_true rfl), (Nat.le_of_ble_eq_true rfl)⟩) hP hS hA (fun r_17 u H locs h_18 hP hS => ?_)
            rcases h_18 with ⟨rfl, h_19⟩ | ⟨rfl, h_20⟩
            · skip
              refine if_ne_t hx hb 40 dX12_reader_34 (by decide) (by decide) ?_
              refine lv_aload_n hx hb dX12_reader_40 rfl (lv_at hl 0 rfl) ?_
              refine va_get (C := RX12) (T := TX12) (N := 43) (v := .ref (qq 0)) hx hb hts hi_X12_reader_X12 hown hK hP 0 rfl rfl 0 (by decide) (hts (.fieldLink RX12 7 "BothWaysModel" "states" "[I") (by decide +kernel)) (fun _ h => h) rfl dX12_reader_41 ?_
              refine lv_iload_n hx hb dX12_reader_44 rfl (lv_at hl 1 rfl) ?_
              refine lv_iload_n hx hb dX12_reader_45 rfl (lv_at hl 2 rfl) ?_
              obtain ⟨f_21, ef_21⟩ : ∃ z, z = upd (fun _ => 1) (0 : Int32).toNatClampNeg 2 := ⟨_, rfl⟩
              refine w_iast (f' := f_21) hx hb hK hP hD hS 1 rfl dX12_reader_46 (inC (by decide)) ef_21.symm (fun H locs hP hD hS => ?_)
              have hP : va_P g vwCl [(y, .inr (12, [.ref (qq 0), .ref (qq 1), .ref (qq 2), .ref (qq 3), .ref (qq 4), .ref (qq 5), .int z6, .ref (qq 7), .ref (qq 8), .ref (qq 9), .ref (qq 10), .ref (qq 11), .int z12, .ref (qq 13), .int z14, .int z15, .int z16, .int z17, .ref (qq 18), .int z19, .ref (qq 20), .int z21, .int z22, .int z23, .int z24, .ref (qq 25), .int z26, .ref (qq 27), .ref (qq 28), .ref (qq 29), .int z30, .ref (qq 31), .ref (qq 32), .ref (qq 33), .ref (qq 34), .ref (qq 35), .ref (qq 36), .ref (qq 37), .ref (qq 38), .ref (qq 39), .ref (qq 40), .ref (qq 41), .ref (qq 42)])), ((qq 0), .inl (cT 0, 2, .inl f_21)), ((qq 1), .inl (cT 0, 2, .inl (fun _ => 0))), ((qq 2), .inl (cT 0, 50, .inl (fun _ => (-1))))] H := hP
              have hD : va_D A [(y, .inr (12, [.ref (qq 0), .ref (qq 1), .ref (qq 2), .ref (qq 3), .ref (qq 4), .ref (qq 5), .int z6, .ref (qq 7), .ref (qq 8), .ref (qq 9), .ref (qq 10), .ref (qq 11), .int z12, .ref (qq 13), .int z14, .int z15, .int z16, .int z17, .ref (qq 18), .int z19, .ref (qq 20), .int z21, .int z22, .int z23, .int z24, .ref (qq 25), .int z26, .ref (qq 27), .ref (qq 28), .ref (qq 29), .int z30, .ref (qq 31), .ref (qq 32), .ref (qq 33), .ref (qq 34), .ref (qq 35), .ref (qq 36), .ref (qq 37), .ref (qq 38), .ref (qq 39), .ref (qq 40), .ref (qq 41), .ref (qq 42)])), ((qq 0), .inl (cT 0, 2, .inl f_21)), ((qq 1), .inl (cT 0, 2, .inl (fun _ => 0))), ((qq 2), .inl (cT 0, 50, .inl (fun _ => (-1))))] := hD
              refine lv_aload_n hx hb dX12_reader_47 rfl (lv_at hl 0 rfl) ?_
              refine va_get (C := RX12) (T := TX12) (N := 43) (v := .ref (qq 1)) hx hb hts hi_X12_reader_X12 hown hK hP 0 rfl rfl 1 (by decide) (hts (.fieldLink RX12 13 "BothWaysModel" "takes" "[I") (by decide +kernel)) (fun _ h => h) rfl dX12_reader_48 ?_
              refine lv_iload_n hx hb dX12_reader_51 rfl (lv_at hl 1 rfl) ?_
              refine lv_iload_n hx hb dX12_reader_52 rfl (lv_at hl 3 rfl) ?_
              obtain ⟨f_22, ef_22⟩ : ∃ z, z = upd (fun _ => 0) (0 : Int32).toNatClampNeg t := ⟨_, rfl⟩
              refine w_iast (f' := f_22) hx hb hK hP hD hS 2 rfl dX12_reader_53 (inC (by decide)) ef_22.symm (fun H locs hP hD hS => ?_)
              have hP : va_P g vwCl [(y, .inr (12, [.ref (qq 0), .ref (qq 1), .ref (qq 2), .ref (qq 3), .ref (qq 4), .ref (qq 5), .int z6, .ref (qq 7), .ref (qq 8), .ref (qq 9), .ref (qq 10), .ref (qq 11), .int z12, .ref (qq 13), .int z14, .int z15, .int z16, .int z17, .ref (qq 18), .int z19, .ref (qq 20), .int z21, .int z22, .int z23, .int z24, .ref (qq 25), .int z26, .ref (qq 27), .ref (qq 28), .ref (qq 29), .int z30, .ref (qq 31), .ref (qq 32), .ref (qq 33), .ref (qq 34), .ref (qq 35), .ref (qq 36), .ref (qq 37), .ref (qq 38), .ref (qq 39), .ref (qq 40), .ref (qq 41), .ref (qq 42)])), ((qq 0), .inl (cT 0, 2, .inl f_21)), ((qq 1), .inl (cT 0, 2, .inl f_22)), ((qq 2), .inl (cT 0, 50, .inl (fun _ => (-1))))] H := hP
              have hD : va_D A [(y, .inr (12, [.ref (qq 0), .ref (qq 1), .ref (qq 2), .ref (qq 3), .ref (qq 4), .ref (qq 5), .int z6, .ref (qq 7), .ref (qq 8), .ref (qq 9), .ref (qq 10), .ref (qq 11), .int z12, .ref (qq 13), .int z14, .int z15, .int z16, .int z17, .ref (qq 18), .int z19, .ref (qq 20), .int z21, .int z22, .int z23, .int z24, .ref (qq 25), .int z26, .ref (qq 27), .ref (qq 28), .ref (qq 29), .int z30, .ref (qq 31), .ref (qq 32), .ref (qq 33), .ref (qq 34), .ref (qq 35), .ref (qq 36), .ref (qq 37), .ref (qq 38), .ref (qq 39), .ref (qq 40), .ref (qq 41), .ref (qq 42)])), ((qq 0), .inl (cT 0, 2, .inl f_21)), ((qq 1), .inl (cT 0, 2, .inl f_22)), ((qq 2), .inl (cT 0, 50, .inl (fun _ => (-1))))] := hD
              refine lv_bipush (v := 25) hx hb dX12_reader_54 (by decide) ?_
              refine lv_iload_n hx hb dX12_reader_56 rfl (lv_at hl 1 rfl) ?_
              refine w_imul (v := 0) hx hb dX12_reader_57 (by decide) ?_
              refine lv_istore (lv' := [(4, .int 0), (0, .ref y), (1, .int 0), (2, .int 2), (3, .int t)]) hx hb dX12_reader_58 hl (by decide) rfl (fun ls hl => ?_)
              have loop_23 : ∀ (fuel : Nat) (j : Nat), j ≤ 50 → 50 - j < fuel → ∀ (H : Heap) (locs : List Loc), va_P g vwCl [(y, .inr (12, [.ref (qq 0), .ref (qq 1), .ref (qq 2), .ref (qq 3), .ref (qq 4), .ref (qq 5), .int z6, .ref (qq 7), .ref (qq 8), .ref (qq 9), .ref (qq 10), .ref (qq 11), .int z12, .ref (qq 13), .int z14, .int z15, .int z16, .int z17, .ref (qq 18), .int z19, .ref (qq 20), .int z21, .int z22, .int z23, .int z24, .ref (qq 25), .int z26, .ref (qq 27), .ref (qq 28), .ref (qq 29), .int z30, .ref (qq 31), .ref (qq 32), .ref (qq 33), .ref (qq 34), .ref (qq 35), .ref (qq 36), .ref (qq 37), .ref (qq 38), .ref (qq 39), .ref (qq 40), .ref (qq 41), .ref (qq 42)])), ((qq 0), .inl (cT 0, 2, .inl f_21)), ((qq 1), .inl (cT 0, 2, .inl f_22)), ((qq 2), .inl (cT 0, 50, .inl (fun _ => (-1))))] H → va_D A [(y, .inr (12, [.ref (qq 0), .ref (qq 1), .ref (qq 2), .ref (qq 3), .ref (qq 4), .ref (qq 5), .int z6, .ref (qq 7), .ref (qq 8), .ref (qq 9), .ref (qq 10), .ref (qq 11), .int z12, .ref (qq 13), .int z14, .int z15, .int z16, .int z17, .ref (qq 18), .int z19, .ref (qq 20), .int z21, .int z22, .int z23, .int z24, .ref (qq 25), .int z26, .ref (qq 27), .ref (qq 28), .ref (qq 29), .int z30, .ref (qq 31), .ref (qq 32), .ref (qq 33), .ref (qq 34), .ref (qq 35), .ref (qq 36), .ref (qq 37), .ref (qq 38), .ref (qq 39), .ref (qq 40), .ref (qq 41), .ref (qq 42)])), ((qq 0), .inl (cT 0, 2, .inl f_21)), ((qq 1), .inl (cT 0, 2, .inl f_22)), ((qq 2), .inl (cT 0, 50, .inl (fun _ => (-1))))] → va_S A s.heap H locs → ∀ ls : Array Slot, lv_has ls 5 [(4, .int (nI j)), (0, .ref y), (1, .int 0), (2, .int 2), (3, .int t)] → W p l e rm_c_M_reader s m args below meth c H locs 0 0 Q (F0 m 60 ls []) := by
                intro fuel
                induction fuel with
                | zero => intro j hj hfu; omega
                | succ fuel ih_loop_23 =>
                  intro j hj hfu H locs hP hD hS ls hl
                  refine lv_iload hx hb dX12_reader_60 (lv_at hl 0 rfl) ?_
                  refine lv_bipush (v := 25) hx hb dX12_reader_62 (by decide) ?_
                  refine lv_iload_n hx hb dX12_reader_64 rfl (lv_at hl 2 rfl) ?_
                  refine w_imul (v := 0) hx hb dX12_reader_65 (by decide) ?_
                  refine lv_bipush (v := 25) hx hb dX12_reader_66 (by decide) ?_
                  refine w_iadd (v := 25) hx hb dX12_reader_68 (by decide) ?_
                  refine lv_icmp_ge (tgt := 86) hx hb dX12_reader_69 (by decide) (fun c_24 => ?_) (fun c_24 => ?_)
                  · skip
                    refine lv_iconst (v := 1) hx hb dX12_reader_86 (by decide) ?_
                    exact rt_i hx hb hr hlocks hQ hP hD hS () [] dX12_reader_87 rfl (Nat.le_of_ble_eq_true rfl) (Nat.le_of_ble_eq_true rfl) rfl (by decide) (lf_c_M_reader_3 t j h_19 hj c_24)
                  · skip
                    have hlt : j < 25 := Nat.lt_of_not_le (fun h => c_24 (nI_le (a := 25) h (by omega)))
                    refine lv_aload_n hx hb dX12_reader_72 rfl (lv_at hl 1 rfl) ?_
                    refine va_get (C := RX12) (T := TX12) (N := 43) (v := .ref (qq 2)) hx hb hts hi_X12_reader_X12 hown hK hP 0 rfl rfl 2 (by decide) (hts (.fieldLink RX12 16 "BothWaysModel" "goTo" "[I") (by decide +kernel)) (fun _ h => h) rfl dX12_reader_73 ?_
                    refine lv_iload hx hb dX12_reader_76 (lv_at hl 0 rfl) ?_
                    refine lv_iconst (v := (-1)) hx hb dX12_reader_78 (by decide) ?_
                    refine w_iast (f' := (fun _ => (-1))) hx hb hK hP hD hS 3 rfl dX12_reader_79 (vp_in_nI (show j < 50 by omega) (by decide)) (upd_c _ _) (fun H locs hP hD hS => ?_)
                    have hP : va_P g vwCl [(y, .inr (12, [.ref (qq 0), .ref (qq 1), .ref (qq 2), .ref (qq 3), .ref (qq 4), .ref (qq 5), .int z6, .ref (qq 7), .ref (qq 8), .ref (qq 9), .ref (qq 10), .ref (qq 11), .int z12, .ref (qq 13), .int z14, .int z15, .int z16, .int z17, .ref (qq 18), .int z19, .ref (qq 20), .int z21, .int z22, .int z23, .int z24, .ref (qq 25), .int z26, .ref (qq 27), .ref (qq 28), .ref (qq 29), .int z30, .ref (qq 31), .ref (qq 32), .ref (qq 33), .ref (qq 34), .ref (qq 35), .ref (qq 36), .ref (qq 37), .ref (qq 38), .ref (qq 39), .ref (qq 40), .ref (qq 41), .ref (qq 42)])), ((qq 0), .inl (cT 0, 2, .inl f_21)), ((qq 1), .inl (cT 0, 2, .inl f_22)), ((qq 2), .inl (cT 0, 50, .inl (fun _ => (-1))))] H := hP
                    have hD : va_D A [(y, .inr (12, [.ref (qq 0), .ref (qq 1), .ref (qq 2), .ref (qq 3), .ref (qq 4), .ref (qq 5), .int z6, .ref (qq 7), .ref (qq 8), .ref (qq 9), .ref (qq 10), .ref (qq 11), .int z12, .ref (qq 13), .int z14, .int z15, .int z16, .int z17, .ref (qq 18), .int z19, .ref (qq 20), .int z21, .int z22, .int z23, .int z24, .ref (qq 25), .int z26, .ref (qq 27), .ref (qq 28), .ref (qq 29), .int z30, .ref (qq 31), .ref (qq 32), .ref (qq 33), .ref (qq 34), .ref (qq 35), .ref (qq 36), .ref (qq 37), .ref (qq 38), .ref (qq 39), .ref (qq 40), .ref (qq 41), .ref (qq 42)])), ((qq 0), .inl (cT 0, 2, .inl f_21)), ((qq 1), .inl (cT 0, 2, .inl f_22)), ((qq 2), .inl (cT 0, 50, .inl (fun _ => (-1))))] := hD
                    refine lv_iinc (v := (nI (j + 1))) (lv' := [(4, .int (nI (j + 1))), (0, .ref y), (1, .int 0), (2, .int 2), (3, .int t)]) hx hb dX12_reader_80 hl (k := 0) rfl (nI_1 j) (by decide) rfl (fun ls hl => ?_)
                    refine lv_goto (tgt := 60) hx hb dX12_reader_83 (by decide) ?_
                    exact ih_loop_23 (j + 1) (by omega) (by omega) _ _ (hP.sub [0, 1, 2, 3] rfl) (hD.sub [0, 1, 2, 3] (by decide) rfl) hS ls (lv_sub hl [0, 1, 2, 3, 4] rfl)
              exact loop_23 _ 0 (by decide) (Nat.lt_succ_self _) _ _ (hP.sub [0, 1, 2, 3] rfl) (hD.sub [0, 1, 2, 3] (by decide) rfl) hS ls (lv_sub hl [0, 1, 2, 3, 4] rfl)
            · skip
              refine if_ne_f hx hb dX12_reader_34 40 (by decide) (by decide) ?_
              refine lv_bipush (v := (-3)) hx hb dX12_reader_37 (by decide) ?_
              exact rt_i hx hb hr hlocks hQ hP hD hS () [] dX12_reader_39 rfl (Nat.le_of_ble_eq_true rfl) (Nat.le_of_ble_eq_true rfl) rfl (by decide) (lf_c_M_reader_4 t h_20)
          · skip
            refine if_eq_f hx hb dX12_reader_19 37 (by decide) (by decide) ?_
            refine lv_iload_n hx hb dX12_reader_22 rfl (lv_at hl 3 rfl) ?_
            refine lv_i2l (v := t.toInt64) hx hb dX12_reader_23 rfl ?_
            refine lv_lconst (v := 0) hx hb dX12_reader_24 (by decide) ?_
            refine lv_iconst (v := 1) hx hb dX12_reader_25 (by decide) ?_
            refine lv_iload_n hx hb dX12_reader_26 rfl (lv_at hl 2 rfl) ?_
            refine w_ishl (v := 8) hx hb dX12_reader_27 (by decide) ?_
            refine lv_iconst (v := 1) hx hb dX12_reader_28 (by decide) ?_
            refine w_isub (v := 7) hx hb dX12_reader_29 (by decide) ?_
            refine lv_i2l (v := 7) hx hb dX12_reader_30 (by decide) ?_
            refine cp_i (va_runS (As := [.long t.toInt64, .long 0, .long 7]) (rest := []) ⟨hx, hb, hml, hown, hts⟩ (c_M_in l g cT H.size t.toInt64 0 7) (va_cwS 3 hts gX12_reader_X12_in rfl rfl rfl yd_X12_in.2 ⟨(Nat.le_of_ble_eq_true rfl), (Nat.le_of_ble_eq_true rfl)⟩) (preS (ws := []) (wc := []) rfl (fun _ _ h => by simp at h) (va_D_nil (A := A)) hK hN hZ hS hA [] rfl rfl) rfl rfl hl.1 rfl (lv_room (Nat.le_of_ble_eq_true rfl)) dX12_reader_31 ⟨(Nat.le_of_ble_eq_true rfl), (Nat.le_of_ble_eq_true rfl)⟩) hP hS hA (fun r_25 u H locs h_26 hP hS => ?_)
            rcases h_26 with ⟨rfl, h_27⟩ | ⟨rfl, h_28⟩
            · skip
              refine if_ne_t hx hb 40 dX12_reader_34 (by decide) (by decide) ?_
              refine lv_aload_n hx hb dX12_reader_40 rfl (lv_at hl 0 rfl) ?_
              refine va_get (C := RX12) (T := TX12) (N := 43) (v := .ref (qq 0)) hx hb hts hi_X12_reader_X12 hown hK hP 0 rfl rfl 0 (by decide) (hts (.fieldLink RX12 7 "BothWaysModel" "states" "[I") (by decide +kernel)) (fun _ h => h) rfl dX12_reader_41 ?_
              refine lv_iload_n hx hb dX12_reader_44 rfl (lv_at hl 1 rfl) ?_
              refine lv_iload_n hx hb dX12_reader_45 rfl (lv_at hl 2 rfl) ?_
              obtain ⟨f_29, ef_29⟩ : ∃ z, z = upd (fun _ => 1) (0 : Int32).toNatClampNeg 3 := ⟨_, rfl⟩
              refine w_iast (f' := f_29) hx hb hK hP hD hS 1 rfl dX12_reader_46 (inC (by decide)) ef_29.symm (fun H locs hP hD hS => ?_)
              have hP : va_P g vwCl [(y, .inr (12, [.ref (qq 0), .ref (qq 1), .ref (qq 2), .ref (qq 3), .ref (qq 4), .ref (qq 5), .int z6, .ref (qq 7), .ref (qq 8), .ref (qq 9), .ref (qq 10), .ref (qq 11), .int z12, .ref (qq 13), .int z14, .int z15, .int z16, .int z17, .ref (qq 18), .int z19, .ref (qq 20), .int z21, .int z22, .int z23, .int z24, .ref (qq 25), .int z26, .ref (qq 27), .ref (qq 28), .ref (qq 29), .int z30, .ref (qq 31), .ref (qq 32), .ref (qq 33), .ref (qq 34), .ref (qq 35), .ref (qq 36), .ref (qq 37), .ref (qq 38), .ref (qq 39), .ref (qq 40), .ref (qq 41), .ref (qq 42)])), ((qq 0), .inl (cT 0, 2, .inl f_29)), ((qq 1), .inl (cT 0, 2, .inl (fun _ => 0))), ((qq 2), .inl (cT 0, 50, .inl (fun _ => (-1))))] H := hP
              have hD : va_D A [(y, .inr (12, [.ref (qq 0), .ref (qq 1), .ref (qq 2), .ref (qq 3), .ref (qq 4), .ref (qq 5), .int z6, .ref (qq 7), .ref (qq 8), .ref (qq 9), .ref (qq 10), .ref (qq 11), .int z12, .ref (qq 13), .int z14, .int z15, .int z16, .int z17, .ref (qq 18), .int z19, .ref (qq 20), .int z21, .int z22, .int z23, .int z24, .ref (qq 25), .int z26, .ref (qq 27), .ref (qq 28), .ref (qq 29), .int z30, .ref (qq 31), .ref (qq 32), .ref (qq 33), .ref (qq 34), .ref (qq 35), .ref (qq 36), .ref (qq 37), .ref (qq 38), .ref (qq 39), .ref (qq 40), .ref (qq 41), .ref (qq 42)])), ((qq 0), .inl (cT 0, 2, .inl f_29)), ((qq 1), .inl (cT 0, 2, .inl (fun _ => 0))), ((qq 2), .inl (cT 0, 50, .inl (fun _ => (-1))))] := hD
              refine lv_aload_n hx hb dX12_reader_47 rfl (lv_at hl 0 rfl) ?_
              refine va_get (C := RX12) (T := TX12) (N := 43) (v := .ref (qq 1)) hx hb hts hi_X12_reader_X12 hown hK hP 0 rfl rfl 1 (by decide) (hts (.fieldLink RX12 13 "BothWaysModel" "takes" "[I") (by decide +kernel)) (fun _ h => h) rfl dX12_reader_48 ?_
              refine lv_iload_n hx hb dX12_reader_51 rfl (lv_at hl 1 rfl) ?_
              refine lv_iload_n hx hb dX12_reader_52 rfl (lv_at hl 3 rfl) ?_
              obtain ⟨f_30, ef_30⟩ : ∃ z, z = upd (fun _ => 0) (0 : Int32).toNatClampNeg t := ⟨_, rfl⟩
              refine w_iast (f' := f_30) hx hb hK hP hD hS 2 rfl dX12_reader_53 (inC (by decide)) ef_30.symm (fun H locs hP hD hS => ?_)
              have hP : va_P g vwCl [(y, .inr (12, [.ref (qq 0), .ref (qq 1), .ref (qq 2), .ref (qq 3), .ref (qq 4), .ref (qq 5), .int z6, .ref (qq 7), .ref (qq 8), .ref (qq 9), .ref (qq 10), .ref (qq 11), .int z12, .ref (qq 13), .int z14, .int z15, .int z16, .int z17, .ref (qq 18), .int z19, .ref (qq 20), .int z21, .int z22, .int z23, .int z24, .ref (qq 25), .int z26, .ref (qq 27), .ref (qq 28), .ref (qq 29), .int z30, .ref (qq 31), .ref (qq 32), .ref (qq 33), .ref (qq 34), .ref (qq 35), .ref (qq 36), .ref (qq 37), .ref (qq 38), .ref (qq 39), .ref (qq 40), .ref (qq 41), .ref (qq 42)])), ((qq 0), .inl (cT 0, 2, .inl f_29)), ((qq 1), .inl (cT 0, 2, .inl f_30)), ((qq 2), .inl (cT 0, 50, .inl (fun _ => (-1))))] H := hP
              have hD : va_D A [(y, .inr (12, [.ref (qq 0), .ref (qq 1), .ref (qq 2), .ref (qq 3), .ref (qq 4), .ref (qq 5), .int z6, .ref (qq 7), .ref (qq 8), .ref (qq 9), .ref (qq 10), .ref (qq 11), .int z12, .ref (qq 13), .int z14, .int z15, .int z16, .int z17, .ref (qq 18), .int z19, .ref (qq 20), .int z21, .int z22, .int z23, .int z24, .ref (qq 25), .int z26, .ref (qq 27), .ref (qq 28), .ref (qq 29), .int z30, .ref (qq 31), .ref (qq 32), .ref (qq 33), .ref (qq 34), .ref (qq 35), .ref (qq 36), .ref (qq 37), .ref (qq 38), .ref (qq 39), .ref (qq 40), .ref (qq 41), .ref (qq 42)])), ((qq 0), .inl (cT 0, 2, .inl f_29)), ((qq 1), .inl (cT 0, 2, .inl f_30)), ((qq 2), .inl (cT 0, 50, .inl (fun _ => (-1))))] := hD
              refine lv_bipush (v := 25) hx hb dX12_reader_54 (by decide) ?_
              refine lv_iload_n hx hb dX12_reader_56 rfl (lv_at hl 1 rfl) ?_
              refine w_imul (v := 0) hx hb dX12_reader_57 (by decide) ?_
              refine lv_istore (lv' := [(4, .int 0), (0, .ref y), (1, .int 0), (2, .int 3), (3, .int t)]) hx hb dX12_reader_58 hl (by decide) rfl (fun ls hl => ?_)
              have loop_31 : ∀ (fuel : Nat) (j : Nat), j ≤ 50 → 50 - j < fuel → ∀ (H : Heap) (locs : List Loc), va_P g vwCl [(y, .inr (12, [.ref (qq 0), .ref (qq 1), .ref (qq 2), .ref (qq 3), .ref (qq 4), .ref (qq 5), .int z6, .ref (qq 7), .ref (qq 8), .ref (qq 9), .ref (qq 10), .ref (qq 11), .int z12, .ref (qq 13), .int z14, .int z15, .int z16, .int z17, .ref (qq 18), .int z19, .ref (qq 20), .int z21, .int z22, .int z23, .int z24, .ref (qq 25), .int z26, .ref (qq 27), .ref (qq 28), .ref (qq 29), .int z30, .ref (qq 31), .ref (qq 32), .ref (qq 33), .ref (qq 34), .ref (qq 35), .ref (qq 36), .ref (qq 37), .ref (qq 38), .ref (qq 39), .ref (qq 40), .ref (qq 41), .ref (qq 42)])), ((qq 0), .inl (cT 0, 2, .inl f_29)), ((qq 1), .inl (cT 0, 2, .inl f_30)), ((qq 2), .inl (cT 0, 50, .inl (fun _ => (-1))))] H → va_D A [(y, .inr (12, [.ref (qq 0), .ref (qq 1), .ref (qq 2), .ref (qq 3), .ref (qq 4), .ref (qq 5), .int z6, .ref (qq 7), .ref (qq 8), .ref (qq 9), .ref (qq 10), .ref (qq 11), .int z12, .ref (qq 13), .int z14, .int z15, .int z16, .int z17, .ref (qq 18), .int z19, .ref (qq 20), .int z21, .int z22, .int z23, .int z24, .ref (qq 25), .int z26, .ref (qq 27), .ref (qq 28), .ref (qq 29), .int z30, .ref (qq 31), .ref (qq 32), .ref (qq 33), .ref (qq 34), .ref (qq 35), .ref (qq 36), .ref (qq 37), .ref (qq 38), .ref (qq 39), .ref (qq 40), .ref (qq 41), .ref (qq 42)])), ((qq 0), .inl (cT 0, 2, .inl f_29)), ((qq 1), .inl (cT 0, 2, .inl f_30)), ((qq 2), .inl (cT 0, 50, .inl (fun _ => (-1))))] → va_S A s.heap H locs → ∀ ls : Array Slot, lv_has ls 5 [(4, .int (nI j)), (0, .ref y), (1, .int 0), (2, .int 3), (3, .int t)] → W p l e rm_c_M_reader s m args below meth c H locs 0 0 Q (F0 m 60 ls []) := by
                intro fuel
                induction fuel with
                | zero => intro j hj hfu; omega
                | succ fuel ih_loop_31 =>
                  intro j hj hfu H locs hP hD hS ls hl
                  refine lv_iload hx hb dX12_reader_60 (lv_at hl 0 rfl) ?_
                  refine lv_bipush (v := 25) hx hb dX12_reader_62 (by decide) ?_
                  refine lv_iload_n hx hb dX12_reader_64 rfl (lv_at hl 2 rfl) ?_
                  refine w_imul (v := 0) hx hb dX12_reader_65 (by decide) ?_
                  refine lv_bipush (v := 25) hx hb dX12_reader_66 (by decide) ?_
                  refine w_iadd (v := 25) hx hb dX12_reader_68 (by decide) ?_
                  refine lv_icmp_ge (tgt := 86) hx hb dX12_reader_69 (by decide) (fun c_32 => ?_) (fun c_32 => ?_)
                  · skip
                    refine lv_iconst (v := 1) hx hb dX12_reader_86 (by decide) ?_
                    exact rt_i hx hb hr hlocks hQ hP hD hS () [] dX12_reader_87 rfl (Nat.le_of_ble_eq_true rfl) (Nat.le_of_ble_eq_true rfl) rfl (by decide) (lf_c_M_reader_5 t j h_27 hj c_32)
                  · skip
                    have hlt : j < 25 := Nat.lt_of_not_le (fun h => c_32 (nI_le (a := 25) h (by omega)))
                    refine lv_aload_n hx hb dX12_reader_72 rfl (lv_at hl 1 rfl) ?_
                    refine va_get (C := RX12) (T := TX12) (N := 43) (v := .ref (qq 2)) hx hb hts hi_X12_reader_X12 hown hK hP 0 rfl rfl 2 (by decide) (hts (.fieldLink RX12 16 "BothWaysModel" "goTo" "[I") (by decide +kernel)) (fun _ h => h) rfl dX12_reader_73 ?_
                    refine lv_iload hx hb dX12_reader_76 (lv_at hl 0 rfl) ?_
                    refine lv_iconst (v := (-1)) hx hb dX12_reader_78 (by decide) ?_
                    refine w_iast (f' := (fun _ => (-1))) hx hb hK hP hD hS 3 rfl dX12_reader_79 (vp_in_nI (show j < 50 by omega) (by decide)) (upd_c _ _) (fun H locs hP hD hS => ?_)
                    have hP : va_P g vwCl [(y, .inr (12, [.ref (qq 0), .ref (qq 1), .ref (qq 2), .ref (qq 3), .ref (qq 4), .ref (qq 5), .int z6, .ref (qq 7), .ref (qq 8), .ref (qq 9), .ref (qq 10), .ref (qq 11), .int z12, .ref (qq 13), .int z14, .int z15, .int z16, .int z17, .ref (qq 18), .int z19, .ref (qq 20), .int z21, .int z22, .int z23, .int z24, .ref (qq 25), .int z26, .ref (qq 27), .ref (qq 28), .ref (qq 29), .int z30, .ref (qq 31), .ref (qq 32), .ref (qq 33), .ref (qq 34), .ref (qq 35), .ref (qq 36), .ref (qq 37), .ref (qq 38), .ref (qq 39), .ref (qq 40), .ref (qq 41), .ref (qq 42)])), ((qq 0), .inl (cT 0, 2, .inl f_29)), ((qq 1), .inl (cT 0, 2, .inl f_30)), ((qq 2), .inl (cT 0, 50, .inl (fun _ => (-1))))] H := hP
                    have hD : va_D A [(y, .inr (12, [.ref (qq 0), .ref (qq 1), .ref (qq 2), .ref (qq 3), .ref (qq 4), .ref (qq 5), .int z6, .ref (qq 7), .ref (qq 8), .ref (qq 9), .ref (qq 10), .ref (qq 11), .int z12, .ref (qq 13), .int z14, .int z15, .int z16, .int z17, .ref (qq 18), .int z19, .ref (qq 20), .int z21, .int z22, .int z23, .int z24, .ref (qq 25), .int z26, .ref (qq 27), .ref (qq 28), .ref (qq 29), .int z30, .ref (qq 31), .ref (qq 32), .ref (qq 33), .ref (qq 34), .ref (qq 35), .ref (qq 36), .ref (qq 37), .ref (qq 38), .ref (qq 39), .ref (qq 40), .ref (qq 41), .ref (qq 42)])), ((qq 0), .inl (cT 0, 2, .inl f_29)), ((qq 1), .inl (cT 0, 2, .inl f_30)), ((qq 2), .inl (cT 0, 50, .inl (fun _ => (-1))))] := hD
                    refine lv_iinc (v := (nI (j + 1))) (lv' := [(4, .int (nI (j + 1))), (0, .ref y), (1, .int 0), (2, .int 3), (3, .int t)]) hx hb dX12_reader_80 hl (k := 0) rfl (nI_1 j) (by decide) rfl (fun ls hl => ?_)
                    refine lv_goto (tgt := 60) hx hb dX12_reader_83 (by decide) ?_
                    exact ih_loop_31 (j + 1) (by omega) (by omega) _ _ (hP.sub [0, 1, 2, 3] rfl) (hD.sub [0, 1, 2, 3] (by decide) rfl) hS ls (lv_sub hl [0, 1, 2, 3, 4] rfl)
              exact loop_31 _ 0 (by decide) (Nat.lt_succ_self _) _ _ (hP.sub [0, 1, 2, 3] rfl) (hD.sub [0, 1, 2, 3] (by decide) rfl) hS ls (lv_sub hl [0, 1, 2, 3, 4] rfl)
            · skip
              refine if_ne_f hx hb dX12_reader_34 40 (by decide) (by decide) ?_
              refine lv_bipush (v := (-3)) hx hb dX12_reader_37 (by decide) ?_
              exact rt_i hx hb hr hlocks hQ hP hD hS () [] dX12_reader_39 rfl (Nat.le_of_ble_eq_true rfl) (Nat.le_of_ble_eq_true rfl) rfl (by decide) (lf_c_M_reader_6 t h_28)
          · skip
            refine if_eq_f hx hb dX12_reader_19 37 (by decide) (by decide) ?_
            refine lv_iload_n hx hb dX12_reader_22 rfl (lv_at hl 3 rfl) ?_
            refine lv_i2l (v := t.toInt64) hx hb dX12_reader_23 rfl ?_
            refine lv_lconst (v := 0) hx hb dX12_reader_24 (by decide) ?_
            refine lv_iconst (v := 1) hx hb dX12_reader_25 (by decide) ?_
            refine lv_iload_n hx hb dX12_reader_26 rfl (lv_at hl 2 rfl) ?_
            refine w_ishl (v := 16) hx hb dX12_reader_27 (by decide) ?_
            refine lv_iconst (v := 1) hx hb dX12_reader_28 (by decide) ?_
            refine w_isub (v := 15) hx hb dX12_reader_29 (by decide) ?_
            refine lv_i2l (v := 15) hx hb dX12_reader_30 (by decide) ?_
            refine cp_i (va_runS (As := [.long t.toInt64, .long 0, .long 15]) (rest := []) ⟨hx, hb, hml, hown, hts⟩ (c_M_in l g cT H.size t.toInt64 0 15) (va_cwS 3 hts gX12_reader_X12_in rfl rfl rfl yd_X12_in.2 ⟨(Nat.le_of_ble_eq_true rfl), (Nat.le_of_ble_eq_true rfl)⟩) (preS (ws := []) (wc := []) rfl (fun _ _ h => by simp at h) (va_D_nil (A := A)) hK hN hZ hS hA [] rfl rfl) rfl rfl hl.1 rfl (lv_room (Nat.le_of_ble_eq_true rfl)) dX12_reader_31 ⟨(Nat.le_of_ble_eq_true rfl), (Nat.le_of_ble_eq_true rfl)⟩) hP hS hA (fun r_33 u H locs h_34 hP hS => ?_)
            rcases h_34 with ⟨rfl, h_35⟩ | ⟨rfl, h_36⟩
            · skip
              refine if_ne_t hx hb 40 dX12_reader_34 (by decide) (by decide) ?_
              refine lv_aload_n hx hb dX12_reader_40 rfl (lv_at hl 0 rfl) ?_
              refine va_get (C := RX12) (T := TX12) (N := 43) (v := .ref (qq 0)) hx hb hts hi_X12_reader_X12 hown hK hP 0 rfl rfl 0 (by decide) (hts (.fieldLink RX12 7 "BothWaysModel" "states" "[I") (by decide +kernel)) (fun _ h => h) rfl dX12_reader_41 ?_
              refine lv_iload_n hx hb dX12_reader_44 rfl (lv_at hl 1 rfl) ?_
              refine lv_iload_n hx hb dX12_reader_45 rfl (lv_at hl 2 rfl) ?_
              obtain ⟨f_37, ef_37⟩ : ∃ z, z = upd (fun _ => 1) (0 : Int32).toNatClampNeg 4 := ⟨_, rfl⟩
              refine w_iast (f' := f_37) hx hb hK hP hD hS 1 rfl dX12_reader_46 (inC (by decide)) ef_37.symm (fun H locs hP hD hS => ?_)
              have hP : va_P g vwCl [(y, .inr (12, [.ref (qq 0), .ref (qq 1), .ref (qq 2), .ref (qq 3), .ref (qq 4), .ref (qq 5), .int z6, .ref (qq 7), .ref (qq 8), .ref (qq 9), .ref (qq 10), .ref (qq 11), .int z12, .ref (qq 13), .int z14, .int z15, .int z16, .int z17, .ref (qq 18), .int z19, .ref (qq 20), .int z21, .int z22, .int z23, .int z24, .ref (qq 25), .int z26, .ref (qq 27), .ref (qq 28), .ref (qq 29), .int z30, .ref (qq 31), .ref (qq 32), .ref (qq 33), .ref (qq 34), .ref (qq 35), .ref (qq 36), .ref (qq 37), .ref (qq 38), .ref (qq 39), .ref (qq 40), .ref (qq 41), .ref (qq 42)])), ((qq 0), .inl (cT 0, 2, .inl f_37)), ((qq 1), .inl (cT 0, 2, .inl (fun _ => 0))), ((qq 2), .inl (cT 0, 50, .inl (fun _ => (-1))))] H := hP
              have hD : va_D A [(y, .inr (12, [.ref (qq 0), .ref (qq 1), .ref (qq 2), .ref (qq 3), .ref (qq 4), .ref (qq 5), .int z6, .ref (qq 7), .ref (qq 8), .ref (qq 9), .ref (qq 10), .ref (qq 11), .int z12, .ref (qq 13), .int z14, .int z15, .int z16, .int z17, .ref (qq 18), .int z19, .ref (qq 20), .int z21, .int z22, .int z23, .int z24, .ref (qq 25), .int z26, .ref (qq 27), .ref (qq 28), .ref (qq 29), .int z30, .ref (qq 31), .ref (qq 32), .ref (qq 33), .ref (qq 34), .ref (qq 35), .ref (qq 36), .ref (qq 37), .ref (qq 38), .ref (qq 39), .ref (qq 40), .ref (qq 41), .ref (qq 42)])), ((qq 0), .inl (cT 0, 2, .inl f_37)), ((qq 1), .inl (cT 0, 2, .inl (fun _ => 0))), ((qq 2), .inl (cT 0, 50, .inl (fun _ => (-1))))] := hD
              refine lv_aload_n hx hb dX12_reader_47 rfl (lv_at hl 0 rfl) ?_
              refine va_get (C := RX12) (T := TX12) (N := 43) (v := .ref (qq 1)) hx hb hts hi_X12_reader_X12 hown hK hP 0 rfl rfl 1 (by decide) (hts (.fieldLink RX12 13 "BothWaysModel" "takes" "[I") (by decide +kernel)) (fun _ h => h) rfl dX12_reader_48 ?_
              refine lv_iload_n hx hb dX12_reader_51 rfl (lv_at hl 1 rfl) ?_
              refine lv_iload_n hx hb dX12_reader_52 rfl (lv_at hl 3 rfl) ?_
              obtain ⟨f_38, ef_38⟩ : ∃ z, z = upd (fun _ => 0) (0 : Int32).toNatClampNeg t := ⟨_, rfl⟩
              refine w_iast (f' := f_38) hx hb hK hP hD hS 2 rfl dX12_reader_53 (inC (by decide)) ef_38.symm (fun H locs hP hD hS => ?_)
              have hP : va_P g vwCl [(y, .inr (12, [.ref (qq 0), .ref (qq 1), .ref (qq 2), .ref (qq 3), .ref (qq 4), .ref (qq 5), .int z6, .ref (qq 7), .ref (qq 8), .ref (qq 9), .ref (qq 10), .ref (qq 11), .int z12, .ref (qq 13), .int z14, .int z15, .int z16, .int z17, .ref (qq 18), .int z19, .ref (qq 20), .int z21, .int z22, .int z23, .int z24, .ref (qq 25), .int z26, .ref (qq 27), .ref (qq 28), .ref (qq 29), .int z30, .ref (qq 31), .ref (qq 32), .ref (qq 33), .ref (qq 34), .ref (qq 35), .ref (qq 36), .ref (qq 37), .ref (qq 38), .ref (qq 39), .ref (qq 40), .ref (qq 41), .ref (qq 42)])), ((qq 0), .inl (cT 0, 2, .inl f_37)), ((qq 1), .inl (cT 0, 2, .inl f_38)), ((qq 2), .inl (cT 0, 50, .inl (fun _ => (-1))))] H := hP
              have hD : va_D A [(y, .inr (12, [.ref (qq 0), .ref (qq 1), .ref (qq 2), .ref (qq 3), .ref (qq 4), .ref (qq 5), .int z6, .ref (qq 7), .ref (qq 8), .ref (qq 9), .ref (qq 10), .ref (qq 11), .int z12, .ref (qq 13), .int z14, .int z15, .int z16, .int z17, .ref (qq 18), .int z19, .ref (qq 20), .int z21, .int z22, .int z23, .int z24, .ref (qq 25), .int z26, .ref (qq 27), .ref (qq 28), .ref (qq 29), .int z30, .ref (qq 31), .ref (qq 32), .ref (qq 33), .ref (qq 34), .ref (qq 35), .ref (qq 36), .ref (qq 37), .ref (qq 38), .ref (qq 39), .ref (qq 40), .ref (qq 41), .ref (qq 42)])), ((qq 0), .inl (cT 0, 2, .inl f_37)), ((qq 1), .inl (cT 0, 2, .inl f_38)), ((qq 2), .inl (cT 0, 50, .inl (fun _ => (-1))))] := hD
              refine lv_bipush (v := 25) hx hb dX12_reader_54 (by decide) ?_
              refine lv_iload_n hx hb dX12_reader_56 rfl (lv_at hl 1 rfl) ?_
              refine w_imul (v := 0) hx hb dX12_reader_57 (by decide) ?_
              refine lv_istore (lv' := [(4, .int 0), (0, .ref y), (1, .int 0), (2, .int 4), (3, .int t)]) hx hb dX12_reader_58 hl (by decide) rfl (fun ls hl => ?_)
              have loop_39 : ∀ (fuel : Nat) (j : Nat), j ≤ 50 → 50 - j < fuel → ∀ (H : Heap) (locs : List Loc), va_P g vwCl [(y, .inr (12, [.ref (qq 0), .ref (qq 1), .ref (qq 2), .ref (qq 3), .ref (qq 4), .ref (qq 5), .int z6, .ref (qq 7), .ref (qq 8), .ref (qq 9), .ref (qq 10), .ref (qq 11), .int z12, .ref (qq 13), .int z14, .int z15, .int z16, .int z17, .ref (qq 18), .int z19, .ref (qq 20), .int z21, .int z22, .int z23, .int z24, .ref (qq 25), .int z26, .ref (qq 27), .ref (qq 28), .ref (qq 29), .int z30, .ref (qq 31), .ref (qq 32), .ref (qq 33), .ref (qq 34), .ref (qq 35), .ref (qq 36), .ref (qq 37), .ref (qq 38), .ref (qq 39), .ref (qq 40), .ref (qq 41), .ref (qq 42)])), ((qq 0), .inl (cT 0, 2, .inl f_37)), ((qq 1), .inl (cT 0, 2, .inl f_38)), ((qq 2), .inl (cT 0, 50, .inl (fun _ => (-1))))] H → va_D A [(y, .inr (12, [.ref (qq 0), .ref (qq 1), .ref (qq 2), .ref (qq 3), .ref (qq 4), .ref (qq 5), .int z6, .ref (qq 7), .ref (qq 8), .ref (qq 9), .ref (qq 10), .ref (qq 11), .int z12, .ref (qq 13), .int z14, .int z15, .int z16, .int z17, .ref (qq 18), .int z19, .ref (qq 20), .int z21, .int z22, .int z23, .int z24, .ref (qq 25), .int z26, .ref (qq 27), .ref (qq 28), .ref (qq 29), .int z30, .ref (qq 31), .ref (qq 32), .ref (qq 33), .ref (qq 34), .ref (qq 35), .ref (qq 36), .ref (qq 37), .ref (qq 38), .ref (qq 39), .ref (qq 40), .ref (qq 41), .ref (qq 42)])), ((qq 0), .inl (cT 0, 2, .inl f_37)), ((qq 1), .inl (cT 0, 2, .inl f_38)), ((qq 2), .inl (cT 0, 50, .inl (fun _ => (-1))))] → va_S A s.heap H locs → ∀ ls : Array Slot, lv_has ls 5 [(4, .int (nI j)), (0, .ref y), (1, .int 0), (2, .int 4), (3, .int t)] → W p l e rm_c_M_reader s m args below meth c H locs 0 0 Q (F0 m 60 ls []) := by
                intro fuel
                induction fuel with
                | zero => intro j hj hfu; omega
                | succ fuel ih_loop_39 =>
                  intro j hj hfu H locs hP hD hS ls hl
                  refine lv_iload hx hb dX12_reader_60 (lv_at hl 0 rfl) ?_
                  refine lv_bipush (v := 25) hx hb dX12_reader_62 (by decide) ?_
                  refine lv_iload_n hx hb dX12_reader_64 rfl (lv_at hl 2 rfl) ?_
                  refine w_imul (v := 0) hx hb dX12_reader_65 (by decide) ?_
                  refine lv_bipush (v := 25) hx hb dX12_reader_66 (by decide) ?_
                  refine w_iadd (v := 25) hx hb dX12_reader_68 (by decide) ?_
                  refine lv_icmp_ge (tgt := 86) hx hb dX12_reader_69 (by decide) (fun c_40 => ?_) (fun c_40 => ?_)
                  · skip
                    refine lv_iconst (v := 1) hx hb dX12_reader_86 (by decide) ?_
                    exact rt_i hx hb hr hlocks hQ hP hD hS () [] dX12_reader_87 rfl (Nat.le_of_ble_eq_true rfl) (Nat.le_of_ble_eq_true rfl) rfl (by decide) (lf_c_M_reader_7 t j h_35 hj c_40)
                  · skip
                    have hlt : j < 25 := Nat.lt_of_not_le (fun h => c_40 (nI_le (a := 25) h (by omega)))
                    refine lv_aload_n hx hb dX12_reader_72 rfl (lv_at hl 1 rfl) ?_
                    refine va_get (C := RX12) (T := TX12) (N := 43) (v := .ref (qq 2)) hx hb hts hi_X12_reader_X12 hown hK hP 0 rfl rfl 2 (by decide) (hts (.fieldLink RX12 16 "BothWaysModel" "goTo" "[I") (by decide +kernel)) (fun _ h => h) rfl dX12_reader_73 ?_
                    refine lv_iload hx hb dX12_reader_76 (lv_at hl 0 rfl) ?_
                    refine lv_iconst (v := (-1)) hx hb dX12_reader_78 (by decide) ?_
                    refine w_iast (f' := (fun _ => (-1))) hx hb hK hP hD hS 3 rfl dX12_reader_79 (vp_in_nI (show j < 50 by omega) (by decide)) (upd_c _ _) (fun H locs hP hD hS => ?_)
                    have hP : va_P g vwCl [(y, .inr (12, [.ref (qq 0), .ref (qq 1), .ref (qq 2), .ref (qq 3), .ref (qq 4), .ref (qq 5), .int z6, .ref (qq 7), .ref (qq 8), .ref (qq 9), .ref (qq 10), .ref (qq 11), .int z12, .ref (qq 13), .int z14, .int z15, .int z16, .int z17, .ref (qq 18), .int z19, .ref (qq 20), .int z21, .int z22, .int z23, .int z24, .ref (qq 25), .int z26, .ref (qq 27), .ref (qq 28), .ref (qq 29), .int z30, .ref (qq 31), .ref (qq 32), .ref (qq 33), .ref (qq 34), .ref (qq 35), .ref (qq 36), .ref (qq 37), .ref (qq 38), .ref (qq 39), .ref (qq 40), .ref (qq 41), .ref (qq 42)])), ((qq 0), .inl (cT 0, 2, .inl f_37)), ((qq 1), .inl (cT 0, 2, .inl f_38)), ((qq 2), .inl (cT 0, 50, .inl (fun _ => (-1))))] H := hP
                    have hD : va_D A [(y, .inr (12, [.ref (qq 0), .ref (qq 1), .ref (qq 2), .ref (qq 3), .ref (qq 4), .ref (qq 5), .int z6, .ref (qq 7), .ref (qq 8), .ref (qq 9), .ref (qq 10), .ref (qq 11), .int z12, .ref (qq 13), .int z14, .int z15, .int z16, .int z17, .ref (qq 18), .int z19, .ref (qq 20), .int z21, .int z22, .int z23, .int z24, .ref (qq 25), .int z26, .ref (qq 27), .ref (qq 28), .ref (qq 29), .int z30, .ref (qq 31), .ref (qq 32), .ref (qq 33), .ref (qq 34), .ref (qq 35), .ref (qq 36), .ref (qq 37), .ref (qq 38), .ref (qq 39), .ref (qq 40), .ref (qq 41), .ref (qq 42)])), ((qq 0), .inl (cT 0, 2, .inl f_37)), ((qq 1), .inl (cT 0, 2, .inl f_38)), ((qq 2), .inl (cT 0, 50, .inl (fun _ => (-1))))] := hD
                    refine lv_iinc (v := (nI (j + 1))) (lv' := [(4, .int (nI (j + 1))), (0, .ref y), (1, .int 0), (2, .int 4), (3, .int t)]) hx hb dX12_reader_80 hl (k := 0) rfl (nI_1 j) (by decide) rfl (fun ls hl => ?_)
                    refine lv_goto (tgt := 60) hx hb dX12_reader_83 (by decide) ?_
                    exact ih_loop_39 (j + 1) (by omega) (by omega) _ _ (hP.sub [0, 1, 2, 3] rfl) (hD.sub [0, 1, 2, 3] (by decide) rfl) hS ls (lv_sub hl [0, 1, 2, 3, 4] rfl)
              exact loop_39 _ 0 (by decide) (Nat.lt_succ_self _) _ _ (hP.sub [0, 1, 2, 3] rfl) (hD.sub [0, 1, 2, 3] (by decide) rfl) hS ls (lv_sub hl [0, 1, 2, 3, 4] rfl)
            · skip
              refine if_ne_f hx hb dX12_reader_34 40 (by decide) (by decide) ?_
              refine lv_bipush (v := (-3)) hx hb dX12_reader_37 (by decide) ?_
              exact rt_i hx hb hr hlocks hQ hP hD hS () [] dX12_reader_39 rfl (Nat.le_of_ble_eq_true rfl) (Nat.le_of_ble_eq_true rfl) rfl (by decide) (lf_c_M_reader_8 t h_36)
          · skip
            refine if_eq_f hx hb dX12_reader_19 37 (by decide) (by decide) ?_
            refine lv_iload_n hx hb dX12_reader_22 rfl (lv_at hl 3 rfl) ?_
            refine lv_i2l (v := t.toInt64) hx hb dX12_reader_23 rfl ?_
            refine lv_lconst (v := 0) hx hb dX12_reader_24 (by decide) ?_
            refine lv_iconst (v := 1) hx hb dX12_reader_25 (by decide) ?_
            refine lv_iload_n hx hb dX12_reader_26 rfl (lv_at hl 2 rfl) ?_
            refine w_ishl (v := 32) hx hb dX12_reader_27 (by decide) ?_
            refine lv_iconst (v := 1) hx hb dX12_reader_28 (by decide) ?_
            refine w_isub (v := 31) hx hb dX12_reader_29 (by decide) ?_
            refine lv_i2l (v := 31) hx hb dX12_reader_30 (by decide) ?_
            refine cp_i (va_runS (As := [.long t.toInt64, .long 0, .long 31]) (rest := []) ⟨hx, hb, hml, hown, hts⟩ (c_M_in l g cT H.size t.toInt64 0 31) (va_cwS 3 hts gX12_reader_X12_in rfl rfl rfl yd_X12_in.2 ⟨(Nat.le_of_ble_eq_true rfl), (Nat.le_of_ble_eq_true rfl)⟩) (preS (ws := []) (wc := []) rfl (fun _ _ h => by simp at h) (va_D_nil (A := A)) hK hN hZ hS hA [] rfl rfl) rfl rfl hl.1 rfl (lv_room (Nat.le_of_ble_eq_true rfl)) dX12_reader_31 ⟨(Nat.le_of_ble_eq_true rfl), (Nat.le_of_ble_eq_true rfl)⟩) hP hS hA (fun r_41 u H locs h_42 hP hS => ?_)
            rcases h_42 with ⟨rfl, h_43⟩ | ⟨rfl, h_44⟩
            · skip
              refine if_ne_t hx hb 40 dX12_reader_34 (by decide) (by decide) ?_
              refine lv_aload_n hx hb dX12_reader_40 rfl (lv_at hl 0 rfl) ?_
              refine va_get (C := RX12) (T := TX12) (N := 43) (v := .ref (qq 0)) hx hb hts hi_X12_reader_X12 hown hK hP 0 rfl rfl 0 (by decide) (hts (.fieldLink RX12 7 "BothWaysModel" "states" "[I") (by decide +kernel)) (fun _ h => h) rfl dX12_reader_41 ?_
              refine lv_iload_n hx hb dX12_reader_44 rfl (lv_at hl 1 rfl) ?_
              refine lv_iload_n hx hb dX12_reader_45 rfl (lv_at hl 2 rfl) ?_
              obtain ⟨f_45, ef_45⟩ : ∃ z, z = upd (fun _ => 1) (0 : Int32).toNatClampNeg 5 := ⟨_, rfl⟩
              refine w_iast (f' := f_45) hx hb hK hP hD hS 1 rfl dX12_reader_46 (inC (by decide)) ef_45.symm (fun H locs hP hD hS => ?_)
              have hP : va_P g vwCl [(y, .inr (12, [.ref (qq 0), .ref (qq 1), .ref (qq 2), .ref (qq 3), .ref (qq 4), .ref (qq 5), .int z6, .ref (qq 7), .ref (qq 8), .ref (qq 9), .ref (qq 10), .ref (qq 11), .int z12, .ref (qq 13), .int z14, .int z15, .int z16, .int z17, .ref (qq 18), .int z19, .ref (qq 20), .int z21, .int z22, .int z23, .int z24, .ref (qq 25), .int z26, .ref (qq 27), .ref (qq 28), .ref (qq 29), .int z30, .ref (qq 31), .ref (qq 32), .ref (qq 33), .ref (qq 34), .ref (qq 35), .ref (qq 36), .ref (qq 37), .ref (qq 38), .ref (qq 39), .ref (qq 40), .ref (qq 41), .ref (qq 42)])), ((qq 0), .inl (cT 0, 2, .inl f_45)), ((qq 1), .inl (cT 0, 2, .inl (fun _ => 0))), ((qq 2), .inl (cT 0, 50, .inl (fun _ => (-1))))] H := hP
              have hD : va_D A [(y, .inr (12, [.ref (qq 0), .ref (qq 1), .ref (qq 2), .ref (qq 3), .ref (qq 4), .ref (qq 5), .int z6, .ref (qq 7), .ref (qq 8), .ref (qq 9), .ref (qq 10), .ref (qq 11), .int z12, .ref (qq 13), .int z14, .int z15, .int z16, .int z17, .ref (qq 18), .int z19, .ref (qq 20), .int z21, .int z22, .int z23, .int z24, .ref (qq 25), .int z26, .ref (qq 27), .ref (qq 28), .ref (qq 29), .int z30, .ref (qq 31), .ref (qq 32), .ref (qq 33), .ref (qq 34), .ref (qq 35), .ref (qq 36), .ref (qq 37), .ref (qq 38), .ref (qq 39), .ref (qq 40), .ref (qq 41), .ref (qq 42)])), ((qq 0), .inl (cT 0, 2, .inl f_45)), ((qq 1), .inl (cT 0, 2, .inl (fun _ => 0))), ((qq 2), .inl (cT 0, 50, .inl (fun _ => (-1))))] := hD
              refine lv_aload_n hx hb dX12_reader_47 rfl (lv_at hl 0 rfl) ?_
              refine va_get (C := RX12) (T := TX12) (N := 43) (v := .ref (qq 1)) hx hb hts hi_X12_reader_X12 hown hK hP 0 rfl rfl 1 (by decide) (hts (.fieldLink RX12 13 "BothWaysModel" "takes" "[I") (by decide +kernel)) (fun _ h => h) rfl dX12_reader_48 ?_
              refine lv_iload_n hx hb dX12_reader_51 rfl (lv_at hl 1 rfl) ?_
              refine lv_iload_n hx hb dX12_reader_52 rfl (lv_at hl 3 rfl) ?_
              obtain ⟨f_46, ef_46⟩ : ∃ z, z = upd (fun _ => 0) (0 : Int32).toNatClampNeg t := ⟨_, rfl⟩
              refine w_iast (f' := f_46) hx hb hK hP hD hS 2 rfl dX12_reader_53 (inC (by decide)) ef_46.symm (fun H locs hP hD hS => ?_)
              have hP : va_P g vwCl [(y, .inr (12, [.ref (qq 0), .ref (qq 1), .ref (qq 2), .ref (qq 3), .ref (qq 4), .ref (qq 5), .int z6, .ref (qq 7), .ref (qq 8), .ref (qq 9), .ref (qq 10), .ref (qq 11), .int z12, .ref (qq 13), .int z14, .int z15, .int z16, .int z17, .ref (qq 18), .int z19, .ref (qq 20), .int z21, .int z22, .int z23, .int z24, .ref (qq 25), .int z26, .ref (qq 27), .ref (qq 28), .ref (qq 29), .int z30, .ref (qq 31), .ref (qq 32), .ref (qq 33), .ref (qq 34), .ref (qq 35), .ref (qq 36), .ref (qq 37), .ref (qq 38), .ref (qq 39), .ref (qq 40), .ref (qq 41), .ref (qq 42)])), ((qq 0), .inl (cT 0, 2, .inl f_45)), ((qq 1), .inl (cT 0, 2, .inl f_46)), ((qq 2), .inl (cT 0, 50, .inl (fun _ => (-1))))] H := hP
              have hD : va_D A [(y, .inr (12, [.ref (qq 0), .ref (qq 1), .ref (qq 2), .ref (qq 3), .ref (qq 4), .ref (qq 5), .int z6, .ref (qq 7), .ref (qq 8), .ref (qq 9), .ref (qq 10), .ref (qq 11), .int z12, .ref (qq 13), .int z14, .int z15, .int z16, .int z17, .ref (qq 18), .int z19, .ref (qq 20), .int z21, .int z22, .int z23, .int z24, .ref (qq 25), .int z26, .ref (qq 27), .ref (qq 28), .ref (qq 29), .int z30, .ref (qq 31), .ref (qq 32), .ref (qq 33), .ref (qq 34), .ref (qq 35), .ref (qq 36), .ref (qq 37), .ref (qq 38), .ref (qq 39), .ref (qq 40), .ref (qq 41), .ref (qq 42)])), ((qq 0), .inl (cT 0, 2, .inl f_45)), ((qq 1), .inl (cT 0, 2, .inl f_46)), ((qq 2), .inl (cT 0, 50, .inl (fun _ => (-1))))] := hD
              refine lv_bipush (v := 25) hx hb dX12_reader_54 (by decide) ?_
              refine lv_iload_n hx hb dX12_reader_56 rfl (lv_at hl 1 rfl) ?_
              refine w_imul (v := 0) hx hb dX12_reader_57 (by decide) ?_
              refine lv_istore (lv' := [(4, .int 0), (0, .ref y), (1, .int 0), (2, .int 5), (3, .int t)]) hx hb dX12_reader_58 hl (by decide) rfl (fun ls hl => ?_)
              have loop_47 : ∀ (fuel : Nat) (j : Nat), j ≤ 50 → 50 - j < fuel → ∀ (H : Heap) (locs : List Loc), va_P g vwCl [(y, .inr (12, [.ref (qq 0), .ref (qq 1), .ref (qq 2), .ref (qq 3), .ref (qq 4), .ref (qq 5), .int z6, .ref (qq 7), .ref (qq 8), .ref (qq 9), .ref (qq 10), .ref (qq 11), .int z12, .ref (qq 13), .int z14, .int z15, .int z16, .int z17, .ref (qq 18), .int z19, .ref (qq 20), .int z21, .int z22, .int z23, .int z24, .ref (qq 25), .int z26, .ref (qq 27), .ref (qq 28), .ref (qq 29), .int z30, .ref (qq 31), .ref (qq 32), .ref (qq 33), .ref (qq 34), .ref (qq 35), .ref (qq 36), .ref (qq 37), .ref (qq 38), .ref (qq 39), .ref (qq 40), .ref (qq 41), .ref (qq 42)])), ((qq 0), .inl (cT 0, 2, .inl f_45)), ((qq 1), .inl (cT 0, 2, .inl f_46)), ((qq 2), .inl (cT 0, 50, .inl (fun _ => (-1))))] H → va_D A [(y, .inr (12, [.ref (qq 0), .ref (qq 1), .ref (qq 2), .ref (qq 3), .ref (qq 4), .ref (qq 5), .int z6, .ref (qq 7), .ref (qq 8), .ref (qq 9), .ref (qq 10), .ref (qq 11), .int z12, .ref (qq 13), .int z14, .int z15, .int z16, .int z17, .ref (qq 18), .int z19, .ref (qq 20), .int z21, .int z22, .int z23, .int z24, .ref (qq 25), .int z26, .ref (qq 27), .ref (qq 28), .ref (qq 29), .int z30, .ref (qq 31), .ref (qq 32), .ref (qq 33), .ref (qq 34), .ref (qq 35), .ref (qq 36), .ref (qq 37), .ref (qq 38), .ref (qq 39), .ref (qq 40), .ref (qq 41), .ref (qq 42)])), ((qq 0), .inl (cT 0, 2, .inl f_45)), ((qq 1), .inl (cT 0, 2, .inl f_46)), ((qq 2), .inl (cT 0, 50, .inl (fun _ => (-1))))] → va_S A s.heap H locs → ∀ ls : Array Slot, lv_has ls 5 [(4, .int (nI j)), (0, .ref y), (1, .int 0), (2, .int 5), (3, .int t)] → W p l e rm_c_M_reader s m args below meth c H locs 0 0 Q (F0 m 60 ls []) := by
                intro fuel
                induction fuel with
                | zero => intro j hj hfu; omega
                | succ fuel ih_loop_47 =>
                  intro j hj hfu H locs hP hD hS ls hl
                  refine lv_iload hx hb dX12_reader_60 (lv_at hl 0 rfl) ?_
                  refine lv_bipush (v := 25) hx hb dX12_reader_62 (by decide) ?_
                  refine lv_iload_n hx hb dX12_reader_64 rfl (lv_at hl 2 rfl) ?_
                  refine w_imul (v := 0) hx hb dX12_reader_65 (by decide) ?_
                  refine lv_bipush (v := 25) hx hb dX12_reader_66 (by decide) ?_
                  refine w_iadd (v := 25) hx hb dX12_reader_68 (by decide) ?_
                  refine lv_icmp_ge (tgt := 86) hx hb dX12_reader_69 (by decide) (fun c_48 => ?_) (fun c_48 => ?_)
                  · skip
                    refine lv_iconst (v := 1) hx hb dX12_reader_86 (by decide) ?_
                    exact rt_i hx hb hr hlocks hQ hP hD hS () [] dX12_reader_87 rfl (Nat.le_of_ble_eq_true rfl) (Nat.le_of_ble_eq_true rfl) rfl (by decide) (lf_c_M_reader_9 t j h_43 hj c_48)
                  · skip
                    have hlt : j < 25 := Nat.lt_of_not_le (fun h => c_48 (nI_le (a := 25) h (by omega)))
                    refine lv_aload_n hx hb dX12_reader_72 rfl (lv_at hl 1 rfl) ?_
                    refine va_get (C := RX12) (T := TX12) (N := 43) (v := .ref (qq 2)) hx hb hts hi_X12_reader_X12 hown hK hP 0 rfl rfl 2 (by decide) (hts (.fieldLink RX12 16 "BothWaysModel" "goTo" "[I") (by decide +kernel)) (fun _ h => h) rfl dX12_reader_73 ?_
                    refine lv_iload hx hb dX12_reader_76 (lv_at hl 0 rfl) ?_
                    refine lv_iconst (v := (-1)) hx hb dX12_reader_78 (by decide) ?_
                    refine w_iast (f' := (fun _ => (-1))) hx hb hK hP hD hS 3 rfl dX12_reader_79 (vp_in_nI (show j < 50 by omega) (by decide)) (upd_c _ _) (fun H locs hP hD hS => ?_)
                    have hP : va_P g vwCl [(y, .inr (12, [.ref (qq 0), .ref (qq 1), .ref (qq 2), .ref (qq 3), .ref (qq 4), .ref (qq 5), .int z6, .ref (qq 7), .ref (qq 8), .ref (qq 9), .ref (qq 10), .ref (qq 11), .int z12, .ref (qq 13), .int z14, .int z15, .int z16, .int z17, .ref (qq 18), .int z19, .ref (qq 20), .int z21, .int z22, .int z23, .int z24, .ref (qq 25), .int z26, .ref (qq 27), .ref (qq 28), .ref (qq 29), .int z30, .ref (qq 31), .ref (qq 32), .ref (qq 33), .ref (qq 34), .ref (qq 35), .ref (qq 36), .ref (qq 37), .ref (qq 38), .ref (qq 39), .ref (qq 40), .ref (qq 41), .ref (qq 42)])), ((qq 0), .inl (cT 0, 2, .inl f_45)), ((qq 1), .inl (cT 0, 2, .inl f_46)), ((qq 2), .inl (cT 0, 50, .inl (fun _ => (-1))))] H := hP
                    have hD : va_D A [(y, .inr (12, [.ref (qq 0), .ref (qq 1), .ref (qq 2), .ref (qq 3), .ref (qq 4), .ref (qq 5), .int z6, .ref (qq 7), .ref (qq 8), .ref (qq 9), .ref (qq 10), .ref (qq 11), .int z12, .ref (qq 13), .int z14, .int z15, .int z16, .int z17, .ref (qq 18), .int z19, .ref (qq 20), .int z21, .int z22, .int z23, .int z24, .ref (qq 25), .int z26, .ref (qq 27), .ref (qq 28), .ref (qq 29), .int z30, .ref (qq 31), .ref (qq 32), .ref (qq 33), .ref (qq 34), .ref (qq 35), .ref (qq 36), .ref (qq 37), .ref (qq 38), .ref (qq 39), .ref (qq 40), .ref (qq 41), .ref (qq 42)])), ((qq 0), .inl (cT 0, 2, .inl f_45)), ((qq 1), .inl (cT 0, 2, .inl f_46)), ((qq 2), .inl (cT 0, 50, .inl (fun _ => (-1))))] := hD
                    refine lv_iinc (v := (nI (j + 1))) (lv' := [(4, .int (nI (j + 1))), (0, .ref y), (1, .int 0), (2, .int 5), (3, .int t)]) hx hb dX12_reader_80 hl (k := 0) rfl (nI_1 j) (by decide) rfl (fun ls hl => ?_)
                    refine lv_goto (tgt := 60) hx hb dX12_reader_83 (by decide) ?_
                    exact ih_loop_47 (j + 1) (by omega) (by omega) _ _ (hP.sub [0, 1, 2, 3] rfl) (hD.sub [0, 1, 2, 3] (by decide) rfl) hS ls (lv_sub hl [0, 1, 2, 3, 4] rfl)
              exact loop_47 _ 0 (by decide) (Nat.lt_succ_self _) _ _ (hP.sub [0, 1, 2, 3] rfl) (hD.sub [0, 1, 2, 3] (by decide) rfl) hS ls (lv_sub hl [0, 1, 2, 3, 4] rfl)
            · skip
              refine if_ne_f hx hb dX12_reader_34 40 (by decide) (by decide) ?_
              refine lv_bipush (v := (-3)) hx hb dX12_reader_37 (by decide) ?_
              exact rt_i hx hb hr hlocks hQ hP hD hS () [] dX12_reader_39 rfl (Nat.le_of_ble_eq_true rfl) (Nat.le_of_ble_eq_true rfl) rfl (by decide) (lf_c_M_reader_10 t h_44)
        · skip
          refine if_eq_t hx hb 37 dX12_reader_19 (by decide) (by decide) ?_
          refine lv_bipush (v := (-3)) hx hb dX12_reader_37 (by decide) ?_
          exact rt_i hx hb hr hlocks hQ hP hD hS () [] dX12_reader_39 rfl (Nat.le_of_ble_eq_true rfl) (Nat.le_of_ble_eq_true rfl) rfl (by decide) (lf_c_M_reader_11 n t h_8)
      · skip
        refine if_ne_t hx hb 10 dX12_reader_4 (by decide) (by decide) ?_
        refine lv_iload_n hx hb dX12_reader_10 rfl (lv_at hl 2 rfl) ?_
        refine lv_i2l (v := n.toInt64) hx hb dX12_reader_11 rfl ?_
        refine lv_lconst (v := 1) hx hb dX12_reader_12 (by decide) ?_
        refine lv_ldc2 (v := 5) hx hb hown (hts (.constantLong RX12 110 (5)) (by decide +kernel)) dX12_reader_13 ?_
        refine cp_i (va_runS (As := [.long n.toInt64, .long 1, .long 5]) (rest := []) ⟨hx, hb, hml, hown, hts⟩ (c_M_in l g cT H.size n.toInt64 1 5) (va_cwS 3 hts gX12_reader_X12_in rfl rfl rfl yd_X12_in.2 ⟨(Nat.le_of_ble_eq_true rfl), (Nat.le_of_ble_eq_true rfl)⟩) (preS (ws := []) (wc := []) rfl (fun _ _ h => by simp at h) (va_D_nil (A := A)) hK hN hZ hS hA [] rfl rfl) rfl rfl hl.1 rfl (lv_room (Nat.le_of_ble_eq_true rfl)) dX12_reader_16 ⟨(Nat.le_of_ble_eq_true rfl), (Nat.le_of_ble_eq_true rfl)⟩) hP hS hA (fun r_49 u H locs h_50 hP hS => ?_)
        rcases h_50 with ⟨rfl, h_51⟩ | ⟨rfl, h_52⟩
        · skip
          rcases (lf_c_M_reader_12 n h_51) with rfl | rfl | rfl | rfl | rfl
          · skip
            refine if_eq_f hx hb dX12_reader_19 37 (by decide) (by decide) ?_
            refine lv_iload_n hx hb dX12_reader_22 rfl (lv_at hl 3 rfl) ?_
            refine lv_i2l (v := t.toInt64) hx hb dX12_reader_23 rfl ?_
            refine lv_lconst (v := 0) hx hb dX12_reader_24 (by decide) ?_
            refine lv_iconst (v := 1) hx hb dX12_reader_25 (by decide) ?_
            refine lv_iload_n hx hb dX12_reader_26 rfl (lv_at hl 2 rfl) ?_
            refine w_ishl (v := 2) hx hb dX12_reader_27 (by decide) ?_
            refine lv_iconst (v := 1) hx hb dX12_reader_28 (by decide) ?_
            refine w_isub (v := 1) hx hb dX12_reader_29 (by decide) ?_
            refine lv_i2l (v := 1) hx hb dX12_reader_30 (by decide) ?_
            refine cp_i (va_runS (As := [.long t.toInt64, .long 0, .long 1]) (rest := []) ⟨hx, hb, hml, hown, hts⟩ (c_M_in l g cT H.size t.toInt64 0 1) (va_cwS 3 hts gX12_reader_X12_in rfl rfl rfl yd_X12_in.2 ⟨(Nat.le_of_ble_eq_true rfl), (Nat.le_of_ble_eq_true rfl)⟩) (preS (ws := []) (wc := []) rfl (fun _ _ h => by simp at h) (va_D_nil (A := A)) hK hN hZ hS hA [] rfl rfl) rfl rfl hl.1 rfl (lv_room (Nat.le_of_ble_eq_true rfl)) dX12_reader_31 ⟨(Nat.le_of_ble_eq_true rfl), (Nat.le_of_ble_eq_true rfl)⟩) hP hS hA (fun r_53 u H locs h_54 hP hS => ?_)
            rcases h_54 with ⟨rfl, h_55⟩ | ⟨rfl, h_56⟩
            · skip
              refine if_ne_t hx hb 40 dX12_reader_34 (by decide) (by decide) ?_
              refine lv_aload_n hx hb dX12_reader_40 rfl (lv_at hl 0 rfl) ?_
              refine va_get (C := RX12) (T := TX12) (N := 43) (v := .ref (qq 0)) hx hb hts hi_X12_reader_X12 hown hK hP 0 rfl rfl 0 (by decide) (hts (.fieldLink RX12 7 "BothWaysModel" "states" "[I") (by decide +kernel)) (fun _ h => h) rfl dX12_reader_41 ?_
              refine lv_iload_n hx hb dX12_reader_44 rfl (lv_at hl 1 rfl) ?_
              refine lv_iload_n hx hb dX12_reader_45 rfl (lv_at hl 2 rfl) ?_
              obtain ⟨f_57, ef_57⟩ : ∃ z, z = upd (fun _ => 1) (1 : Int32).toNatClampNeg 1 := ⟨_, rfl⟩
              refine w_iast (f' := f_57) hx hb hK hP hD hS 1 rfl dX12_reader_46 (inC (by decide)) ef_57.symm (fun H locs hP hD hS => ?_)
              have hP : va_P g vwCl [(y, .inr (12, [.ref (qq 0), .ref (qq 1), .ref (qq 2), .ref (qq 3), .ref (qq 4), .ref (qq 5), .int z6, .ref (qq 7), .ref (qq 8), .ref (qq 9), .ref (qq 10), .ref (qq 11), .int z12, .ref (qq 13), .int z14, .int z15, .int z16, .int z17, .ref (qq 18), .int z19, .ref (qq 20), .int z21, .int z22, .int z23, .int z24, .ref (qq 25), .int z26, .ref (qq 27), .ref (qq 28), .ref (qq 29), .int z30, .ref (qq 31), .ref (qq 32), .ref (qq 33), .ref (qq 34), .ref (qq 35), .ref (qq 36), .ref (qq 37), .ref (qq 38), .ref (qq 39), .ref (qq 40), .ref (qq 41), .ref (qq 42)])), ((qq 0), .inl (cT 0, 2, .inl f_57)), ((qq 1), .inl (cT 0, 2, .inl (fun _ => 0))), ((qq 2), .inl (cT 0, 50, .inl (fun _ => (-1))))] H := hP
              have hD : va_D A [(y, .inr (12, [.ref (qq 0), .ref (qq 1), .ref (qq 2), .ref (qq 3), .ref (qq 4), .ref (qq 5), .int z6, .ref (qq 7), .ref (qq 8), .ref (qq 9), .ref (qq 10), .ref (qq 11), .int z12, .ref (qq 13), .int z14, .int z15, .int z16, .int z17, .ref (qq 18), .int z19, .ref (qq 20), .int z21, .int z22, .int z23, .int z24, .ref (qq 25), .int z26, .ref (qq 27), .ref (qq 28), .ref (qq 29), .int z30, .ref (qq 31), .ref (qq 32), .ref (qq 33), .ref (qq 34), .ref (qq 35), .ref (qq 36), .ref (qq 37), .ref (qq 38), .ref (qq 39), .ref (qq 40), .ref (qq 41), .ref (qq 42)])), ((qq 0), .inl (cT 0, 2, .inl f_57)), ((qq 1), .inl (cT 0, 2, .inl (fun _ => 0))), ((qq 2), .inl (cT 0, 50, .inl (fun _ => (-1))))] := hD
              refine lv_aload_n hx hb dX12_reader_47 rfl (lv_at hl 0 rfl) ?_
              refine va_get (C := RX12) (T := TX12) (N := 43) (v := .ref (qq 1)) hx hb hts hi_X12_reader_X12 hown hK hP 0 rfl rfl 1 (by decide) (hts (.fieldLink RX12 13 "BothWaysModel" "takes" "[I") (by decide +kernel)) (fun _ h => h) rfl dX12_reader_48 ?_
              refine lv_iload_n hx hb dX12_reader_51 rfl (lv_at hl 1 rfl) ?_
              refine lv_iload_n hx hb dX12_reader_52 rfl (lv_at hl 3 rfl) ?_
              obtain ⟨f_58, ef_58⟩ : ∃ z, z = upd (fun _ => 0) (1 : Int32).toNatClampNeg t := ⟨_, rfl⟩
              refine w_iast (f' := f_58) hx hb hK hP hD hS 2 rfl dX12_reader_53 (inC (by decide)) ef_58.symm (fun H locs hP hD hS => ?_)
              have hP : va_P g vwCl [(y, .inr (12, [.ref (qq 0), .ref (qq 1), .ref (qq 2), .ref (qq 3), .ref (qq 4), .ref (qq 5), .int z6, .ref (qq 7), .ref (qq 8), .ref (qq 9), .ref (qq 10), .ref (qq 11), .int z12, .ref (qq 13), .int z14, .int z15, .int z16, .int z17, .ref (qq 18), .int z19, .ref (qq 20), .int z21, .int z22, .int z23, .int z24, .ref (qq 25), .int z26, .ref (qq 27), .ref (qq 28), .ref (qq 29), .int z30, .ref (qq 31), .ref (qq 32), .ref (qq 33), .ref (qq 34), .ref (qq 35), .ref (qq 36), .ref (qq 37), .ref (qq 38), .ref (qq 39), .ref (qq 40), .ref (qq 41), .ref (qq 42)])), ((qq 0), .inl (cT 0, 2, .inl f_57)), ((qq 1), .inl (cT 0, 2, .inl f_58)), ((qq 2), .inl (cT 0, 50, .inl (fun _ => (-1))))] H := hP
              have hD : va_D A [(y, .inr (12, [.ref (qq 0), .ref (qq 1), .ref (qq 2), .ref (qq 3), .ref (qq 4), .ref (qq 5), .int z6, .ref (qq 7), .ref (qq 8), .ref (qq 9), .ref (qq 10), .ref (qq 11), .int z12, .ref (qq 13), .int z14, .int z15, .int z16, .int z17, .ref (qq 18), .int z19, .ref (qq 20), .int z21, .int z22, .int z23, .int z24, .ref (qq 25), .int z26, .ref (qq 27), .ref (qq 28), .ref (qq 29), .int z30, .ref (qq 31), .ref (qq 32), .ref (qq 33), .ref (qq 34), .ref (qq 35), .ref (qq 36), .ref (qq 37), .ref (qq 38), .ref (qq 39), .ref (qq 40), .ref (qq 41), .ref (qq 42)])), ((qq 0), .inl (cT 0, 2, .inl f_57)), ((qq 1), .inl (cT 0, 2, .inl f_58)), ((qq 2), .inl (cT 0, 50, .inl (fun _ => (-1))))] := hD
              refine lv_bipush (v := 25) hx hb dX12_reader_54 (by decide) ?_
              refine lv_iload_n hx hb dX12_reader_56 rfl (lv_at hl 1 rfl) ?_
              refine w_imul (v := 25) hx hb dX12_reader_57 (by decide) ?_
              refine lv_istore (lv' := [(4, .int 25), (0, .ref y), (1, .int 1), (2, .int 1), (3, .int t)]) hx hb dX12_reader_58 hl (by decide) rfl (fun ls hl => ?_)
              have loop_59 : ∀ (fuel : Nat) (j : Nat), j ≤ 50 → 50 - j < fuel → ∀ (H : Heap) (locs : List Loc), va_P g vwCl [(y, .inr (12, [.ref (qq 0), .ref (qq 1), .ref (qq 2), .ref (qq 3), .ref (qq 4), .ref (qq 5), .int z6, .ref (qq 7), .ref (qq 8), .ref (qq 9), .ref (qq 10), .ref (qq 11), .int z12, .ref (qq 13), .int z14, .int z15, .int z16, .int z17, .ref (qq 18), .int z19, .ref (qq 20), .int z21, .int z22, .int z23, .int z24, .ref (qq 25), .int z26, .ref (qq 27), .ref (qq 28), .ref (qq 29), .int z30, .ref (qq 31), .ref (qq 32), .ref (qq 33), .ref (qq 34), .ref (qq 35), .ref (qq 36), .ref (qq 37), .ref (qq 38), .ref (qq 39), .ref (qq 40), .ref (qq 41), .ref (qq 42)])), ((qq 0), .inl (cT 0, 2, .inl f_57)), ((qq 1), .inl (cT 0, 2, .inl f_58)), ((qq 2), .inl (cT 0, 50, .inl (fun _ => (-1))))] H → va_D A [(y, .inr (12, [.ref (qq 0), .ref (qq 1), .ref (qq 2), .ref (qq 3), .ref (qq 4), .ref (qq 5), .int z6, .ref (qq 7), .ref (qq 8), .ref (qq 9), .ref (qq 10), .ref (qq 11), .int z12, .ref (qq 13), .int z14, .int z15, .int z16, .int z17, .ref (qq 18), .int z19, .ref (qq 20), .int z21, .int z22, .int z23, .int z24, .ref (qq 25), .int z26, .ref (qq 27), .ref (qq 28), .ref (qq 29), .int z30, .ref (qq 31), .ref (qq 32), .ref (qq 33), .ref (qq 34), .ref (qq 35), .ref (qq 36), .ref (qq 37), .ref (qq 38), .ref (qq 39), .ref (qq 40), .ref (qq 41), .ref (qq 42)])), ((qq 0), .inl (cT 0, 2, .inl f_57)), ((qq 1), .inl (cT 0, 2, .inl f_58)), ((qq 2), .inl (cT 0, 50, .inl (fun _ => (-1))))] → va_S A s.heap H locs → ∀ ls : Array Slot, lv_has ls 5 [(4, .int (nI j)), (0, .ref y), (1, .int 1), (2, .int 1), (3, .int t)] → W p l e rm_c_M_reader s m args below meth c H locs 0 0 Q (F0 m 60 ls []) := by
                intro fuel
                induction fuel with
                | zero => intro j hj hfu; omega
                | succ fuel ih_loop_59 =>
                  intro j hj hfu H locs hP hD hS ls hl
                  refine lv_iload hx hb dX12_reader_60 (lv_at hl 0 rfl) ?_
                  refine lv_bipush (v := 25) hx hb dX12_reader_62 (by decide) ?_
                  refine lv_iload_n hx hb dX12_reader_64 rfl (lv_at hl 2 rfl) ?_
                  refine w_imul (v := 25) hx hb dX12_reader_65 (by decide) ?_
                  refine lv_bipush (v := 25) hx hb dX12_reader_66 (by decide) ?_
                  refine w_iadd (v := 50) hx hb dX12_reader_68 (by decide) ?_
                  refine lv_icmp_ge (tgt := 86) hx hb dX12_reader_69 (by decide) (fun c_60 => ?_) (fun c_60 => ?_)
                  · skip
                    refine lv_iconst (v := 1) hx hb dX12_reader_86 (by decide) ?_
                    exact rt_i hx hb hr hlocks hQ hP hD hS () [] dX12_reader_87 rfl (Nat.le_of_ble_eq_true rfl) (Nat.le_of_ble_eq_true rfl) rfl (by decide) (lf_c_M_reader_13 t j h_55 hj c_60)
                  · skip
                    have hlt : j < 50 := Nat.lt_of_not_le (fun h => c_60 (nI_le (a := 50) h (by omega)))
                    refine lv_aload_n hx hb dX12_reader_72 rfl (lv_at hl 1 rfl) ?_
                    refine va_get (C := RX12) (T := TX12) (N := 43) (v := .ref (qq 2)) hx hb hts hi_X12_reader_X12 hown hK hP 0 rfl rfl 2 (by decide) (hts (.fieldLink RX12 16 "BothWaysModel" "goTo" "[I") (by decide +kernel)) (fun _ h => h) rfl dX12_reader_73 ?_
                    refine lv_iload hx hb dX12_reader_76 (lv_at hl 0 rfl) ?_
                    refine lv_iconst (v := (-1)) hx hb dX12_reader_78 (by decide) ?_
                    refine w_iast (f' := (fun _ => (-1))) hx hb hK hP hD hS 3 rfl dX12_reader_79 (vp_in_nI (show j < 50 by omega) (by decide)) (upd_c _ _) (fun H locs hP hD hS => ?_)
                    have hP : va_P g vwCl [(y, .inr (12, [.ref (qq 0), .ref (qq 1), .ref (qq 2), .ref (qq 3), .ref (qq 4), .ref (qq 5), .int z6, .ref (qq 7), .ref (qq 8), .ref (qq 9), .ref (qq 10), .ref (qq 11), .int z12, .ref (qq 13), .int z14, .int z15, .int z16, .int z17, .ref (qq 18), .int z19, .ref (qq 20), .int z21, .int z22, .int z23, .int z24, .ref (qq 25), .int z26, .ref (qq 27), .ref (qq 28), .ref (qq 29), .int z30, .ref (qq 31), .ref (qq 32), .ref (qq 33), .ref (qq 34), .ref (qq 35), .ref (qq 36), .ref (qq 37), .ref (qq 38), .ref (qq 39), .ref (qq 40), .ref (qq 41), .ref (qq 42)])), ((qq 0), .inl (cT 0, 2, .inl f_57)), ((qq 1), .inl (cT 0, 2, .inl f_58)), ((qq 2), .inl (cT 0, 50, .inl (fun _ => (-1))))] H := hP
                    have hD : va_D A [(y, .inr (12, [.ref (qq 0), .ref (qq 1), .ref (qq 2), .ref (qq 3), .ref (qq 4), .ref (qq 5), .int z6, .ref (qq 7), .ref (qq 8), .ref (qq 9), .ref (qq 10), .ref (qq 11), .int z12, .ref (qq 13), .int z14, .int z15, .int z16, .int z17, .ref (qq 18), .int z19, .ref (qq 20), .int z21, .int z22, .int z23, .int z24, .ref (qq 25), .int z26, .ref (qq 27), .ref (qq 28), .ref (qq 29), .int z30, .ref (qq 31), .ref (qq 32), .ref (qq 33), .ref (qq 34), .ref (qq 35), .ref (qq 36), .ref (qq 37), .ref (qq 38), .ref (qq 39), .ref (qq 40), .ref (qq 41), .ref (qq 42)])), ((qq 0), .inl (cT 0, 2, .inl f_57)), ((qq 1), .inl (cT 0, 2, .inl f_58)), ((qq 2), .inl (cT 0, 50, .inl (fun _ => (-1))))] := hD
                    refine lv_iinc (v := (nI (j + 1))) (lv' := [(4, .int (nI (j + 1))), (0, .ref y), (1, .int 1), (2, .int 1), (3, .int t)]) hx hb dX12_reader_80 hl (k := 0) rfl (nI_1 j) (by decide) rfl (fun ls hl => ?_)
                    refine lv_goto (tgt := 60) hx hb dX12_reader_83 (by decide) ?_
                    exact ih_loop_59 (j + 1) (by omega) (by omega) _ _ (hP.sub [0, 1, 2, 3] rfl) (hD.sub [0, 1, 2, 3] (by decide) rfl) hS ls (lv_sub hl [0, 1, 2, 3, 4] rfl)
              exact loop_59 _ 25 (by decide) (Nat.lt_succ_self _) _ _ (hP.sub [0, 1, 2, 3] rfl) (hD.sub [0, 1, 2, 3] (by decide) rfl) hS ls (lv_sub hl [0, 1, 2, 3, 4] rfl)
            · skip
              refine if_ne_f hx hb dX12_reader_34 40 (by decide) (by decide) ?_
              refine lv_bipush (v := (-3)) hx hb dX12_reader_37 (by decide) ?_
              exact rt_i hx hb hr hlocks hQ hP hD hS () [] dX12_reader_39 rfl (Nat.le_of_ble_eq_true rfl) (Nat.le_of_ble_eq_true rfl) rfl (by decide) (lf_c_M_reader_14 t h_56)
          · skip
            refine if_eq_f hx hb dX12_reader_19 37 (by decide) (by decide) ?_
            refine lv_iload_n hx hb dX12_reader_22 rfl (lv_at hl 3 rfl) ?_
            refine lv_i2l (v := t.toInt64) hx hb dX12_reader_23 rfl ?_
            refine lv_lconst (v := 0) hx hb dX12_reader_24 (by decide) ?_
            refine lv_iconst (v := 1) hx hb dX12_reader_25 (by decide) ?_
            refine lv_iload_n hx hb dX12_reader_26 rfl (lv_at hl 2 rfl) ?_
            refine w_ishl (v := 4) hx hb dX12_reader_27 (by decide) ?_
            refine lv_iconst (v := 1) hx hb dX12_reader_28 (by decide) ?_
            refine w_isub (v := 3) hx hb dX12_reader_29 (by decide) ?_
            refine lv_i2l (v := 3) hx hb dX12_reader_30 (by decide) ?_
            refine cp_i (va_runS (As := [.long t.toInt64, .long 0, .long 3]) (rest := []) ⟨hx, hb, hml, hown, hts⟩ (c_M_in l g cT H.size t.toInt64 0 3) (va_cwS 3 hts gX12_reader_X12_in rfl rfl rfl yd_X12_in.2 ⟨(Nat.le_of_ble_eq_true rfl), (Nat.le_of_ble_eq_true rfl)⟩) (preS (ws := []) (wc := []) rfl (fun _ _ h => by simp at h) (va_D_nil (A := A)) hK hN hZ hS hA [] rfl rfl) rfl rfl hl.1 rfl (lv_room (Nat.le_of_ble_eq_true rfl)) dX12_reader_31 ⟨(Nat.le_of_ble_eq_true rfl), (Nat.le_of_ble_eq_true rfl)⟩) hP hS hA (fun r_61 u H locs h_62 hP hS => ?_)
            rcases h_62 with ⟨rfl, h_63⟩ | ⟨rfl, h_64⟩
            · skip
              refine if_ne_t hx hb 40 dX12_reader_34 (by decide) (by decide) ?_
              refine lv_aload_n hx hb dX12_reader_40 rfl (lv_at hl 0 rfl) ?_
              refine va_get (C := RX12) (T := TX12) (N := 43) (v := .ref (qq 0)) hx hb hts hi_X12_reader_X12 hown hK hP 0 rfl rfl 0 (by decide) (hts (.fieldLink RX12 7 "BothWaysModel" "states" "[I") (by decide +kernel)) (fun _ h => h) rfl dX12_reader_41 ?_
              refine lv_iload_n hx hb dX12_reader_44 rfl (lv_at hl 1 rfl) ?_
              refine lv_iload_n hx hb dX12_reader_45 rfl (lv_at hl 2 rfl) ?_
              obtain ⟨f_65, ef_65⟩ : ∃ z, z = upd (fun _ => 1) (1 : Int32).toNatClampNeg 2 := ⟨_, rfl⟩
              refine w_iast (f' := f_65) hx hb hK hP hD hS 1 rfl dX12_reader_46 (inC (by decide)) ef_65.symm (fun H locs hP hD hS => ?_)
              have hP : va_P g vwCl [(y, .inr (12, [.ref (qq 0), .ref (qq 1), .ref (qq 2), .ref (qq 3), .ref (qq 4), .ref (qq 5), .int z6, .ref (qq 7), .ref (qq 8), .ref (qq 9), .ref (qq 10), .ref (qq 11), .int z12, .ref (qq 13), .int z14, .int z15, .int z16, .int z17, .ref (qq 18), .int z19, .ref (qq 20), .int z21, .int z22, .int z23, .int z24, .ref (qq 25), .int z26, .ref (qq 27), .ref (qq 28), .ref (qq 29), .int z30, .ref (qq 31), .ref (qq 32), .ref (qq 33), .ref (qq 34), .ref (qq 35), .ref (qq 36), .ref (qq 37), .ref (qq 38), .ref (qq 39), .ref (qq 40), .ref (qq 41), .ref (qq 42)])), ((qq 0), .inl (cT 0, 2, .inl f_65)), ((qq 1), .inl (cT 0, 2, .inl (fun _ => 0))), ((qq 2), .inl (cT 0, 50, .inl (fun _ => (-1))))] H := hP
              have hD : va_D A [(y, .inr (12, [.ref (qq 0), .ref (qq 1), .ref (qq 2), .ref (qq 3), .ref (qq 4), .ref (qq 5), .int z6, .ref (qq 7), .ref (qq 8), .ref (qq 9), .ref (qq 10), .ref (qq 11), .int z12, .ref (qq 13), .int z14, .int z15, .int z16, .int z17, .ref (qq 18), .int z19, .ref (qq 20), .int z21, .int z22, .int z23, .int z24, .ref (qq 25), .int z26, .ref (qq 27), .ref (qq 28), .ref (qq 29), .int z30, .ref (qq 31), .ref (qq 32), .ref (qq 33), .ref (qq 34), .ref (qq 35), .ref (qq 36), .ref (qq 37), .ref (qq 38), .ref (qq 39), .ref (qq 40), .ref (qq 41), .ref (qq 42)])), ((qq 0), .inl (cT 0, 2, .inl f_65)), ((qq 1), .inl (cT 0, 2, .inl (fun _ => 0))), ((qq 2), .inl (cT 0, 50, .inl (fun _ => (-1))))] := hD
              refine lv_aload_n hx hb dX12_reader_47 rfl (lv_at hl 0 rfl) ?_
              refine va_get (C := RX12) (T := TX12) (N := 43) (v := .ref (qq 1)) hx hb hts hi_X12_reader_X12 hown hK hP 0 rfl rfl 1 (by decide) (hts (.fieldLink RX12 13 "BothWaysModel" "takes" "[I") (by decide +kernel)) (fun _ h => h) rfl dX12_reader_48 ?_
              refine lv_iload_n hx hb dX12_reader_51 rfl (lv_at hl 1 rfl) ?_
              refine lv_iload_n hx hb dX12_reader_52 rfl (lv_at hl 3 rfl) ?_
              obtain ⟨f_66, ef_66⟩ : ∃ z, z = upd (fun _ => 0) (1 : Int32).toNatClampNeg t := ⟨_, rfl⟩
              refine w_iast (f' := f_66) hx hb hK hP hD hS 2 rfl dX12_reader_53 (inC (by decide)) ef_66.symm (fun H locs hP hD hS => ?_)
              have hP : va_P g vwCl [(y, .inr (12, [.ref (qq 0), .ref (qq 1), .ref (qq 2), .ref (qq 3), .ref (qq 4), .ref (qq 5), .int z6, .ref (qq 7), .ref (qq 8), .ref (qq 9), .ref (qq 10), .ref (qq 11), .int z12, .ref (qq 13), .int z14, .int z15, .int z16, .int z17, .ref (qq 18), .int z19, .ref (qq 20), .int z21, .int z22, .int z23, .int z24, .ref (qq 25), .int z26, .ref (qq 27), .ref (qq 28), .ref (qq 29), .int z30, .ref (qq 31), .ref (qq 32), .ref (qq 33), .ref (qq 34), .ref (qq 35), .ref (qq 36), .ref (qq 37), .ref (qq 38), .ref (qq 39), .ref (qq 40), .ref (qq 41), .ref (qq 42)])), ((qq 0), .inl (cT 0, 2, .inl f_65)), ((qq 1), .inl (cT 0, 2, .inl f_66)), ((qq 2), .inl (cT 0, 50, .inl (fun _ => (-1))))] H := hP
              have hD : va_D A [(y, .inr (12, [.ref (qq 0), .ref (qq 1), .ref (qq 2), .ref (qq 3), .ref (qq 4), .ref (qq 5), .int z6, .ref (qq 7), .ref (qq 8), .ref (qq 9), .ref (qq 10), .ref (qq 11), .int z12, .ref (qq 13), .int z14, .int z15, .int z16, .int z17, .ref (qq 18), .int z19, .ref (qq 20), .int z21, .int z22, .int z23, .int z24, .ref (qq 25), .int z26, .ref (qq 27), .ref (qq 28), .ref (qq 29), .int z30, .ref (qq 31), .ref (qq 32), .ref (qq 33), .ref (qq 34), .ref (qq 35), .ref (qq 36), .ref (qq 37), .ref (qq 38), .ref (qq 39), .ref (qq 40), .ref (qq 41), .ref (qq 42)])), ((qq 0), .inl (cT 0, 2, .inl f_65)), ((qq 1), .inl (cT 0, 2, .inl f_66)), ((qq 2), .inl (cT 0, 50, .inl (fun _ => (-1))))] := hD
              refine lv_bipush (v := 25) hx hb dX12_reader_54 (by decide) ?_
              refine lv_iload_n hx hb dX12_reader_56 rfl (lv_at hl 1 rfl) ?_
              refine w_imul (v := 25) hx hb dX12_reader_57 (by decide) ?_
              refine lv_istore (lv' := [(4, .int 25), (0, .ref y), (1, .int 1), (2, .int 2), (3, .int t)]) hx hb dX12_reader_58 hl (by decide) rfl (fun ls hl => ?_)
              have loop_67 : ∀ (fuel : Nat) (j : Nat), j ≤ 50 → 50 - j < fuel → ∀ (H : Heap) (locs : List Loc), va_P g vwCl [(y, .inr (12, [.ref (qq 0), .ref (qq 1), .ref (qq 2), .ref (qq 3), .ref (qq 4), .ref (qq 5), .int z6, .ref (qq 7), .ref (qq 8), .ref (qq 9), .ref (qq 10), .ref (qq 11), .int z12, .ref (qq 13), .int z14, .int z15, .int z16, .int z17, .ref (qq 18), .int z19, .ref (qq 20), .int z21, .int z22, .int z23, .int z24, .ref (qq 25), .int z26, .ref (qq 27), .ref (qq 28), .ref (qq 29), .int z30, .ref (qq 31), .ref (qq 32), .ref (qq 33), .ref (qq 34), .ref (qq 35), .ref (qq 36), .ref (qq 37), .ref (qq 38), .ref (qq 39), .ref (qq 40), .ref (qq 41), .ref (qq 42)])), ((qq 0), .inl (cT 0, 2, .inl f_65)), ((qq 1), .inl (cT 0, 2, .inl f_66)), ((qq 2), .inl (cT 0, 50, .inl (fun _ => (-1))))] H → va_D A [(y, .inr (12, [.ref (qq 0), .ref (qq 1), .ref (qq 2), .ref (qq 3), .ref (qq 4), .ref (qq 5), .int z6, .ref (qq 7), .ref (qq 8), .ref (qq 9), .ref (qq 10), .ref (qq 11), .int z12, .ref (qq 13), .int z14, .int z15, .int z16, .int z17, .ref (qq 18), .int z19, .ref (qq 20), .int z21, .int z22, .int z23, .int z24, .ref (qq 25), .int z26, .ref (qq 27), .ref (qq 28), .ref (qq 29), .int z30, .ref (qq 31), .ref (qq 32), .ref (qq 33), .ref (qq 34), .ref (qq 35), .ref (qq 36), .ref (qq 37), .ref (qq 38), .ref (qq 39), .ref (qq 40), .ref (qq 41), .ref (qq 42)])), ((qq 0), .inl (cT 0, 2, .inl f_65)), ((qq 1), .inl (cT 0, 2, .inl f_66)), ((qq 2), .inl (cT 0, 50, .inl (fun _ => (-1))))] → va_S A s.heap H locs → ∀ ls : Array Slot, lv_has ls 5 [(4, .int (nI j)), (0, .ref y), (1, .int 1), (2, .int 2), (3, .int t)] → W p l e rm_c_M_reader s m args below meth c H locs 0 0 Q (F0 m 60 ls []) := by
                intro fuel
                induction fuel with
                | zero => intro j hj hfu; omega
                | succ fuel ih_loop_67 =>
                  intro j hj hfu H locs hP hD hS ls hl
                  refine lv_iload hx hb dX12_reader_60 (lv_at hl 0 rfl) ?_
                  refine lv_bipush (v := 25) hx hb dX12_reader_62 (by decide) ?_
                  refine lv_iload_n hx hb dX12_reader_64 rfl (lv_at hl 2 rfl) ?_
                  refine w_imul (v := 25) hx hb dX12_reader_65 (by decide) ?_
                  refine lv_bipush (v := 25) hx hb dX12_reader_66 (by decide) ?_
                  refine w_iadd (v := 50) hx hb dX12_reader_68 (by decide) ?_
                  refine lv_icmp_ge (tgt := 86) hx hb dX12_reader_69 (by decide) (fun c_68 => ?_) (fun c_68 => ?_)
                  · skip
                    refine lv_iconst (v := 1) hx hb dX12_reader_86 (by decide) ?_
                    exact rt_i hx hb hr hlocks hQ hP hD hS () [] dX12_reader_87 rfl (Nat.le_of_ble_eq_true rfl) (Nat.le_of_ble_eq_true rfl) rfl (by decide) (lf_c_M_reader_15 t j h_63 hj c_68)
                  · skip
                    have hlt : j < 50 := Nat.lt_of_not_le (fun h => c_68 (nI_le (a := 50) h (by omega)))
                    refine lv_aload_n hx hb dX12_reader_72 rfl (lv_at hl 1 rfl) ?_
                    refine va_get (C := RX12) (T := TX12) (N := 43) (v := .ref (qq 2)) hx hb hts hi_X12_reader_X12 hown hK hP 0 rfl rfl 2 (by decide) (hts (.fieldLink RX12 16 "BothWaysModel" "goTo" "[I") (by decide +kernel)) (fun _ h => h) rfl dX12_reader_73 ?_
                    refine lv_iload hx hb dX12_reader_76 (lv_at hl 0 rfl) ?_
                    refine lv_iconst (v := (-1)) hx hb dX12_reader_78 (by decide) ?_
                    refine w_iast (f' := (fun _ => (-1))) hx hb hK hP hD hS 3 rfl dX12_reader_79 (vp_in_nI (show j < 50 by omega) (by decide)) (upd_c _ _) (fun H locs hP hD hS => ?_)
                    have hP : va_P g vwCl [(y, .inr (12, [.ref (qq 0), .ref (qq 1), .ref (qq 2), .ref (qq 3), .ref (qq 4), .ref (qq 5), .int z6, .ref (qq 7), .ref (qq 8), .ref (qq 9), .ref (qq 10), .ref (qq 11), .int z12, .ref (qq 13), .int z14, .int z15, .int z16, .int z17, .ref (qq 18), .int z19, .ref (qq 20), .int z21, .int z22, .int z23, .int z24, .ref (qq 25), .int z26, .ref (qq 27), .ref (qq 28), .ref (qq 29), .int z30, .ref (qq 31), .ref (qq 32), .ref (qq 33), .ref (qq 34), .ref (qq 35), .ref (qq 36), .ref (qq 37), .ref (qq 38), .ref (qq 39), .ref (qq 40), .ref (qq 41), .ref (qq 42)])), ((qq 0), .inl (cT 0, 2, .inl f_65)), ((qq 1), .inl (cT 0, 2, .inl f_66)), ((qq 2), .inl (cT 0, 50, .inl (fun _ => (-1))))] H := hP
                    have hD : va_D A [(y, .inr (12, [.ref (qq 0), .ref (qq 1), .ref (qq 2), .ref (qq 3), .ref (qq 4), .ref (qq 5), .int z6, .ref (qq 7), .ref (qq 8), .ref (qq 9), .ref (qq 10), .ref (qq 11), .int z12, .ref (qq 13), .int z14, .int z15, .int z16, .int z17, .ref (qq 18), .int z19, .ref (qq 20), .int z21, .int z22, .int z23, .int z24, .ref (qq 25), .int z26, .ref (qq 27), .ref (qq 28), .ref (qq 29), .int z30, .ref (qq 31), .ref (qq 32), .ref (qq 33), .ref (qq 34), .ref (qq 35), .ref (qq 36), .ref (qq 37), .ref (qq 38), .ref (qq 39), .ref (qq 40), .ref (qq 41), .ref (qq 42)])), ((qq 0), .inl (cT 0, 2, .inl f_65)), ((qq 1), .inl (cT 0, 2, .inl f_66)), ((qq 2), .inl (cT 0, 50, .inl (fun _ => (-1))))] := hD
                    refine lv_iinc (v := (nI (j + 1))) (lv' := [(4, .int (nI (j + 1))), (0, .ref y), (1, .int 1), (2, .int 2), (3, .int t)]) hx hb dX12_reader_80 hl (k := 0) rfl (nI_1 j) (by decide) rfl (fun ls hl => ?_)
                    refine lv_goto (tgt := 60) hx hb dX12_reader_83 (by decide) ?_
                    exact ih_loop_67 (j + 1) (by omega) (by omega) _ _ (hP.sub [0, 1, 2, 3] rfl) (hD.sub [0, 1, 2, 3] (by decide) rfl) hS ls (lv_sub hl [0, 1, 2, 3, 4] rfl)
              exact loop_67 _ 25 (by decide) (Nat.lt_succ_self _) _ _ (hP.sub [0, 1, 2, 3] rfl) (hD.sub [0, 1, 2, 3] (by decide) rfl) hS ls (lv_sub hl [0, 1, 2, 3, 4] rfl)
            · skip
              refine if_ne_f hx hb dX12_reader_34 40 (by decide) (by decide) ?_
              refine lv_bipush (v := (-3)) hx hb dX12_reader_37 (by decide) ?_
              exact rt_i hx hb hr hlocks hQ hP hD hS () [] dX12_reader_39 rfl (Nat.le_of_ble_eq_true rfl) (Nat.le_of_ble_eq_true rfl) rfl (by decide) (lf_c_M_reader_16 t h_64)
          · skip
            refine if_eq_f hx hb dX12_reader_19 37 (by decide) (by decide) ?_
            refine lv_iload_n hx hb dX12_reader_22 rfl (lv_at hl 3 rfl) ?_
            refine lv_i2l (v := t.toInt64) hx hb dX12_reader_23 rfl ?_
            refine lv_lconst (v := 0) hx hb dX12_reader_24 (by decide) ?_
            refine lv_iconst (v := 1) hx hb dX12_reader_25 (by decide) ?_
            refine lv_iload_n hx hb dX12_reader_26 rfl (lv_at hl 2 rfl) ?_
            refine w_ishl (v := 8) hx hb dX12_reader_27 (by decide) ?_
            refine lv_iconst (v := 1) hx hb dX12_reader_28 (by decide) ?_
            refine w_isub (v := 7) hx hb dX12_reader_29 (by decide) ?_
            refine lv_i2l (v := 7) hx hb dX12_reader_30 (by decide) ?_
            refine cp_i (va_runS (As := [.long t.toInt64, .long 0, .long 7]) (rest := []) ⟨hx, hb, hml, hown, hts⟩ (c_M_in l g cT H.size t.toInt64 0 7) (va_cwS 3 hts gX12_reader_X12_in rfl rfl rfl yd_X12_in.2 ⟨(Nat.le_of_ble_eq_true rfl), (Nat.le_of_ble_eq_true rfl)⟩) (preS (ws := []) (wc := []) rfl (fun _ _ h => by simp at h) (va_D_nil (A := A)) hK hN hZ hS hA [] rfl rfl) rfl rfl hl.1 rfl (lv_room (Nat.le_of_ble_eq_true rfl)) dX12_reader_31 ⟨(Nat.le_of_ble_eq_true rfl), (Nat.le_of_ble_eq_true rfl)⟩) hP hS hA (fun r_69 u H locs h_70 hP hS => ?_)
            rcases h_70 with ⟨rfl, h_71⟩ | ⟨rfl, h_72⟩
            · skip
              refine if_ne_t hx hb 40 dX12_reader_34 (by decide) (by decide) ?_
              refine lv_aload_n hx hb dX12_reader_40 rfl (lv_at hl 0 rfl) ?_
              refine va_get (C := RX12) (T := TX12) (N := 43) (v := .ref (qq 0)) hx hb hts hi_X12_reader_X12 hown hK hP 0 rfl rfl 0 (by decide) (hts (.fieldLink RX12 7 "BothWaysModel" "states" "[I") (by decide +kernel)) (fun _ h => h) rfl dX12_reader_41 ?_
              refine lv_iload_n hx hb dX12_reader_44 rfl (lv_at hl 1 rfl) ?_
              refine lv_iload_n hx hb dX12_reader_45 rfl (lv_at hl 2 rfl) ?_
              obtain ⟨f_73, ef_73⟩ : ∃ z, z = upd (fun _ => 1) (1 : Int32).toNatClampNeg 3 := ⟨_, rfl⟩
              refine w_iast (f' := f_73) hx hb hK hP hD hS 1 rfl dX12_reader_46 (inC (by decide)) ef_73.symm (fun H locs hP hD hS => ?_)
              have hP : va_P g vwCl [(y, .inr (12, [.ref (qq 0), .ref (qq 1), .ref (qq 2), .ref (qq 3), .ref (qq 4), .ref (qq 5), .int z6, .ref (qq 7), .ref (qq 8), .ref (qq 9), .ref (qq 10), .ref (qq 11), .int z12, .ref (qq 13), .int z14, .int z15, .int z16, .int z17, .ref (qq 18), .int z19, .ref (qq 20), .int z21, .int z22, .int z23, .int z24, .ref (qq 25), .int z26, .ref (qq 27), .ref (qq 28), .ref (qq 29), .int z30, .ref (qq 31), .ref (qq 32), .ref (qq 33), .ref (qq 34), .ref (qq 35), .ref (qq 36), .ref (qq 37), .ref (qq 38), .ref (qq 39), .ref (qq 40), .ref (qq 41), .ref (qq 42)])), ((qq 0), .inl (cT 0, 2, .inl f_73)), ((qq 1), .inl (cT 0, 2, .inl (fun _ => 0))), ((qq 2), .inl (cT 0, 50, .inl (fun _ => (-1))))] H := hP
              have hD : va_D A [(y, .inr (12, [.ref (qq 0), .ref (qq 1), .ref (qq 2), .ref (qq 3), .ref (qq 4), .ref (qq 5), .int z6, .ref (qq 7), .ref (qq 8), .ref (qq 9), .ref (qq 10), .ref (qq 11), .int z12, .ref (qq 13), .int z14, .int z15, .int z16, .int z17, .ref (qq 18), .int z19, .ref (qq 20), .int z21, .int z22, .int z23, .int z24, .ref (qq 25), .int z26, .ref (qq 27), .ref (qq 28), .ref (qq 29), .int z30, .ref (qq 31), .ref (qq 32), .ref (qq 33), .ref (qq 34), .ref (qq 35), .ref (qq 36), .ref (qq 37), .ref (qq 38), .ref (qq 39), .ref (qq 40), .ref (qq 41), .ref (qq 42)])), ((qq 0), .inl (cT 0, 2, .inl f_73)), ((qq 1), .inl (cT 0, 2, .inl (fun _ => 0))), ((qq 2), .inl (cT 0, 50, .inl (fun _ => (-1))))] := hD
              refine lv_aload_n hx hb dX12_reader_47 rfl (lv_at hl 0 rfl) ?_
              refine va_get (C := RX12) (T := TX12) (N := 43) (v := .ref (qq 1)) hx hb hts hi_X12_reader_X12 hown hK hP 0 rfl rfl 1 (by decide) (hts (.fieldLink RX12 13 "BothWaysModel" "takes" "[I") (by decide +kernel)) (fun _ h => h) rfl dX12_reader_48 ?_
              refine lv_iload_n hx hb dX12_reader_51 rfl (lv_at hl 1 rfl) ?_
              refine lv_iload_n hx hb dX12_reader_52 rfl (lv_at hl 3 rfl) ?_
              obtain ⟨f_74, ef_74⟩ : ∃ z, z = upd (fun _ => 0) (1 : Int32).toNatClampNeg t := ⟨_, rfl⟩
              refine w_iast (f' := f_74) hx hb hK hP hD hS 2 rfl dX12_reader_53 (inC (by decide)) ef_74.symm (fun H locs hP hD hS => ?_)
              have hP : va_P g vwCl [(y, .inr (12, [.ref (qq 0), .ref (qq 1), .ref (qq 2), .ref (qq 3), .ref (qq 4), .ref (qq 5), .int z6, .ref (qq 7), .ref (qq 8), .ref (qq 9), .ref (qq 10), .ref (qq 11), .int z12, .ref (qq 13), .int z14, .int z15, .int z16, .int z17, .ref (qq 18), .int z19, .ref (qq 20), .int z21, .int z22, .int z23, .int z24, .ref (qq 25), .int z26, .ref (qq 27), .ref (qq 28), .ref (qq 29), .int z30, .ref (qq 31), .ref (qq 32), .ref (qq 33), .ref (qq 34), .ref (qq 35), .ref (qq 36), .ref (qq 37), .ref (qq 38), .ref (qq 39), .ref (qq 40), .ref (qq 41), .ref (qq 42)])), ((qq 0), .inl (cT 0, 2, .inl f_73)), ((qq 1), .inl (cT 0, 2, .inl f_74)), ((qq 2), .inl (cT 0, 50, .inl (fun _ => (-1))))] H := hP
              have hD : va_D A [(y, .inr (12, [.ref (qq 0), .ref (qq 1), .ref (qq 2), .ref (qq 3), .ref (qq 4), .ref (qq 5), .int z6, .ref (qq 7), .ref (qq 8), .ref (qq 9), .ref (qq 10), .ref (qq 11), .int z12, .ref (qq 13), .int z14, .int z15, .int z16, .int z17, .ref (qq 18), .int z19, .ref (qq 20), .int z21, .int z22, .int z23, .int z24, .ref (qq 25), .int z26, .ref (qq 27), .ref (qq 28), .ref (qq 29), .int z30, .ref (qq 31), .ref (qq 32), .ref (qq 33), .ref (qq 34), .ref (qq 35), .ref (qq 36), .ref (qq 37), .ref (qq 38), .ref (qq 39), .ref (qq 40), .ref (qq 41), .ref (qq 42)])), ((qq 0), .inl (cT 0, 2, .inl f_73)), ((qq 1), .inl (cT 0, 2, .inl f_74)), ((qq 2), .inl (cT 0, 50, .inl (fun _ => (-1))))] := hD
              refine lv_bipush (v := 25) hx hb dX12_reader_54 (by decide) ?_
              refine lv_iload_n hx hb dX12_reader_56 rfl (lv_at hl 1 rfl) ?_
              refine w_imul (v := 25) hx hb dX12_reader_57 (by decide) ?_
              refine lv_istore (lv' := [(4, .int 25), (0, .ref y), (1, .int 1), (2, .int 3), (3, .int t)]) hx hb dX12_reader_58 hl (by decide) rfl (fun ls hl => ?_)
              have loop_75 : ∀ (fuel : Nat) (j : Nat), j ≤ 50 → 50 - j < fuel → ∀ (H : Heap) (locs : List Loc), va_P g vwCl [(y, .inr (12, [.ref (qq 0), .ref (qq 1), .ref (qq 2), .ref (qq 3), .ref (qq 4), .ref (qq 5), .int z6, .ref (qq 7), .ref (qq 8), .ref (qq 9), .ref (qq 10), .ref (qq 11), .int z12, .ref (qq 13), .int z14, .int z15, .int z16, .int z17, .ref (qq 18), .int z19, .ref (qq 20), .int z21, .int z22, .int z23, .int z24, .ref (qq 25), .int z26, .ref (qq 27), .ref (qq 28), .ref (qq 29), .int z30, .ref (qq 31), .ref (qq 32), .ref (qq 33), .ref (qq 34), .ref (qq 35), .ref (qq 36), .ref (qq 37), .ref (qq 38), .ref (qq 39), .ref (qq 40), .ref (qq 41), .ref (qq 42)])), ((qq 0), .inl (cT 0, 2, .inl f_73)), ((qq 1), .inl (cT 0, 2, .inl f_74)), ((qq 2), .inl (cT 0, 50, .inl (fun _ => (-1))))] H → va_D A [(y, .inr (12, [.ref (qq 0), .ref (qq 1), .ref (qq 2), .ref (qq 3), .ref (qq 4), .ref (qq 5), .int z6, .ref (qq 7), .ref (qq 8), .ref (qq 9), .ref (qq 10), .ref (qq 11), .int z12, .ref (qq 13), .int z14, .int z15, .int z16, .int z17, .ref (qq 18), .int z19, .ref (qq 20), .int z21, .int z22, .int z23, .int z24, .ref (qq 25), .int z26, .ref (qq 27), .ref (qq 28), .ref (qq 29), .int z30, .ref (qq 31), .ref (qq 32), .ref (qq 33), .ref (qq 34), .ref (qq 35), .ref (qq 36), .ref (qq 37), .ref (qq 38), .ref (qq 39), .ref (qq 40), .ref (qq 41), .ref (qq 42)])), ((qq 0), .inl (cT 0, 2, .inl f_73)), ((qq 1), .inl (cT 0, 2, .inl f_74)), ((qq 2), .inl (cT 0, 50, .inl (fun _ => (-1))))] → va_S A s.heap H locs → ∀ ls : Array Slot, lv_has ls 5 [(4, .int (nI j)), (0, .ref y), (1, .int 1), (2, .int 3), (3, .int t)] → W p l e rm_c_M_reader s m args below meth c H locs 0 0 Q (F0 m 60 ls []) := by
                intro fuel
                induction fuel with
                | zero => intro j hj hfu; omega
                | succ fuel ih_loop_75 =>
                  intro j hj hfu H locs hP hD hS ls hl
                  refine lv_iload hx hb dX12_reader_60 (lv_at hl 0 rfl) ?_
                  refine lv_bipush (v := 25) hx hb dX12_reader_62 (by decide) ?_
                  refine lv_iload_n hx hb dX12_reader_64 rfl (lv_at hl 2 rfl) ?_
                  refine w_imul (v := 25) hx hb dX12_reader_65 (by decide) ?_
                  refine lv_bipush (v := 25) hx hb dX12_reader_66 (by decide) ?_
                  refine w_iadd (v := 50) hx hb dX12_reader_68 (by decide) ?_
                  refine lv_icmp_ge (tgt := 86) hx hb dX12_reader_69 (by decide) (fun c_76 => ?_) (fun c_76 => ?_)
                  · skip
                    refine lv_iconst (v := 1) hx hb dX12_reader_86 (by decide) ?_
                    exact rt_i hx hb hr hlocks hQ hP hD hS () [] dX12_reader_87 rfl (Nat.le_of_ble_eq_true rfl) (Nat.le_of_ble_eq_true rfl) rfl (by decide) (lf_c_M_reader_17 t j h_71 hj c_76)
                  · skip
                    have hlt : j < 50 := Nat.lt_of_not_le (fun h => c_76 (nI_le (a := 50) h (by omega)))
                    refine lv_aload_n hx hb dX12_reader_72 rfl (lv_at hl 1 rfl) ?_
                    refine va_get (C := RX12) (T := TX12) (N := 43) (v := .ref (qq 2)) hx hb hts hi_X12_reader_X12 hown hK hP 0 rfl rfl 2 (by decide) (hts (.fieldLink RX12 16 "BothWaysModel" "goTo" "[I") (by decide +kernel)) (fun _ h => h) rfl dX12_reader_73 ?_
                    refine lv_iload hx hb dX12_reader_76 (lv_at hl 0 rfl) ?_
                    refine lv_iconst (v := (-1)) hx hb dX12_reader_78 (by decide) ?_
                    refine w_iast (f' := (fun _ => (-1))) hx hb hK hP hD hS 3 rfl dX12_reader_79 (vp_in_nI (show j < 50 by omega) (by decide)) (upd_c _ _) (fun H locs hP hD hS => ?_)
                    have hP : va_P g vwCl [(y, .inr (12, [.ref (qq 0), .ref (qq 1), .ref (qq 2), .ref (qq 3), .ref (qq 4), .ref (qq 5), .int z6, .ref (qq 7), .ref (qq 8), .ref (qq 9), .ref (qq 10), .ref (qq 11), .int z12, .ref (qq 13), .int z14, .int z15, .int z16, .int z17, .ref (qq 18), .int z19, .ref (qq 20), .int z21, .int z22, .int z23, .int z24, .ref (qq 25), .int z26, .ref (qq 27), .ref (qq 28), .ref (qq 29), .int z30, .ref (qq 31), .ref (qq 32), .ref (qq 33), .ref (qq 34), .ref (qq 35), .ref (qq 36), .ref (qq 37), .ref (qq 38), .ref (qq 39), .ref (qq 40), .ref (qq 41), .ref (qq 42)])), ((qq 0), .inl (cT 0, 2, .inl f_73)), ((qq 1), .inl (cT 0, 2, .inl f_74)), ((qq 2), .inl (cT 0, 50, .inl (fun _ => (-1))))] H := hP
                    have hD : va_D A [(y, .inr (12, [.ref (qq 0), .ref (qq 1), .ref (qq 2), .ref (qq 3), .ref (qq 4), .ref (qq 5), .int z6, .ref (qq 7), .ref (qq 8), .ref (qq 9), .ref (qq 10), .ref (qq 11), .int z12, .ref (qq 13), .int z14, .int z15, .int z16, .int z17, .ref (qq 18), .int z19, .ref (qq 20), .int z21, .int z22, .int z23, .int z24, .ref (qq 25), .int z26, .ref (qq 27), .ref (qq 28), .ref (qq 29), .int z30, .ref (qq 31), .ref (qq 32), .ref (qq 33), .ref (qq 34), .ref (qq 35), .ref (qq 36), .ref (qq 37), .ref (qq 38), .ref (qq 39), .ref (qq 40), .ref (qq 41), .ref (qq 42)])), ((qq 0), .inl (cT 0, 2, .inl f_73)), ((qq 1), .inl (cT 0, 2, .inl f_74)), ((qq 2), .inl (cT 0, 50, .inl (fun _ => (-1))))] := hD
                    refine lv_iinc (v := (nI (j + 1))) (lv' := [(4, .int (nI (j + 1))), (0, .ref y), (1, .int 1), (2, .int 3), (3, .int t)]) hx hb dX12_reader_80 hl (k := 0) rfl (nI_1 j) (by decide) rfl (fun ls hl => ?_)
                    refine lv_goto (tgt := 60) hx hb dX12_reader_83 (by decide) ?_
                    exact ih_loop_75 (j + 1) (by omega) (by omega) _ _ (hP.sub [0, 1, 2, 3] rfl) (hD.sub [0, 1, 2, 3] (by decide) rfl) hS ls (lv_sub hl [0, 1, 2, 3, 4] rfl)
              exact loop_75 _ 25 (by decide) (Nat.lt_succ_self _) _ _ (hP.sub [0, 1, 2, 3] rfl) (hD.sub [0, 1, 2, 3] (by decide) rfl) hS ls (lv_sub hl [0, 1, 2, 3, 4] rfl)
            · skip
              refine if_ne_f hx hb dX12_reader_34 40 (by decide) (by decide) ?_
              refine lv_bipush (v := (-3)) hx hb dX12_reader_37 (by decide) ?_
              exact rt_i hx hb hr hlocks hQ hP hD hS () [] dX12_reader_39 rfl (Nat.le_of_ble_eq_true rfl) (Nat.le_of_ble_eq_true rfl) rfl (by decide) (lf_c_M_reader_18 t h_72)
          · skip
            refine if_eq_f hx hb dX12_reader_19 37 (by decide) (by decide) ?_
            refine lv_iload_n hx hb dX12_reader_22 rfl (lv_at hl 3 rfl) ?_
            refine lv_i2l (v := t.toInt64) hx hb dX12_reader_23 rfl ?_
            refine lv_lconst (v := 0) hx hb dX12_reader_24 (by decide) ?_
            refine lv_iconst (v := 1) hx hb dX12_reader_25 (by decide) ?_
            refine lv_iload_n hx hb dX12_reader_26 rfl (lv_at hl 2 rfl) ?_
            refine w_ishl (v := 16) hx hb dX12_reader_27 (by decide) ?_
            refine lv_iconst (v := 1) hx hb dX12_reader_28 (by decide) ?_
            refine w_isub (v := 15) hx hb dX12_reader_29 (by decide) ?_
            refine lv_i2l (v := 15) hx hb dX12_reader_30 (by decide) ?_
            refine cp_i (va_runS (As := [.long t.toInt64, .long 0, .long 15]) (rest := []) ⟨hx, hb, hml, hown, hts⟩ (c_M_in l g cT H.size t.toInt64 0 15) (va_cwS 3 hts gX12_reader_X12_in rfl rfl rfl yd_X12_in.2 ⟨(Nat.le_of_ble_eq_true rfl), (Nat.le_of_ble_eq_true rfl)⟩) (preS (ws := []) (wc := []) rfl (fun _ _ h => by simp at h) (va_D_nil (A := A)) hK hN hZ hS hA [] rfl rfl) rfl rfl hl.1 rfl (lv_room (Nat.le_of_ble_eq_true rfl)) dX12_reader_31 ⟨(Nat.le_of_ble_eq_true rfl), (Nat.le_of_ble_eq_true rfl)⟩) hP hS hA (fun r_77 u H locs h_78 hP hS => ?_)
            rcases h_78 with ⟨rfl, h_79⟩ | ⟨rfl, h_80⟩
            · skip
              refine if_ne_t hx hb 40 dX12_reader_34 (by decide) (by decide) ?_
              refine lv_aload_n hx hb dX12_reader_40 rfl (lv_at hl 0 rfl) ?_
              refine va_get (C := RX12) (T := TX12) (N := 43) (v := .ref (qq 0)) hx hb hts hi_X12_reader_X12 hown hK hP 0 rfl rfl 0 (by decide) (hts (.fieldLink RX12 7 "BothWaysModel" "states" "[I") (by decide +kernel)) (fun _ h => h) rfl dX12_reader_41 ?_
              refine lv_iload_n hx hb dX12_reader_44 rfl (lv_at hl 1 rfl) ?_
              refine lv_iload_n hx hb dX12_reader_45 rfl (lv_at hl 2 rfl) ?_
              obtain ⟨f_81, ef_81⟩ : ∃ z, z = upd (fun _ => 1) (1 : Int32).toNatClampNeg 4 := ⟨_, rfl⟩
              refine w_iast (f' := f_81) hx hb hK hP hD hS 1 rfl dX12_reader_46 (inC (by decide)) ef_81.symm (fun H locs hP hD hS => ?_)
              have hP : va_P g vwCl [(y, .inr (12, [.ref (qq 0), .ref (qq 1), .ref (qq 2), .ref (qq 3), .ref (qq 4), .ref (qq 5), .int z6, .ref (qq 7), .ref (qq 8), .ref (qq 9), .ref (qq 10), .ref (qq 11), .int z12, .ref (qq 13), .int z14, .int z15, .int z16, .int z17, .ref (qq 18), .int z19, .ref (qq 20), .int z21, .int z22, .int z23, .int z24, .ref (qq 25), .int z26, .ref (qq 27), .ref (qq 28), .ref (qq 29), .int z30, .ref (qq 31), .ref (qq 32), .ref (qq 33), .ref (qq 34), .ref (qq 35), .ref (qq 36), .ref (qq 37), .ref (qq 38), .ref (qq 39), .ref (qq 40), .ref (qq 41), .ref (qq 42)])), ((qq 0), .inl (cT 0, 2, .inl f_81)), ((qq 1), .inl (cT 0, 2, .inl (fun _ => 0))), ((qq 2), .inl (cT 0, 50, .inl (fun _ => (-1))))] H := hP
              have hD : va_D A [(y, .inr (12, [.ref (qq 0), .ref (qq 1), .ref (qq 2), .ref (qq 3), .ref (qq 4), .ref (qq 5), .int z6, .ref (qq 7), .ref (qq 8), .ref (qq 9), .ref (qq 10), .ref (qq 11), .int z12, .ref (qq 13), .int z14, .int z15, .int z16, .int z17, .ref (qq 18), .int z19, .ref (qq 20), .int z21, .int z22, .int z23, .int z24, .ref (qq 25), .int z26, .ref (qq 27), .ref (qq 28), .ref (qq 29), .int z30, .ref (qq 31), .ref (qq 32), .ref (qq 33), .ref (qq 34), .ref (qq 35), .ref (qq 36), .ref (qq 37), .ref (qq 38), .ref (qq 39), .ref (qq 40), .ref (qq 41), .ref (qq 42)])), ((qq 0), .inl (cT 0, 2, .inl f_81)), ((qq 1), .inl (cT 0, 2, .inl (fun _ => 0))), ((qq 2), .inl (cT 0, 50, .inl (fun _ => (-1))))] := hD
              refine lv_aload_n hx hb dX12_reader_47 rfl (lv_at hl 0 rfl) ?_
              refine va_get (C := RX12) (T := TX12) (N := 43) (v := .ref (qq 1)) hx hb hts hi_X12_reader_X12 hown hK hP 0 rfl rfl 1 (by decide) (hts (.fieldLink RX12 13 "BothWaysModel" "takes" "[I") (by decide +kernel)) (fun _ h => h) rfl dX12_reader_48 ?_
              refine lv_iload_n hx hb dX12_reader_51 rfl (lv_at hl 1 rfl) ?_
              refine lv_iload_n hx hb dX12_reader_52 rfl (lv_at hl 3 rfl) ?_
              obtain ⟨f_82, ef_82⟩ : ∃ z, z = upd (fun _ => 0) (1 : Int32).toNatClampNeg t := ⟨_, rfl⟩
              refine w_iast (f' := f_82) hx hb hK hP hD hS 2 rfl dX12_reader_53 (inC (by decide)) ef_82.symm (fun H locs hP hD hS => ?_)
              have hP : va_P g vwCl [(y, .inr (12, [.ref (qq 0), .ref (qq 1), .ref (qq 2), .ref (qq 3), .ref (qq 4), .ref (qq 5), .int z6, .ref (qq 7), .ref (qq 8), .ref (qq 9), .ref (qq 10), .ref (qq 11), .int z12, .ref (qq 13), .int z14, .int z15, .int z16, .int z17, .ref (qq 18), .int z19, .ref (qq 20), .int z21, .int z22, .int z23, .int z24, .ref (qq 25), .int z26, .ref (qq 27), .ref (qq 28), .ref (qq 29), .int z30, .ref (qq 31), .ref (qq 32), .ref (qq 33), .ref (qq 34), .ref (qq 35), .ref (qq 36), .ref (qq 37), .ref (qq 38), .ref (qq 39), .ref (qq 40), .ref (qq 41), .ref (qq 42)])), ((qq 0), .inl (cT 0, 2, .inl f_81)), ((qq 1), .inl (cT 0, 2, .inl f_82)), ((qq 2), .inl (cT 0, 50, .inl (fun _ => (-1))))] H := hP
              have hD : va_D A [(y, .inr (12, [.ref (qq 0), .ref (qq 1), .ref (qq 2), .ref (qq 3), .ref (qq 4), .ref (qq 5), .int z6, .ref (qq 7), .ref (qq 8), .ref (qq 9), .ref (qq 10), .ref (qq 11), .int z12, .ref (qq 13), .int z14, .int z15, .int z16, .int z17, .ref (qq 18), .int z19, .ref (qq 20), .int z21, .int z22, .int z23, .int z24, .ref (qq 25), .int z26, .ref (qq 27), .ref (qq 28), .ref (qq 29), .int z30, .ref (qq 31), .ref (qq 32), .ref (qq 33), .ref (qq 34), .ref (qq 35), .ref (qq 36), .ref (qq 37), .ref (qq 38), .ref (qq 39), .ref (qq 40), .ref (qq 41), .ref (qq 42)])), ((qq 0), .inl (cT 0, 2, .inl f_81)), ((qq 1), .inl (cT 0, 2, .inl f_82)), ((qq 2), .inl (cT 0, 50, .inl (fun _ => (-1))))] := hD
              refine lv_bipush (v := 25) hx hb dX12_reader_54 (by decide) ?_
              refine lv_iload_n hx hb dX12_reader_56 rfl (lv_at hl 1 rfl) ?_
              refine w_imul (v := 25) hx hb dX12_reader_57 (by decide) ?_
              refine lv_istore (lv' := [(4, .int 25), (0, .ref y), (1, .int 1), (2, .int 4), (3, .int t)]) hx hb dX12_reader_58 hl (by decide) rfl (fun ls hl => ?_)
              have loop_83 : ∀ (fuel : Nat) (j : Nat), j ≤ 50 → 50 - j < fuel → ∀ (H : Heap) (locs : List Loc), va_P g vwCl [(y, .inr (12, [.ref (qq 0), .ref (qq 1), .ref (qq 2), .ref (qq 3), .ref (qq 4), .ref (qq 5), .int z6, .ref (qq 7), .ref (qq 8), .ref (qq 9), .ref (qq 10), .ref (qq 11), .int z12, .ref (qq 13), .int z14, .int z15, .int z16, .int z17, .ref (qq 18), .int z19, .ref (qq 20), .int z21, .int z22, .int z23, .int z24, .ref (qq 25), .int z26, .ref (qq 27), .ref (qq 28), .ref (qq 29), .int z30, .ref (qq 31), .ref (qq 32), .ref (qq 33), .ref (qq 34), .ref (qq 35), .ref (qq 36), .ref (qq 37), .ref (qq 38), .ref (qq 39), .ref (qq 40), .ref (qq 41), .ref (qq 42)])), ((qq 0), .inl (cT 0, 2, .inl f_81)), ((qq 1), .inl (cT 0, 2, .inl f_82)), ((qq 2), .inl (cT 0, 50, .inl (fun _ => (-1))))] H → va_D A [(y, .inr (12, [.ref (qq 0), .ref (qq 1), .ref (qq 2), .ref (qq 3), .ref (qq 4), .ref (qq 5), .int z6, .ref (qq 7), .ref (qq 8), .ref (qq 9), .ref (qq 10), .ref (qq 11), .int z12, .ref (qq 13), .int z14, .int z15, .int z16, .int z17, .ref (qq 18), .int z19, .ref (qq 20), .int z21, .int z22, .int z23, .int z24, .ref (qq 25), .int z26, .ref (qq 27), .ref (qq 28), .ref (qq 29), .int z30, .ref (qq 31), .ref (qq 32), .ref (qq 33), .ref (qq 34), .ref (qq 35), .ref (qq 36), .ref (qq 37), .ref (qq 38), .ref (qq 39), .ref (qq 40), .ref (qq 41), .ref (qq 42)])), ((qq 0), .inl (cT 0, 2, .inl f_81)), ((qq 1), .inl (cT 0, 2, .inl f_82)), ((qq 2), .inl (cT 0, 50, .inl (fun _ => (-1))))] → va_S A s.heap H locs → ∀ ls : Array Slot, lv_has ls 5 [(4, .int (nI j)), (0, .ref y), (1, .int 1), (2, .int 4), (3, .int t)] → W p l e rm_c_M_reader s m args below meth c H locs 0 0 Q (F0 m 60 ls []) := by
                intro fuel
                induction fuel with
                | zero => intro j hj hfu; omega
                | succ fuel ih_loop_83 =>
                  intro j hj hfu H locs hP hD hS ls hl
                  refine lv_iload hx hb dX12_reader_60 (lv_at hl 0 rfl) ?_
                  refine lv_bipush (v := 25) hx hb dX12_reader_62 (by decide) ?_
                  refine lv_iload_n hx hb dX12_reader_64 rfl (lv_at hl 2 rfl) ?_
                  refine w_imul (v := 25) hx hb dX12_reader_65 (by decide) ?_
                  refine lv_bipush (v := 25) hx hb dX12_reader_66 (by decide) ?_
                  refine w_iadd (v := 50) hx hb dX12_reader_68 (by decide) ?_
                  refine lv_icmp_ge (tgt := 86) hx hb dX12_reader_69 (by decide) (fun c_84 => ?_) (fun c_84 => ?_)
                  · skip
                    refine lv_iconst (v := 1) hx hb dX12_reader_86 (by decide) ?_
                    exact rt_i hx hb hr hlocks hQ hP hD hS () [] dX12_reader_87 rfl (Nat.le_of_ble_eq_true rfl) (Nat.le_of_ble_eq_true rfl) rfl (by decide) (lf_c_M_reader_19 t j h_79 hj c_84)
                  · skip
                    have hlt : j < 50 := Nat.lt_of_not_le (fun h => c_84 (nI_le (a := 50) h (by omega)))
                    refine lv_aload_n hx hb dX12_reader_72 rfl (lv_at hl 1 rfl) ?_
                    refine va_get (C := RX12) (T := TX12) (N := 43) (v := .ref (qq 2)) hx hb hts hi_X12_reader_X12 hown hK hP 0 rfl rfl 2 (by decide) (hts (.fieldLink RX12 16 "BothWaysModel" "goTo" "[I") (by decide +kernel)) (fun _ h => h) rfl dX12_reader_73 ?_
                    refine lv_iload hx hb dX12_reader_76 (lv_at hl 0 rfl) ?_
                    refine lv_iconst (v := (-1)) hx hb dX12_reader_78 (by decide) ?_
                    refine w_iast (f' := (fun _ => (-1))) hx hb hK hP hD hS 3 rfl dX12_reader_79 (vp_in_nI (show j < 50 by omega) (by decide)) (upd_c _ _) (fun H locs hP hD hS => ?_)
                    have hP : va_P g vwCl [(y, .inr (12, [.ref (qq 0), .ref (qq 1), .ref (qq 2), .ref (qq 3), .ref (qq 4), .ref (qq 5), .int z6, .ref (qq 7), .ref (qq 8), .ref (qq 9), .ref (qq 10), .ref (qq 11), .int z12, .ref (qq 13), .int z14, .int z15, .int z16, .int z17, .ref (qq 18), .int z19, .ref (qq 20), .int z21, .int z22, .int z23, .int z24, .ref (qq 25), .int z26, .ref (qq 27), .ref (qq 28), .ref (qq 29), .int z30, .ref (qq 31), .ref (qq 32), .ref (qq 33), .ref (qq 34), .ref (qq 35), .ref (qq 36), .ref (qq 37), .ref (qq 38), .ref (qq 39), .ref (qq 40), .ref (qq 41), .ref (qq 42)])), ((qq 0), .inl (cT 0, 2, .inl f_81)), ((qq 1), .inl (cT 0, 2, .inl f_82)), ((qq 2), .inl (cT 0, 50, .inl (fun _ => (-1))))] H := hP
                    have hD : va_D A [(y, .inr (12, [.ref (qq 0), .ref (qq 1), .ref (qq 2), .ref (qq 3), .ref (qq 4), .ref (qq 5), .int z6, .ref (qq 7), .ref (qq 8), .ref (qq 9), .ref (qq 10), .ref (qq 11), .int z12, .ref (qq 13), .int z14, .int z15, .int z16, .int z17, .ref (qq 18), .int z19, .ref (qq 20), .int z21, .int z22, .int z23, .int z24, .ref (qq 25), .int z26, .ref (qq 27), .ref (qq 28), .ref (qq 29), .int z30, .ref (qq 31), .ref (qq 32), .ref (qq 33), .ref (qq 34), .ref (qq 35), .ref (qq 36), .ref (qq 37), .ref (qq 38), .ref (qq 39), .ref (qq 40), .ref (qq 41), .ref (qq 42)])), ((qq 0), .inl (cT 0, 2, .inl f_81)), ((qq 1), .inl (cT 0, 2, .inl f_82)), ((qq 2), .inl (cT 0, 50, .inl (fun _ => (-1))))] := hD
                    refine lv_iinc (v := (nI (j + 1))) (lv' := [(4, .int (nI (j + 1))), (0, .ref y), (1, .int 1), (2, .int 4), (3, .int t)]) hx hb dX12_reader_80 hl (k := 0) rfl (nI_1 j) (by decide) rfl (fun ls hl => ?_)
                    refine lv_goto (tgt := 60) hx hb dX12_reader_83 (by decide) ?_
                    exact ih_loop_83 (j + 1) (by omega) (by omega) _ _ (hP.sub [0, 1, 2, 3] rfl) (hD.sub [0, 1, 2, 3] (by decide) rfl) hS ls (lv_sub hl [0, 1, 2, 3, 4] rfl)
              exact loop_83 _ 25 (by decide) (Nat.lt_succ_self _) _ _ (hP.sub [0, 1, 2, 3] rfl) (hD.sub [0, 1, 2, 3] (by decide) rfl) hS ls (lv_sub hl [0, 1, 2, 3, 4] rfl)
            · skip
              refine if_ne_f hx hb dX12_reader_34 40 (by decide) (by decide) ?_
              refine lv_bipush (v := (-3)) hx hb dX12_reader_37 (by decide) ?_
              exact rt_i hx hb hr hlocks hQ hP hD hS () [] dX12_reader_39 rfl (Nat.le_of_ble_eq_true rfl) (Nat.le_of_ble_eq_true rfl) rfl (by decide) (lf_c_M_reader_20 t h_80)
          · skip
            refine if_eq_f hx hb dX12_reader_19 37 (by decide) (by decide) ?_
            refine lv_iload_n hx hb dX12_reader_22 rfl (lv_at hl 3 rfl) ?_
            refine lv_i2l (v := t.toInt64) hx hb dX12_reader_23 rfl ?_
            refine lv_lconst (v := 0) hx hb dX12_reader_24 (by decide) ?_
            refine lv_iconst (v := 1) hx hb dX12_reader_25 (by decide) ?_
            refine lv_iload_n hx hb dX12_reader_26 rfl (lv_at hl 2 rfl) ?_
            refine w_ishl (v := 32) hx hb dX12_reader_27 (by decide) ?_
            refine lv_iconst (v := 1) hx hb dX12_reader_28 (by decide) ?_
            refine w_isub (v := 31) hx hb dX12_reader_29 (by decide) ?_
            refine lv_i2l (v := 31) hx hb dX12_reader_30 (by decide) ?_
            refine cp_i (va_runS (As := [.long t.toInt64, .long 0, .long 31]) (rest := []) ⟨hx, hb, hml, hown, hts⟩ (c_M_in l g cT H.size t.toInt64 0 31) (va_cwS 3 hts gX12_reader_X12_in rfl rfl rfl yd_X12_in.2 ⟨(Nat.le_of_ble_eq_true rfl), (Nat.le_of_ble_eq_true rfl)⟩) (preS (ws := []) (wc := []) rfl (fun _ _ h => by simp at h) (va_D_nil (A := A)) hK hN hZ hS hA [] rfl rfl) rfl rfl hl.1 rfl (lv_room (Nat.le_of_ble_eq_true rfl)) dX12_reader_31 ⟨(Nat.le_of_ble_eq_true rfl), (Nat.le_of_ble_eq_true rfl)⟩) hP hS hA (fun r_85 u H locs h_86 hP hS => ?_)
            rcases h_86 with ⟨rfl, h_87⟩ | ⟨rfl, h_88⟩
            · skip
              refine if_ne_t hx hb 40 dX12_reader_34 (by decide) (by decide) ?_
              refine lv_aload_n hx hb dX12_reader_40 rfl (lv_at hl 0 rfl) ?_
              refine va_get (C := RX12) (T := TX12) (N := 43) (v := .ref (qq 0)) hx hb hts hi_X12_reader_X12 hown hK hP 0 rfl rfl 0 (by decide) (hts (.fieldLink RX12 7 "BothWaysModel" "states" "[I") (by decide +kernel)) (fun _ h => h) rfl dX12_reader_41 ?_
              refine lv_iload_n hx hb dX12_reader_44 rfl (lv_at hl 1 rfl) ?_
              refine lv_iload_n hx hb dX12_reader_45 rfl (lv_at hl 2 rfl) ?_
              obtain ⟨f_89, ef_89⟩ : ∃ z, z = upd (fun _ => 1) (1 : Int32).toNatClampNeg 5 := ⟨_, rfl⟩
              refine w_iast (f' := f_89) hx hb hK hP hD hS 1 rfl dX12_reader_46 (inC (by decide)) ef_89.symm (fun H locs hP hD hS => ?_)
              have hP : va_P g vwCl [(y, .inr (12, [.ref (qq 0), .ref (qq 1), .ref (qq 2), .ref (qq 3), .ref (qq 4), .ref (qq 5), .int z6, .ref (qq 7), .ref (qq 8), .ref (qq 9), .ref (qq 10), .ref (qq 11), .int z12, .ref (qq 13), .int z14, .int z15, .int z16, .int z17, .ref (qq 18), .int z19, .ref (qq 20), .int z21, .int z22, .int z23, .int z24, .ref (qq 25), .int z26, .ref (qq 27), .ref (qq 28), .ref (qq 29), .int z30, .ref (qq 31), .ref (qq 32), .ref (qq 33), .ref (qq 34), .ref (qq 35), .ref (qq 36), .ref (qq 37), .ref (qq 38), .ref (qq 39), .ref (qq 40), .ref (qq 41), .ref (qq 42)])), ((qq 0), .inl (cT 0, 2, .inl f_89)), ((qq 1), .inl (cT 0, 2, .inl (fun _ => 0))), ((qq 2), .inl (cT 0, 50, .inl (fun _ => (-1))))] H := hP
              have hD : va_D A [(y, .inr (12, [.ref (qq 0), .ref (qq 1), .ref (qq 2), .ref (qq 3), .ref (qq 4), .ref (qq 5), .int z6, .ref (qq 7), .ref (qq 8), .ref (qq 9), .ref (qq 10), .ref (qq 11), .int z12, .ref (qq 13), .int z14, .int z15, .int z16, .int z17, .ref (qq 18), .int z19, .ref (qq 20), .int z21, .int z22, .int z23, .int z24, .ref (qq 25), .int z26, .ref (qq 27), .ref (qq 28), .ref (qq 29), .int z30, .ref (qq 31), .ref (qq 32), .ref (qq 33), .ref (qq 34), .ref (qq 35), .ref (qq 36), .ref (qq 37), .ref (qq 38), .ref (qq 39), .ref (qq 40), .ref (qq 41), .ref (qq 42)])), ((qq 0), .inl (cT 0, 2, .inl f_89)), ((qq 1), .inl (cT 0, 2, .inl (fun _ => 0))), ((qq 2), .inl (cT 0, 50, .inl (fun _ => (-1))))] := hD
              refine lv_aload_n hx hb dX12_reader_47 rfl (lv_at hl 0 rfl) ?_
              refine va_get (C := RX12) (T := TX12) (N := 43) (v := .ref (qq 1)) hx hb hts hi_X12_reader_X12 hown hK hP 0 rfl rfl 1 (by decide) (hts (.fieldLink RX12 13 "BothWaysModel" "takes" "[I") (by decide +kernel)) (fun _ h => h) rfl dX12_reader_48 ?_
              refine lv_iload_n hx hb dX12_reader_51 rfl (lv_at hl 1 rfl) ?_
              refine lv_iload_n hx hb dX12_reader_52 rfl (lv_at hl 3 rfl) ?_
              obtain ⟨f_90, ef_90⟩ : ∃ z, z = upd (fun _ => 0) (1 : Int32).toNatClampNeg t := ⟨_, rfl⟩
              refine w_iast (f' := f_90) hx hb hK hP hD hS 2 rfl dX12_reader_53 (inC (by decide)) ef_90.symm (fun H locs hP hD hS => ?_)
              have hP : va_P g vwCl [(y, .inr (12, [.ref (qq 0), .ref (qq 1), .ref (qq 2), .ref (qq 3), .ref (qq 4), .ref (qq 5), .int z6, .ref (qq 7), .ref (qq 8), .ref (qq 9), .ref (qq 10), .ref (qq 11), .int z12, .ref (qq 13), .int z14, .int z15, .int z16, .int z17, .ref (qq 18), .int z19, .ref (qq 20), .int z21, .int z22, .int z23, .int z24, .ref (qq 25), .int z26, .ref (qq 27), .ref (qq 28), .ref (qq 29), .int z30, .ref (qq 31), .ref (qq 32), .ref (qq 33), .ref (qq 34), .ref (qq 35), .ref (qq 36), .ref (qq 37), .ref (qq 38), .ref (qq 39), .ref (qq 40), .ref (qq 41), .ref (qq 42)])), ((qq 0), .inl (cT 0, 2, .inl f_89)), ((qq 1), .inl (cT 0, 2, .inl f_90)), ((qq 2), .inl (cT 0, 50, .inl (fun _ => (-1))))] H := hP
              have hD : va_D A [(y, .inr (12, [.ref (qq 0), .ref (qq 1), .ref (qq 2), .ref (qq 3), .ref (qq 4), .ref (qq 5), .int z6, .ref (qq 7), .ref (qq 8), .ref (qq 9), .ref (qq 10), .ref (qq 11), .int z12, .ref (qq 13), .int z14, .int z15, .int z16, .int z17, .ref (qq 18), .int z19, .ref (qq 20), .int z21, .int z22, .int z23, .int z24, .ref (qq 25), .int z26, .ref (qq 27), .ref (qq 28), .ref (qq 29), .int z30, .ref (qq 31), .ref (qq 32), .ref (qq 33), .ref (qq 34), .ref (qq 35), .ref (qq 36), .ref (qq 37), .ref (qq 38), .ref (qq 39), .ref (qq 40), .ref (qq 41), .ref (qq 42)])), ((qq 0), .inl (cT 0, 2, .inl f_89)), ((qq 1), .inl (cT 0, 2, .inl f_90)), ((qq 2), .inl (cT 0, 50, .inl (fun _ => (-1))))] := hD
              refine lv_bipush (v := 25) hx hb dX12_reader_54 (by decide) ?_
              refine lv_iload_n hx hb dX12_reader_56 rfl (lv_at hl 1 rfl) ?_
              refine w_imul (v := 25) hx hb dX12_reader_57 (by decide) ?_
              refine lv_istore (lv' := [(4, .int 25), (0, .ref y), (1, .int 1), (2, .int 5), (3, .int t)]) hx hb dX12_reader_58 hl (by decide) rfl (fun ls hl => ?_)
              have loop_91 : ∀ (fuel : Nat) (j : Nat), j ≤ 50 → 50 - j < fuel → ∀ (H : Heap) (locs : List Loc), va_P g vwCl [(y, .inr (12, [.ref (qq 0), .ref (qq 1), .ref (qq 2), .ref (qq 3), .ref (qq 4), .ref (qq 5), .int z6, .ref (qq 7), .ref (qq 8), .ref (qq 9), .ref (qq 10), .ref (qq 11), .int z12, .ref (qq 13), .int z14, .int z15, .int z16, .int z17, .ref (qq 18), .int z19, .ref (qq 20), .int z21, .int z22, .int z23, .int z24, .ref (qq 25), .int z26, .ref (qq 27), .ref (qq 28), .ref (qq 29), .int z30, .ref (qq 31), .ref (qq 32), .ref (qq 33), .ref (qq 34), .ref (qq 35), .ref (qq 36), .ref (qq 37), .ref (qq 38), .ref (qq 39), .ref (qq 40), .ref (qq 41), .ref (qq 42)])), ((qq 0), .inl (cT 0, 2, .inl f_89)), ((qq 1), .inl (cT 0, 2, .inl f_90)), ((qq 2), .inl (cT 0, 50, .inl (fun _ => (-1))))] H → va_D A [(y, .inr (12, [.ref (qq 0), .ref (qq 1), .ref (qq 2), .ref (qq 3), .ref (qq 4), .ref (qq 5), .int z6, .ref (qq 7), .ref (qq 8), .ref (qq 9), .ref (qq 10), .ref (qq 11), .int z12, .ref (qq 13), .int z14, .int z15, .int z16, .int z17, .ref (qq 18), .int z19, .ref (qq 20), .int z21, .int z22, .int z23, .int z24, .ref (qq 25), .int z26, .ref (qq 27), .ref (qq 28), .ref (qq 29), .int z30, .ref (qq 31), .ref (qq 32), .ref (qq 33), .ref (qq 34), .ref (qq 35), .ref (qq 36), .ref (qq 37), .ref (qq 38), .ref (qq 39), .ref (qq 40), .ref (qq 41), .ref (qq 42)])), ((qq 0), .inl (cT 0, 2, .inl f_89)), ((qq 1), .inl (cT 0, 2, .inl f_90)), ((qq 2), .inl (cT 0, 50, .inl (fun _ => (-1))))] → va_S A s.heap H locs → ∀ ls : Array Slot, lv_has ls 5 [(4, .int (nI j)), (0, .ref y), (1, .int 1), (2, .int 5), (3, .int t)] → W p l e rm_c_M_reader s m args below meth c H locs 0 0 Q (F0 m 60 ls []) := by
                intro fuel
                induction fuel with
                | zero => intro j hj hfu; omega
                | succ fuel ih_loop_91 =>
                  intro j hj hfu H locs hP hD hS ls hl
                  refine lv_iload hx hb dX12_reader_60 (lv_at hl 0 rfl) ?_
                  refine lv_bipush (v := 25) hx hb dX12_reader_62 (by decide) ?_
                  refine lv_iload_n hx hb dX12_reader_64 rfl (lv_at hl 2 rfl) ?_
                  refine w_imul (v := 25) hx hb dX12_reader_65 (by decide) ?_
                  refine lv_bipush (v := 25) hx hb dX12_reader_66 (by decide) ?_
                  refine w_iadd (v := 50) hx hb dX12_reader_68 (by decide) ?_
                  refine lv_icmp_ge (tgt := 86) hx hb dX12_reader_69 (by decide) (fun c_92 => ?_) (fun c_92 => ?_)
                  · skip
                    refine lv_iconst (v := 1) hx hb dX12_reader_86 (by decide) ?_
                    exact rt_i hx hb hr hlocks hQ hP hD hS () [] dX12_reader_87 rfl (Nat.le_of_ble_eq_true rfl) (Nat.le_of_ble_eq_true rfl) rfl (by decide) (lf_c_M_reader_21 t j h_87 hj c_92)
                  · skip
                    have hlt : j < 50 := Nat.lt_of_not_le (fun h => c_92 (nI_le (a := 50) h (by omega)))
                    refine lv_aload_n hx hb dX12_reader_72 rfl (lv_at hl 1 rfl) ?_
                    refine va_get (C := RX12) (T := TX12) (N := 43) (v := .ref (qq 2)) hx hb hts hi_X12_reader_X12 hown hK hP 0 rfl rfl 2 (by decide) (hts (.fieldLink RX12 16 "BothWaysModel" "goTo" "[I") (by decide +kernel)) (fun _ h => h) rfl dX12_reader_73 ?_
                    refine lv_iload hx hb dX12_reader_76 (lv_at hl 0 rfl) ?_
                    refine lv_iconst (v := (-1)) hx hb dX12_reader_78 (by decide) ?_
                    refine w_iast (f' := (fun _ => (-1))) hx hb hK hP hD hS 3 rfl dX12_reader_79 (vp_in_nI (show j < 50 by omega) (by decide)) (upd_c _ _) (fun H locs hP hD hS => ?_)
                    have hP : va_P g vwCl [(y, .inr (12, [.ref (qq 0), .ref (qq 1), .ref (qq 2), .ref (qq 3), .ref (qq 4), .ref (qq 5), .int z6, .ref (qq 7), .ref (qq 8), .ref (qq 9), .ref (qq 10), .ref (qq 11), .int z12, .ref (qq 13), .int z14, .int z15, .int z16, .int z17, .ref (qq 18), .int z19, .ref (qq 20), .int z21, .int z22, .int z23, .int z24, .ref (qq 25), .int z26, .ref (qq 27), .ref (qq 28), .ref (qq 29), .int z30, .ref (qq 31), .ref (qq 32), .ref (qq 33), .ref (qq 34), .ref (qq 35), .ref (qq 36), .ref (qq 37), .ref (qq 38), .ref (qq 39), .ref (qq 40), .ref (qq 41), .ref (qq 42)])), ((qq 0), .inl (cT 0, 2, .inl f_89)), ((qq 1), .inl (cT 0, 2, .inl f_90)), ((qq 2), .inl (cT 0, 50, .inl (fun _ => (-1))))] H := hP
                    have hD : va_D A [(y, .inr (12, [.ref (qq 0), .ref (qq 1), .ref (qq 2), .ref (qq 3), .ref (qq 4), .ref (qq 5), .int z6, .ref (qq 7), .ref (qq 8), .ref (qq 9), .ref (qq 10), .ref (qq 11), .int z12, .ref (qq 13), .int z14, .int z15, .int z16, .int z17, .ref (qq 18), .int z19, .ref (qq 20), .int z21, .int z22, .int z23, .int z24, .ref (qq 25), .int z26, .ref (qq 27), .ref (qq 28), .ref (qq 29), .int z30, .ref (qq 31), .ref (qq 32), .ref (qq 33), .ref (qq 34), .ref (qq 35), .ref (qq 36), .ref (qq 37), .ref (qq 38), .ref (qq 39), .ref (qq 40), .ref (qq 41), .ref (qq 42)])), ((qq 0), .inl (cT 0, 2, .inl f_89)), ((qq 1), .inl (cT 0, 2, .inl f_90)), ((qq 2), .inl (cT 0, 50, .inl (fun _ => (-1))))] := hD
                    refine lv_iinc (v := (nI (j + 1))) (lv' := [(4, .int (nI (j + 1))), (0, .ref y), (1, .int 1), (2, .int 5), (3, .int t)]) hx hb dX12_reader_80 hl (k := 0) rfl (nI_1 j) (by decide) rfl (fun ls hl => ?_)
                    refine lv_goto (tgt := 60) hx hb dX12_reader_83 (by decide) ?_
                    exact ih_loop_91 (j + 1) (by omega) (by omega) _ _ (hP.sub [0, 1, 2, 3] rfl) (hD.sub [0, 1, 2, 3] (by decide) rfl) hS ls (lv_sub hl [0, 1, 2, 3, 4] rfl)
              exact loop_91 _ 25 (by decide) (Nat.lt_succ_self _) _ _ (hP.sub [0, 1, 2, 3] rfl) (hD.sub [0, 1, 2, 3] (by decide) rfl) hS ls (lv_sub hl [0, 1, 2, 3, 4] rfl)
            · skip
              refine if_ne_f hx hb dX12_reader_34 40 (by decide) (by decide) ?_
              refine lv_bipush (v := (-3)) hx hb dX12_reader_37 (by decide) ?_
              exact rt_i hx hb hr hlocks hQ hP hD hS () [] dX12_reader_39 rfl (Nat.le_of_ble_eq_true rfl) (Nat.le_of_ble_eq_true rfl) rfl (by decide) (lf_c_M_reader_22 t h_88)
        · skip
          refine if_eq_t hx hb 37 dX12_reader_19 (by decide) (by decide) ?_
          refine lv_bipush (v := (-3)) hx hb dX12_reader_37 (by decide) ?_
          exact rt_i hx hb hr hlocks hQ hP hD hS () [] dX12_reader_39 rfl (Nat.le_of_ble_eq_true rfl) (Nat.le_of_ble_eq_true rfl) rfl (by decide) (lf_c_M_reader_23 n t h_52)
    · skip
      refine if_ne_f hx hb dX12_reader_4 10 (by decide) (by decide) ?_
      refine lv_bipush (v := (-2)) hx hb dX12_reader_7 (by decide) ?_
      exact rt_i hx hb hr hlocks hQ hP hD hS () [] dX12_reader_9 rfl (Nat.le_of_ble_eq_true rfl) (Nat.le_of_ble_eq_true rfl) rfl (by decide) (lf_c_M_reader_24 x n t h_4)
  rw [hH, hlo] at hgo
  exact hgo
theorem hi_X12_write_X12 : ∀ w ∈ wsX120, w ∈ wsX12_write := fun _ h => List.mem_cons_of_mem _ (List.mem_append_right _ h)
abbrev rm_c_M_write : Room := { frames := 1, cells := 0, slots := 0, locals := 25 }
theorem lf_c_M_write_0 (n : Int32) (h_3 : 1 ≤ n.toInt64 ∧ n.toInt64 ≤ 8) : ¬ n < 0 := by (simp only [true_or, or_true, false_or, or_false, true_and, and_true, false_and, and_false, not_true_eq_false, not_false_eq_true, i_lt, i_le, i_eq, j_lt, j_le, j_eq, Int32.toInt_toInt64, li_0, lj_0, li_1, lj_1, li_2, lj_2, li_3, lj_3, li_4, lj_4, li_5, lj_5, li_6, lj_6, li_7, lj_7, li_8, lj_8, li_10, lj_10, li_11, lj_11, li_12, lj_12, li_24, lj_24, li_25, lj_25, li_50, lj_50, li_130, lj_130, li_160, lj_160, li_800, lj_800, li_4000, lj_4000, li_10000, lj_10000, li_16384, lj_16384, li_26, lj_26, li_32, lj_32, li_48, lj_48, li_57, lj_57, li_59, lj_59, li_97, lj_97, li_99, lj_99, li_122, lj_122, li_m1, lj_m1, li_m2, lj_m2, li_m3, lj_m3, li_m4, lj_m4, li_m5, lj_m5, li_m6, lj_m6] at * <;> omega)
theorem lf_c_M_write_1 (n : Int32) (h_3 : 1 ≤ n.toInt64 ∧ n.toInt64 ≤ 8) : n ≤ 8 := by (simp only [true_or, or_true, false_or, or_false, true_and, and_true, false_and, and_false, not_true_eq_false, not_false_eq_true, i_lt, i_le, i_eq, j_lt, j_le, j_eq, Int32.toInt_toInt64, li_0, lj_0, li_1, lj_1, li_2, lj_2, li_3, lj_3, li_4, lj_4, li_5, lj_5, li_6, lj_6, li_7, lj_7, li_8, lj_8, li_10, lj_10, li_11, lj_11, li_12, lj_12, li_24, lj_24, li_25, lj_25, li_50, lj_50, li_130, lj_130, li_160, lj_160, li_800, lj_800, li_4000, lj_4000, li_10000, lj_10000, li_16384, lj_16384, li_26, lj_26, li_32, lj_32, li_48, lj_48, li_57, lj_57, li_59, lj_59, li_97, lj_97, li_99, lj_99, li_122, lj_122, li_m1, lj_m1, li_m2, lj_m2, li_m3, lj_m3, li_m4, lj_m4, li_m5, lj_m5, li_m6, lj_m6] at * <;> omega)
theorem lf_c_M_write_2 (b : Int64) (N : Nat) (j : Nat) (h_3 : 1 ≤ (nI N).toInt64 ∧ (nI N).toInt64 ≤ 8) (hM : N ≤ 8) (hj : j ≤ N) (c_6 : (nI N) ≤ (nI j)) : (nI N) = sp_write b (nI N) := by (unfold sp_write; rw [if_neg] <;> (simp only [true_or, or_true, false_or, or_false, true_and, and_true, false_and, and_false, not_true_eq_false, not_false_eq_true, i_lt, i_le, i_eq, j_lt, j_le, j_eq, Int32.toInt_toInt64, li_0, lj_0, li_1, lj_1, li_2, lj_2, li_3, lj_3, li_4, lj_4, li_5, lj_5, li_6, lj_6, li_7, lj_7, li_8, lj_8, li_10, lj_10, li_11, lj_11, li_12, lj_12, li_24, lj_24, li_25, lj_25, li_50, lj_50, li_130, lj_130, li_160, lj_160, li_800, lj_800, li_4000, lj_4000, li_10000, lj_10000, li_16384, lj_16384, li_26, lj_26, li_32, lj_32, li_48, lj_48, li_57, lj_57, li_59, lj_59, li_97, lj_97, li_99, lj_99, li_122, lj_122, li_m1, lj_m1, li_m2, lj_m2, li_m3, lj_m3, li_m4, lj_m4, li_m5, lj_m5, li_m6, lj_m6] at * <;> omega))
theorem lf_c_M_write_3 (b : Int64) (n : Int32) (h_4 : ¬ (1 ≤ n.toInt64 ∧ n.toInt64 ≤ 8)) : ((-3) : Int32) = sp_write b n := by (unfold sp_write; rw [if_pos] <;> (simp only [true_or, or_true, false_or, or_false, true_and, and_true, false_and, and_false, not_true_eq_false, not_false_eq_true, i_lt, i_le, i_eq, j_lt, j_le, j_eq, Int32.toInt_toInt64, li_0, lj_0, li_1, lj_1, li_2, lj_2, li_3, lj_3, li_4, lj_4, li_5, lj_5, li_6, lj_6, li_7, lj_7, li_8, lj_8, li_10, lj_10, li_11, lj_11, li_12, lj_12, li_24, lj_24, li_25, lj_25, li_50, lj_50, li_130, lj_130, li_160, lj_160, li_800, lj_800, li_4000, lj_4000, li_10000, lj_10000, li_16384, lj_16384, li_26, lj_26, li_32, lj_32, li_48, lj_48, li_57, lj_57, li_59, lj_59, li_97, lj_97, li_99, lj_99, li_122, lj_122, li_m1, lj_m1, li_m2, lj_m2, li_m3, lj_m3, li_m4, lj_m4, li_m5, lj_m5, li_m6, lj_m6] at * <;> omega))
set_option maxHeartbeats 4000000 in
set_option maxRecDepth 100000 in
theorem c_M_write (l : Launch) (g : va_G) (cT : Nat → ClassId) (sz : Nat) (y : Nat) (qq : Nat → Nat) (z12 : Int32) (z14 : Int32) (z15 : Int32) (z16 : Int32) (z17 : Int32) (z19 : Int32) (z21 : Int32) (z22 : Int32) (z23 : Int32) (z24 : Int32) (z26 : Int32) (z30 : Int32) (b : Int64) (n : Int32)  : Ctr l g cT sz yX12_write wsX12_write rm_c_M_write [.ref y, .long b, .int n] [(y, .inr (12, [.ref (qq 0), .ref (qq 1), .ref (qq 2), .ref (qq 3), .ref (qq 4), .ref (qq 5), .int 0, .ref (qq 7), .ref (qq 8), .ref (qq 9), .ref (qq 10), .ref (qq 11), .int z12, .ref (qq 13), .int z14, .int z15, .int z16, .int z17, .ref (qq 18), .int z19, .ref (qq 20), .int z21, .int z22, .int z23, .int z24, .ref (qq 25), .int z26, .ref (qq 27), .ref (qq 28), .ref (qq 29), .int z30, .ref (qq 31), .ref (qq 32), .ref (qq 33), .ref (qq 34), .ref (qq 35), .ref (qq 36), .ref (qq 37), .ref (qq 38), .ref (qq 39), .ref (qq 40), .ref (qq 41), .ref (qq 42)])), ((qq 5), .inl (cT 0, 160, .inl (fun _ => 0)))] (QI g (fun (r : Int32) (u : Unit) => r = sp_write b n) (fun (u : Unit) => [])) 0 0 := by
  refine mk_ctr (cc := cX12_write) (maxL := 5) (ret := (some .int)) (by decide) rfl (Nat.le_of_ble_eq_true rfl) ?_
  intro p e s m args below meth c A Q hx hb hr hts hown hlocks hin hml hP hK hD hN hZ hA hS hQ ls hl
  have hl : lv_has ls 5 [(0, .ref y), (1, .long b), (3, .int n)] := hl
  obtain ⟨H, hH⟩ : ∃ H : Heap, H = s.heap := ⟨_, rfl⟩
  obtain ⟨locs, hlo⟩ : ∃ x : List Loc, x = [] := ⟨_, rfl⟩
  rw [← hH] at hP
  have hS : va_S A s.heap H locs := by rw [hH, hlo]; exact hS
  have hgo : W p l e rm_c_M_write s m args below meth c H locs 0 0 Q (F0 m 0 ls []) := by
    clear hH hlo
    refine lv_iload_n hx hb dX12_write_0 rfl (lv_at hl 2 rfl) ?_
    refine lv_i2l (v := n.toInt64) hx hb dX12_write_1 rfl ?_
    refine lv_lconst (v := 1) hx hb dX12_write_2 (by decide) ?_
    refine lv_ldc2 (v := 8) hx hb hown (hts (.constantLong RX12 112 (8)) (by decide +kernel)) dX12_write_3 ?_
    refine cp_i (va_runS (As := [.long n.toInt64, .long 1, .long 8]) (rest := []) ⟨hx, hb, hml, hown, hts⟩ (c_M_in l g cT H.size n.toInt64 1 8) (va_cwS 3 hts gX12_write_X12_in rfl rfl rfl yd_X12_in.2 ⟨(Nat.le_of_ble_eq_true rfl), (Nat.le_of_ble_eq_true rfl)⟩) (preS (ws := []) (wc := []) rfl (fun _ _ h => by simp at h) (va_D_nil (A := A)) hK hN hZ hS hA [] rfl rfl) rfl rfl hl.1 rfl (lv_room (Nat.le_of_ble_eq_true rfl)) dX12_write_6 ⟨(Nat.le_of_ble_eq_true rfl), (Nat.le_of_ble_eq_true rfl)⟩) hP hS hA (fun r_1 u H locs h_2 hP hS => ?_)
    rcases h_2 with ⟨rfl, h_3⟩ | ⟨rfl, h_4⟩
    · skip
      obtain ⟨N, hM, rfl⟩ := nI_of2 (x := n) (M := 8) (n := 8) (by decide) (lf_c_M_write_0 n h_3) (lf_c_M_write_1 n h_3)
      refine if_ne_t hx hb 15 dX12_write_9 (by decide) (by decide) ?_
      refine lv_aload_n hx hb dX12_write_15 rfl (lv_at hl 0 rfl) ?_
      refine va_get (C := RX12) (T := TX12) (N := 43) (v := .int 0) hx hb hts hi_X12_write_X12 hown hK hP 0 rfl rfl 6 (by decide) (hts (.fieldLink RX12 114 "BothWaysModel" "length" "I") (by decide +kernel)) (fun _ h => h) rfl dX12_write_16 ?_
      refine lv_iload_n hx hb dX12_write_19 rfl (lv_at hl 2 rfl) ?_
      refine w_iadd (v := (nI N)) hx hb dX12_write_20 (Int32.zero_add _) ?_
      refine lv_sipush (v := 160) hx hb dX12_write_21 (by decide) ?_
      refine icmp_le_t hx hb 30 dX12_write_24 (by decide) (nI_le (b := 160) (by omega) (by decide)) ?_
      refine lv_iconst (v := 0) hx hb dX12_write_30 (by decide) ?_
      refine lv_istore (lv' := [(4, .int 0), (0, .ref y), (1, .long b), (3, .int (nI N))]) hx hb dX12_write_31 hl (by decide) rfl (fun ls hl => ?_)
      have loop_5 : ∀ (fuel : Nat) (j : Nat) (f2 : Nat → Int32), j ≤ N → N - j < fuel → ∀ (H : Heap) (locs : List Loc), va_P g vwCl [(y, .inr (12, [.ref (qq 0), .ref (qq 1), .ref (qq 2), .ref (qq 3), .ref (qq 4), .ref (qq 5), .int (nI j), .ref (qq 7), .ref (qq 8), .ref (qq 9), .ref (qq 10), .ref (qq 11), .int z12, .ref (qq 13), .int z14, .int z15, .int z16, .int z17, .ref (qq 18), .int z19, .ref (qq 20), .int z21, .int z22, .int z23, .int z24, .ref (qq 25), .int z26, .ref (qq 27), .ref (qq 28), .ref (qq 29), .int z30, .ref (qq 31), .ref (qq 32), .ref (qq 33), .ref (qq 34), .ref (qq 35), .ref (qq 36), .ref (qq 37), .ref (qq 38), .ref (qq 39), .ref (qq 40), .ref (qq 41), .ref (qq 42)])), ((qq 5), .inl (cT 0, 160, .inl f2))] H → va_D A [(y, .inr (12, [.ref (qq 0), .ref (qq 1), .ref (qq 2), .ref (qq 3), .ref (qq 4), .ref (qq 5), .int (nI j), .ref (qq 7), .ref (qq 8), .ref (qq 9), .ref (qq 10), .ref (qq 11), .int z12, .ref (qq 13), .int z14, .int z15, .int z16, .int z17, .ref (qq 18), .int z19, .ref (qq 20), .int z21, .int z22, .int z23, .int z24, .ref (qq 25), .int z26, .ref (qq 27), .ref (qq 28), .ref (qq 29), .int z30, .ref (qq 31), .ref (qq 32), .ref (qq 33), .ref (qq 34), .ref (qq 35), .ref (qq 36), .ref (qq 37), .ref (qq 38), .ref (qq 39), .ref (qq 40), .ref (qq 41), .ref (qq 42)])), ((qq 5), .inl (cT 0, 160, .inl f2))] → va_S A s.heap H locs → ∀ ls : Array Slot, lv_has ls 5 [(4, .int (nI j)), (0, .ref y), (1, .long b), (3, .int (nI N))] → W p l e rm_c_M_write s m args below meth c H locs 0 0 Q (F0 m 33 ls []) := by
        intro fuel
        induction fuel with
        | zero => intro j f2 hj hfu; omega
        | succ fuel ih_loop_5 =>
          intro j f2 hj hfu H locs hP hD hS ls hl
          refine lv_iload hx hb dX12_write_33 (lv_at hl 0 rfl) ?_
          refine lv_iload_n hx hb dX12_write_35 rfl (lv_at hl 3 rfl) ?_
          refine lv_icmp_ge (tgt := 76) hx hb dX12_write_36 (by decide) (fun c_6 => ?_) (fun c_6 => ?_)
          · skip
            have hjN : j = N := Nat.le_antisymm hj ((nI_leI (by omega) (by omega)).mp c_6)
            refine lv_aload_n hx hb dX12_write_76 rfl (lv_at hl 1 rfl) ?_
            refine va_get (C := RX12) (T := TX12) (N := 43) (v := .int (nI j)) hx hb hts hi_X12_write_X12 hown hK hP 0 rfl rfl 6 (by decide) (hts (.fieldLink RX12 114 "BothWaysModel" "length" "I") (by decide +kernel)) (fun _ h => h) rfl dX12_write_77 ?_
            exact rt_i hx hb hr hlocks hQ hP hD hS () [] dX12_write_80 rfl (Nat.le_of_ble_eq_true rfl) (Nat.le_of_ble_eq_true rfl) rfl (by decide) (by rw [hjN]; exact (lf_c_M_write_2 b N j h_3 hM hj c_6))
          · skip
            have hlt : j < N := Nat.lt_of_not_le (fun h => c_6 (nI_le h (by omega)))
            refine lv_aload_n hx hb dX12_write_39 rfl (lv_at hl 1 rfl) ?_
            refine va_get (C := RX12) (T := TX12) (N := 43) (v := .ref (qq 5)) hx hb hts hi_X12_write_X12 hown hK hP 0 rfl rfl 5 (by decide) (hts (.fieldLink RX12 25 "BothWaysModel" "text" "[I") (by decide +kernel)) (fun _ h => h) rfl dX12_write_40 ?_
            refine lv_aload_n hx hb dX12_write_43 rfl (lv_at hl 1 rfl) ?_
            refine va_get (C := RX12) (T := TX12) (N := 43) (v := .int (nI j)) hx hb hts hi_X12_write_X12 hown hK hP 0 rfl rfl 6 (by decide) (hts (.fieldLink RX12 114 "BothWaysModel" "length" "I") (by decide +kernel)) (fun _ h => h) rfl dX12_write_44 ?_
            refine lv_lload_n hx hb dX12_write_47 rfl (lv_at hl 2 rfl) ?_
            refine lv_bipush (v := 8) hx hb dX12_write_48 (by decide) ?_
            refine lv_iload hx hb dX12_write_50 (lv_at hl 0 rfl) ?_
            refine w_imul (v := (8 : Int32) * (nI j)) hx hb dX12_write_52 rfl ?_
            refine lv_lshr (v := b >>> (((8 : Int32) * (nI j)).toInt64 &&& 63)) hx hb dX12_write_53 rfl ?_
            refine lv_ldc2 (v := 255) hx hb hown (hts (.constantLong RX12 118 (255)) (by decide +kernel)) dX12_write_54 ?_
            refine w_land (v := (b >>> (((8 : Int32) * (nI j)).toInt64 &&& 63)) &&& (255 : Int64)) hx hb dX12_write_57 rfl ?_
            refine lv_l2i (v := ((b >>> (((8 : Int32) * (nI j)).toInt64 &&& 63)) &&& (255 : Int64)).toInt32) hx hb dX12_write_58 rfl ?_
            obtain ⟨f_7, ef_7⟩ : ∃ z, z = upd f2 (nI j).toNatClampNeg (((b >>> (((8 : Int32) * (nI j)).toInt64 &&& 63)) &&& (255 : Int64)).toInt32) := ⟨_, rfl⟩
            refine w_iast (f' := f_7) hx hb hK hP hD hS 1 rfl dX12_write_59 (vp_in_nI (show j < 160 by omega) (by decide)) ef_7.symm (fun H locs hP hD hS => ?_)
            have hP : va_P g vwCl [(y, .inr (12, [.ref (qq 0), .ref (qq 1), .ref (qq 2), .ref (qq 3), .ref (qq 4), .ref (qq 5), .int (nI j), .ref (qq 7), .ref (qq 8), .ref (qq 9), .ref (qq 10), .ref (qq 11), .int z12, .ref (qq 13), .int z14, .int z15, .int z16, .int z17, .ref (qq 18), .int z19, .ref (qq 20), .int z21, .int z22, .int z23, .int z24, .ref (qq 25), .int z26, .ref (qq 27), .ref (qq 28), .ref (qq 29), .int z30, .ref (qq 31), .ref (qq 32), .ref (qq 33), .ref (qq 34), .ref (qq 35), .ref (qq 36), .ref (qq 37), .ref (qq 38), .ref (qq 39), .ref (qq 40), .ref (qq 41), .ref (qq 42)])), ((qq 5), .inl (cT 0, 160, .inl f_7))] H := hP
            have hD : va_D A [(y, .inr (12, [.ref (qq 0), .ref (qq 1), .ref (qq 2), .ref (qq 3), .ref (qq 4), .ref (qq 5), .int (nI j), .ref (qq 7), .ref (qq 8), .ref (qq 9), .ref (qq 10), .ref (qq 11), .int z12, .ref (qq 13), .int z14, .int z15, .int z16, .int z17, .ref (qq 18), .int z19, .ref (qq 20), .int z21, .int z22, .int z23, .int z24, .ref (qq 25), .int z26, .ref (qq 27), .ref (qq 28), .ref (qq 29), .int z30, .ref (qq 31), .ref (qq 32), .ref (qq 33), .ref (qq 34), .ref (qq 35), .ref (qq 36), .ref (qq 37), .ref (qq 38), .ref (qq 39), .ref (qq 40), .ref (qq 41), .ref (qq 42)])), ((qq 5), .inl (cT 0, 160, .inl f_7))] := hD
            refine lv_aload_n hx hb dX12_write_60 rfl (lv_at hl 1 rfl) ?_
            refine lv_dup hx hb dX12_write_61 rfl ?_
            refine va_get (C := RX12) (T := TX12) (N := 43) (v := .int (nI j)) hx hb hts hi_X12_write_X12 hown hK hP 0 rfl rfl 6 (by decide) (hts (.fieldLink RX12 114 "BothWaysModel" "length" "I") (by decide +kernel)) (fun _ h => h) rfl dX12_write_62 ?_
            refine lv_iconst (v := 1) hx hb dX12_write_65 (by decide) ?_
            refine w_iadd (v := (nI (j + 1))) hx hb dX12_write_66 (nI_1 j) ?_
            refine va_put (C := RX12) (T := TX12) (N := 43) (v := .int (nI (j + 1))) (ty := .int) hx hb hts hi_X12_write_X12 tyX12 tyX12_ok nmX12 hown hK hP hD hS 0 rfl rfl 6 (by decide) (hts (.fieldLink RX12 114 "BothWaysModel" "length" "I") (by decide +kernel)) (fun _ h => h) rfl (by decide +kernel) rfl rfl (Nat.le_of_ble_eq_true rfl) dX12_write_67 (fun H locs hP hD hS => ?_)
            have hP : va_P g vwCl [(y, .inr (12, [.ref (qq 0), .ref (qq 1), .ref (qq 2), .ref (qq 3), .ref (qq 4), .ref (qq 5), .int (nI (j + 1)), .ref (qq 7), .ref (qq 8), .ref (qq 9), .ref (qq 10), .ref (qq 11), .int z12, .ref (qq 13), .int z14, .int z15, .int z16, .int z17, .ref (qq 18), .int z19, .ref (qq 20), .int z21, .int z22, .int z23, .int z24, .ref (qq 25), .int z26, .ref (qq 27), .ref (qq 28), .ref (qq 29), .int z30, .ref (qq 31), .ref (qq 32), .ref (qq 33), .ref (qq 34), .ref (qq 35), .ref (qq 36), .ref (qq 37), .ref (qq 38), .ref (qq 39), .ref (qq 40), .ref (qq 41), .ref (qq 42)])), ((qq 5), .inl (cT 0, 160, .inl f_7))] H := hP
            have hD : va_D A [(y, .inr (12, [.ref (qq 0), .ref (qq 1), .ref (qq 2), .ref (qq 3), .ref (qq 4), .ref (qq 5), .int (nI (j + 1)), .ref (qq 7), .ref (qq 8), .ref (qq 9), .ref (qq 10), .ref (qq 11), .int z12, .ref (qq 13), .int z14, .int z15, .int z16, .int z17, .ref (qq 18), .int z19, .ref (qq 20), .int z21, .int z22, .int z23, .int z24, .ref (qq 25), .int z26, .ref (qq 27), .ref (qq 28), .ref (qq 29), .int z30, .ref (qq 31), .ref (qq 32), .ref (qq 33), .ref (qq 34), .ref (qq 35), .ref (qq 36), .ref (qq 37), .ref (qq 38), .ref (qq 39), .ref (qq 40), .ref (qq 41), .ref (qq 42)])), ((qq 5), .inl (cT 0, 160, .inl f_7))] := hD
            refine lv_iinc (v := (nI (j + 1))) (lv' := [(4, .int (nI (j + 1))), (0, .ref y), (1, .long b), (3, .int (nI N))]) hx hb dX12_write_70 hl (k := 0) rfl (nI_1 j) (by decide) rfl (fun ls hl => ?_)
            refine lv_goto (tgt := 33) hx hb dX12_write_73 (by decide) ?_
            exact ih_loop_5 (j + 1) f_7 (by omega) (by omega) _ _ (hP.sub [0, 1] rfl) (hD.sub [0, 1] (by decide) rfl) hS ls (lv_sub hl [0, 1, 2, 3] rfl)
      exact loop_5 _ 0 (fun _ => 0) (Nat.zero_le _) (Nat.lt_succ_self _) _ _ (hP.sub [0, 1] rfl) (hD.sub [0, 1] (by decide) rfl) hS ls (lv_sub hl [0, 1, 2, 3] rfl)
    · skip
      refine if_ne_f hx hb dX12_write_9 15 (by decide) (by decide) ?_
      refine lv_bipush (v := (-3)) hx hb dX12_write_12 (by decide) ?_
      exact rt_i hx hb hr hlocks hQ hP hD hS () [] dX12_write_14 rfl (Nat.le_of_ble_eq_true rfl) (Nat.le_of_ble_eq_true rfl) rfl (by decide) (lf_c_M_write_3 b n h_4)
  rw [hH, hlo] at hgo
  exact hgo
theorem hi_X12_erase_X12 : ∀ w ∈ wsX120, w ∈ wsX12_erase := fun _ h => List.mem_cons_of_mem _ (List.mem_append_right _ h)
abbrev rm_c_M_erase : Room := { frames := 0, cells := 0, slots := 0, locals := 0 }
set_option maxHeartbeats 4000000 in
set_option maxRecDepth 100000 in
theorem c_M_erase (l : Launch) (g : va_G) (cT : Nat → ClassId) (sz : Nat) (y : Nat) (qq : Nat → Nat) (z12 : Int32) (z14 : Int32) (z15 : Int32) (z16 : Int32) (z17 : Int32) (z19 : Int32) (z21 : Int32) (z22 : Int32) (z23 : Int32) (z24 : Int32) (z26 : Int32) (z30 : Int32)  : Ctr l g cT sz yX12_erase wsX12_erase rm_c_M_erase [.ref y] [(y, .inr (12, [.ref (qq 0), .ref (qq 1), .ref (qq 2), .ref (qq 3), .ref (qq 4), .ref (qq 5), .int 0, .ref (qq 7), .ref (qq 8), .ref (qq 9), .ref (qq 10), .ref (qq 11), .int z12, .ref (qq 13), .int z14, .int z15, .int z16, .int z17, .ref (qq 18), .int z19, .ref (qq 20), .int z21, .int z22, .int z23, .int z24, .ref (qq 25), .int z26, .ref (qq 27), .ref (qq 28), .ref (qq 29), .int z30, .ref (qq 31), .ref (qq 32), .ref (qq 33), .ref (qq 34), .ref (qq 35), .ref (qq 36), .ref (qq 37), .ref (qq 38), .ref (qq 39), .ref (qq 40), .ref (qq 41), .ref (qq 42)]))] (QI g (fun (r : Int32) (u : Unit) => r = (0 : Int32)) (fun (u : Unit) => [])) 0 0 := by
  refine mk_ctr (cc := cX12_erase) (maxL := 2) (ret := (some .int)) (by decide) rfl (Nat.le_of_ble_eq_true rfl) ?_
  intro p e s m args below meth c A Q hx hb hr hts hown hlocks hin hml hP hK hD hN hZ hA hS hQ ls hl
  have hl : lv_has ls 2 [(0, .ref y)] := hl
  obtain ⟨H, hH⟩ : ∃ H : Heap, H = s.heap := ⟨_, rfl⟩
  obtain ⟨locs, hlo⟩ : ∃ x : List Loc, x = [] := ⟨_, rfl⟩
  rw [← hH] at hP
  have hS : va_S A s.heap H locs := by rw [hH, hlo]; exact hS
  have hgo : W p l e rm_c_M_erase s m args below meth c H locs 0 0 Q (F0 m 0 ls []) := by
    clear hH hlo
    refine lv_aload_n hx hb dX12_erase_0 rfl (lv_at hl 0 rfl) ?_
    refine va_get (C := RX12) (T := TX12) (N := 43) (v := .int 0) hx hb hts hi_X12_erase_X12 hown hK hP 0 rfl rfl 6 (by decide) (hts (.fieldLink RX12 114 "BothWaysModel" "length" "I") (by decide +kernel)) (fun _ h => h) rfl dX12_erase_1 ?_
    refine lv_istore_n (lv' := [(1, .int 0), (0, .ref y)]) hx hb dX12_erase_4 rfl hl (by decide) rfl (fun ls hl => ?_)
    refine lv_aload_n hx hb dX12_erase_5 rfl (lv_at hl 1 rfl) ?_
    refine lv_iconst (v := 0) hx hb dX12_erase_6 (by decide) ?_
    refine va_put (C := RX12) (T := TX12) (N := 43) (v := .int 0) (ty := .int) hx hb hts hi_X12_erase_X12 tyX12 tyX12_ok nmX12 hown hK hP hD hS 0 rfl rfl 6 (by decide) (hts (.fieldLink RX12 114 "BothWaysModel" "length" "I") (by decide +kernel)) (fun _ h => h) rfl (by decide +kernel) rfl rfl (Nat.le_of_ble_eq_true rfl) dX12_erase_7 (fun H locs hP hD hS => ?_)
    have hP : va_P g vwCl [(y, .inr (12, [.ref (qq 0), .ref (qq 1), .ref (qq 2), .ref (qq 3), .ref (qq 4), .ref (qq 5), .int 0, .ref (qq 7), .ref (qq 8), .ref (qq 9), .ref (qq 10), .ref (qq 11), .int z12, .ref (qq 13), .int z14, .int z15, .int z16, .int z17, .ref (qq 18), .int z19, .ref (qq 20), .int z21, .int z22, .int z23, .int z24, .ref (qq 25), .int z26, .ref (qq 27), .ref (qq 28), .ref (qq 29), .int z30, .ref (qq 31), .ref (qq 32), .ref (qq 33), .ref (qq 34), .ref (qq 35), .ref (qq 36), .ref (qq 37), .ref (qq 38), .ref (qq 39), .ref (qq 40), .ref (qq 41), .ref (qq 42)]))] H := hP
    have hD : va_D A [(y, .inr (12, [.ref (qq 0), .ref (qq 1), .ref (qq 2), .ref (qq 3), .ref (qq 4), .ref (qq 5), .int 0, .ref (qq 7), .ref (qq 8), .ref (qq 9), .ref (qq 10), .ref (qq 11), .int z12, .ref (qq 13), .int z14, .int z15, .int z16, .int z17, .ref (qq 18), .int z19, .ref (qq 20), .int z21, .int z22, .int z23, .int z24, .ref (qq 25), .int z26, .ref (qq 27), .ref (qq 28), .ref (qq 29), .int z30, .ref (qq 31), .ref (qq 32), .ref (qq 33), .ref (qq 34), .ref (qq 35), .ref (qq 36), .ref (qq 37), .ref (qq 38), .ref (qq 39), .ref (qq 40), .ref (qq 41), .ref (qq 42)]))] := hD
    refine lv_iload_n hx hb dX12_erase_10 rfl (lv_at hl 0 rfl) ?_
    exact rt_i hx hb hr hlocks hQ hP hD hS () [] dX12_erase_11 rfl (Nat.le_of_ble_eq_true rfl) (Nat.le_of_ble_eq_true rfl) rfl (by decide) rfl
  rw [hH, hlo] at hgo
  exact hgo
theorem hi_X12_token_X12 : ∀ w ∈ wsX120, w ∈ wsX12_token := fun _ h => List.mem_cons_of_mem _ (List.mem_append_right _ h)
abbrev rm_c_M_token : Room := { frames := 0, cells := 0, slots := 0, locals := 0 }
set_option maxHeartbeats 4000000 in
set_option maxRecDepth 100000 in
theorem c_M_token (l : Launch) (g : va_G) (cT : Nat → ClassId) (sz : Nat) (y : Nat) (qq : Nat → Nat) (z12 : Int32) (z14 : Int32) (z16 : Int32) (z17 : Int32) (z19 : Int32) (z21 : Int32) (z22 : Int32) (z23 : Int32) (z24 : Int32) (z26 : Int32) (z30 : Int32)  : Ctr l g cT sz yX12_token wsX12_token rm_c_M_token [.ref y] [(y, .inr (12, [.ref (qq 0), .ref (qq 1), .ref (qq 2), .ref (qq 3), .ref (qq 4), .ref (qq 5), .int 0, .ref (qq 7), .ref (qq 8), .ref (qq 9), .ref (qq 10), .ref (qq 11), .int z12, .ref (qq 13), .int z14, .int 0, .int z16, .int z17, .ref (qq 18), .int z19, .ref (qq 20), .int z21, .int z22, .int z23, .int z24, .ref (qq 25), .int z26, .ref (qq 27), .ref (qq 28), .ref (qq 29), .int z30, .ref (qq 31), .ref (qq 32), .ref (qq 33), .ref (qq 34), .ref (qq 35), .ref (qq 36), .ref (qq 37), .ref (qq 38), .ref (qq 39), .ref (qq 40), .ref (qq 41), .ref (qq 42)]))] (QV g (fun (u : Unit) => True) (fun (u : Unit) => [(y, .inr (12, [.ref (qq 0), .ref (qq 1), .ref (qq 2), .ref (qq 3), .ref (qq 4), .ref (qq 5), .int 0, .ref (qq 7), .ref (qq 8), .ref (qq 9), .ref (qq 10), .ref (qq 11), .int z12, .ref (qq 13), .int z14, .int 0, .int 0, .int 0, .ref (qq 18), .int z19, .ref (qq 20), .int z21, .int z22, .int z23, .int z24, .ref (qq 25), .int z26, .ref (qq 27), .ref (qq 28), .ref (qq 29), .int z30, .ref (qq 31), .ref (qq 32), .ref (qq 33), .ref (qq 34), .ref (qq 35), .ref (qq 36), .ref (qq 37), .ref (qq 38), .ref (qq 39), .ref (qq 40), .ref (qq 41), .ref (qq 42)]))])) 0 0 := by
  refine mk_ctr (cc := cX12_token) (maxL := 1) (ret := none) (by decide) rfl (Nat.le_of_ble_eq_true rfl) ?_
  intro p e s m args below meth c A Q hx hb hr hts hown hlocks hin hml hP hK hD hN hZ hA hS hQ ls hl
  have hl : lv_has ls 1 [(0, .ref y)] := hl
  obtain ⟨H, hH⟩ : ∃ H : Heap, H = s.heap := ⟨_, rfl⟩
  obtain ⟨locs, hlo⟩ : ∃ x : List Loc, x = [] := ⟨_, rfl⟩
  rw [← hH] at hP
  have hS : va_S A s.heap H locs := by rw [hH, hlo]; exact hS
  have hgo : W p l e rm_c_M_token s m args below meth c H locs 0 0 Q (F0 m 0 ls []) := by
    clear hH hlo
    refine lv_aload_n hx hb dX12_token_0 rfl (lv_at hl 0 rfl) ?_
    refine va_get (C := RX12) (T := TX12) (N := 43) (v := .int 0) hx hb hts hi_X12_token_X12 hown hK hP 0 rfl rfl 15 (by decide) (hts (.fieldLink RX12 120 "BothWaysModel" "at" "I") (by decide +kernel)) (fun _ h => h) rfl dX12_token_1 ?_
    refine lv_aload_n hx hb dX12_token_4 rfl (lv_at hl 0 rfl) ?_
    refine va_get (C := RX12) (T := TX12) (N := 43) (v := .int 0) hx hb hts hi_X12_token_X12 hown hK hP 0 rfl rfl 6 (by decide) (hts (.fieldLink RX12 114 "BothWaysModel" "length" "I") (by decide +kernel)) (fun _ h => h) rfl dX12_token_5 ?_
    refine icmp_ge_t hx hb 38 dX12_token_8 (by decide) (by decide) ?_
    refine lv_aload_n hx hb dX12_token_38 rfl (lv_at hl 0 rfl) ?_
    refine lv_aload_n hx hb dX12_token_39 rfl (lv_at hl 0 rfl) ?_
    refine va_get (C := RX12) (T := TX12) (N := 43) (v := .int 0) hx hb hts hi_X12_token_X12 hown hK hP 0 rfl rfl 15 (by decide) (hts (.fieldLink RX12 120 "BothWaysModel" "at" "I") (by decide +kernel)) (fun _ h => h) rfl dX12_token_40 ?_
    refine va_put (C := RX12) (T := TX12) (N := 43) (v := .int 0) (ty := .int) hx hb hts hi_X12_token_X12 tyX12 tyX12_ok nmX12 hown hK hP hD hS 0 rfl rfl 16 (by decide) (hts (.fieldLink RX12 123 "BothWaysModel" "place" "I") (by decide +kernel)) (fun _ h => h) rfl (by decide +kernel) rfl rfl (Nat.le_of_ble_eq_true rfl) dX12_token_43 (fun H locs hP hD hS => ?_)
    have hP : va_P g vwCl [(y, .inr (12, [.ref (qq 0), .ref (qq 1), .ref (qq 2), .ref (qq 3), .ref (qq 4), .ref (qq 5), .int 0, .ref (qq 7), .ref (qq 8), .ref (qq 9), .ref (qq 10), .ref (qq 11), .int z12, .ref (qq 13), .int z14, .int 0, .int 0, .int z17, .ref (qq 18), .int z19, .ref (qq 20), .int z21, .int z22, .int z23, .int z24, .ref (qq 25), .int z26, .ref (qq 27), .ref (qq 28), .ref (qq 29), .int z30, .ref (qq 31), .ref (qq 32), .ref (qq 33), .ref (qq 34), .ref (qq 35), .ref (qq 36), .ref (qq 37), .ref (qq 38), .ref (qq 39), .ref (qq 40), .ref (qq 41), .ref (qq 42)]))] H := hP
    have hD : va_D A [(y, .inr (12, [.ref (qq 0), .ref (qq 1), .ref (qq 2), .ref (qq 3), .ref (qq 4), .ref (qq 5), .int 0, .ref (qq 7), .ref (qq 8), .ref (qq 9), .ref (qq 10), .ref (qq 11), .int z12, .ref (qq 13), .int z14, .int 0, .int 0, .int z17, .ref (qq 18), .int z19, .ref (qq 20), .int z21, .int z22, .int z23, .int z24, .ref (qq 25), .int z26, .ref (qq 27), .ref (qq 28), .ref (qq 29), .int z30, .ref (qq 31), .ref (qq 32), .ref (qq 33), .ref (qq 34), .ref (qq 35), .ref (qq 36), .ref (qq 37), .ref (qq 38), .ref (qq 39), .ref (qq 40), .ref (qq 41), .ref (qq 42)]))] := hD
    refine lv_aload_n hx hb dX12_token_46 rfl (lv_at hl 0 rfl) ?_
    refine lv_dup hx hb dX12_token_47 rfl ?_
    refine va_get (C := RX12) (T := TX12) (N := 43) (v := .int 0) hx hb hts hi_X12_token_X12 hown hK hP 0 rfl rfl 15 (by decide) (hts (.fieldLink RX12 120 "BothWaysModel" "at" "I") (by decide +kernel)) (fun _ h => h) rfl dX12_token_48 ?_
    refine lv_aload_n hx hb dX12_token_51 rfl (lv_at hl 0 rfl) ?_
    refine va_get (C := RX12) (T := TX12) (N := 43) (v := .int 0) hx hb hts hi_X12_token_X12 hown hK hP 0 rfl rfl 15 (by decide) (hts (.fieldLink RX12 120 "BothWaysModel" "at" "I") (by decide +kernel)) (fun _ h => h) rfl dX12_token_52 ?_
    refine lv_aload_n hx hb dX12_token_55 rfl (lv_at hl 0 rfl) ?_
    refine va_get (C := RX12) (T := TX12) (N := 43) (v := .int 0) hx hb hts hi_X12_token_X12 hown hK hP 0 rfl rfl 6 (by decide) (hts (.fieldLink RX12 114 "BothWaysModel" "length" "I") (by decide +kernel)) (fun _ h => h) rfl dX12_token_56 ?_
    refine icmp_ge_t hx hb 66 dX12_token_59 (by decide) (by decide) ?_
    refine lv_iconst (v := 0) hx hb dX12_token_66 (by decide) ?_
    refine w_iadd (v := 0) hx hb dX12_token_67 (by decide) ?_
    refine va_put (C := RX12) (T := TX12) (N := 43) (v := .int 0) (ty := .int) hx hb hts hi_X12_token_X12 tyX12 tyX12_ok nmX12 hown hK hP hD hS 0 rfl rfl 15 (by decide) (hts (.fieldLink RX12 120 "BothWaysModel" "at" "I") (by decide +kernel)) (fun _ h => h) rfl (by decide +kernel) rfl rfl (Nat.le_of_ble_eq_true rfl) dX12_token_68 (fun H locs hP hD hS => ?_)
    have hP : va_P g vwCl [(y, .inr (12, [.ref (qq 0), .ref (qq 1), .ref (qq 2), .ref (qq 3), .ref (qq 4), .ref (qq 5), .int 0, .ref (qq 7), .ref (qq 8), .ref (qq 9), .ref (qq 10), .ref (qq 11), .int z12, .ref (qq 13), .int z14, .int 0, .int 0, .int z17, .ref (qq 18), .int z19, .ref (qq 20), .int z21, .int z22, .int z23, .int z24, .ref (qq 25), .int z26, .ref (qq 27), .ref (qq 28), .ref (qq 29), .int z30, .ref (qq 31), .ref (qq 32), .ref (qq 33), .ref (qq 34), .ref (qq 35), .ref (qq 36), .ref (qq 37), .ref (qq 38), .ref (qq 39), .ref (qq 40), .ref (qq 41), .ref (qq 42)]))] H := hP
    have hD : va_D A [(y, .inr (12, [.ref (qq 0), .ref (qq 1), .ref (qq 2), .ref (qq 3), .ref (qq 4), .ref (qq 5), .int 0, .ref (qq 7), .ref (qq 8), .ref (qq 9), .ref (qq 10), .ref (qq 11), .int z12, .ref (qq 13), .int z14, .int 0, .int 0, .int z17, .ref (qq 18), .int z19, .ref (qq 20), .int z21, .int z22, .int z23, .int z24, .ref (qq 25), .int z26, .ref (qq 27), .ref (qq 28), .ref (qq 29), .int z30, .ref (qq 31), .ref (qq 32), .ref (qq 33), .ref (qq 34), .ref (qq 35), .ref (qq 36), .ref (qq 37), .ref (qq 38), .ref (qq 39), .ref (qq 40), .ref (qq 41), .ref (qq 42)]))] := hD
    refine lv_aload_n hx hb dX12_token_71 rfl (lv_at hl 0 rfl) ?_
    refine va_get (C := RX12) (T := TX12) (N := 43) (v := .int 0) hx hb hts hi_X12_token_X12 hown hK hP 0 rfl rfl 15 (by decide) (hts (.fieldLink RX12 120 "BothWaysModel" "at" "I") (by decide +kernel)) (fun _ h => h) rfl dX12_token_72 ?_
    refine lv_aload_n hx hb dX12_token_75 rfl (lv_at hl 0 rfl) ?_
    refine va_get (C := RX12) (T := TX12) (N := 43) (v := .int 0) hx hb hts hi_X12_token_X12 hown hK hP 0 rfl rfl 6 (by decide) (hts (.fieldLink RX12 114 "BothWaysModel" "length" "I") (by decide +kernel)) (fun _ h => h) rfl dX12_token_76 ?_
    refine icmp_ge_t hx hb 137 dX12_token_79 (by decide) (by decide) ?_
    refine lv_aload_n hx hb dX12_token_137 rfl (lv_at hl 0 rfl) ?_
    refine lv_aload_n hx hb dX12_token_138 rfl (lv_at hl 0 rfl) ?_
    refine va_get (C := RX12) (T := TX12) (N := 43) (v := .int 0) hx hb hts hi_X12_token_X12 hown hK hP 0 rfl rfl 15 (by decide) (hts (.fieldLink RX12 120 "BothWaysModel" "at" "I") (by decide +kernel)) (fun _ h => h) rfl dX12_token_139 ?_
    refine va_put (C := RX12) (T := TX12) (N := 43) (v := .int 0) (ty := .int) hx hb hts hi_X12_token_X12 tyX12 tyX12_ok nmX12 hown hK hP hD hS 0 rfl rfl 17 (by decide) (hts (.fieldLink RX12 130 "BothWaysModel" "end" "I") (by decide +kernel)) (fun _ h => h) rfl (by decide +kernel) rfl rfl (Nat.le_of_ble_eq_true rfl) dX12_token_142 (fun H locs hP hD hS => ?_)
    have hP : va_P g vwCl [(y, .inr (12, [.ref (qq 0), .ref (qq 1), .ref (qq 2), .ref (qq 3), .ref (qq 4), .ref (qq 5), .int 0, .ref (qq 7), .ref (qq 8), .ref (qq 9), .ref (qq 10), .ref (qq 11), .int z12, .ref (qq 13), .int z14, .int 0, .int 0, .int 0, .ref (qq 18), .int z19, .ref (qq 20), .int z21, .int z22, .int z23, .int z24, .ref (qq 25), .int z26, .ref (qq 27), .ref (qq 28), .ref (qq 29), .int z30, .ref (qq 31), .ref (qq 32), .ref (qq 33), .ref (qq 34), .ref (qq 35), .ref (qq 36), .ref (qq 37), .ref (qq 38), .ref (qq 39), .ref (qq 40), .ref (qq 41), .ref (qq 42)]))] H := hP
    have hD : va_D A [(y, .inr (12, [.ref (qq 0), .ref (qq 1), .ref (qq 2), .ref (qq 3), .ref (qq 4), .ref (qq 5), .int 0, .ref (qq 7), .ref (qq 8), .ref (qq 9), .ref (qq 10), .ref (qq 11), .int z12, .ref (qq 13), .int z14, .int 0, .int 0, .int 0, .ref (qq 18), .int z19, .ref (qq 20), .int z21, .int z22, .int z23, .int z24, .ref (qq 25), .int z26, .ref (qq 27), .ref (qq 28), .ref (qq 29), .int z30, .ref (qq 31), .ref (qq 32), .ref (qq 33), .ref (qq 34), .ref (qq 35), .ref (qq 36), .ref (qq 37), .ref (qq 38), .ref (qq 39), .ref (qq 40), .ref (qq 41), .ref (qq 42)]))] := hD
    exact rt_v hx hb hr hlocks hQ hP hD hS () [0] dX12_token_145 (Nat.le_of_ble_eq_true rfl) (Nat.le_of_ble_eq_true rfl) rfl (by decide) trivial
  rw [hH, hlo] at hgo
  exact hgo
theorem hi_X12_stateNow_X12 : ∀ w ∈ wsX120, w ∈ wsX12_stateNow := fun _ h => List.mem_cons_of_mem _ (List.mem_append_right _ h)
abbrev rm_c_M_stateNow_0 : Room := { frames := 0, cells := 0, slots := 0, locals := 0 }
set_option maxHeartbeats 4000000 in
set_option maxRecDepth 100000 in
theorem c_M_stateNow_0 (l : Launch) (g : va_G) (cT : Nat → ClassId) (sz : Nat) (y : Nat) (qq : Nat → Nat) (z12 : Int32) (z14 : Int32) (z19 : Int32) (z21 : Int32) (z22 : Int32) (z23 : Int32) (z24 : Int32) (z26 : Int32) (z30 : Int32)  : Ctr l g cT sz yX12_stateNow wsX12_stateNow rm_c_M_stateNow_0 [.ref y, .int 0] [(y, .inr (12, [.ref (qq 0), .ref (qq 1), .ref (qq 2), .ref (qq 3), .ref (qq 4), .ref (qq 5), .int 0, .ref (qq 7), .ref (qq 8), .ref (qq 9), .ref (qq 10), .ref (qq 11), .int z12, .ref (qq 13), .int z14, .int 0, .int 0, .int 0, .ref (qq 18), .int z19, .ref (qq 20), .int z21, .int z22, .int z23, .int z24, .ref (qq 25), .int z26, .ref (qq 27), .ref (qq 28), .ref (qq 29), .int z30, .ref (qq 31), .ref (qq 32), .ref (qq 33), .ref (qq 34), .ref (qq 35), .ref (qq 36), .ref (qq 37), .ref (qq 38), .ref (qq 39), .ref (qq 40), .ref (qq 41), .ref (qq 42)]))] (QI g (fun (r : Int32) (u : Unit) => r = (-1)) (fun (u : Unit) => [(y, .inr (12, [.ref (qq 0), .ref (qq 1), .ref (qq 2), .ref (qq 3), .ref (qq 4), .ref (qq 5), .int 0, .ref (qq 7), .ref (qq 8), .ref (qq 9), .ref (qq 10), .ref (qq 11), .int z12, .ref (qq 13), .int z14, .int 0, .int 0, .int 0, .ref (qq 18), .int z19, .ref (qq 20), .int z21, .int z22, .int z23, .int z24, .ref (qq 25), .int z26, .ref (qq 27), .ref (qq 28), .ref (qq 29), .int z30, .ref (qq 31), .ref (qq 32), .ref (qq 33), .ref (qq 34), .ref (qq 35), .ref (qq 36), .ref (qq 37), .ref (qq 38), .ref (qq 39), .ref (qq 40), .ref (qq 41), .ref (qq 42)]))])) 0 0 := by
  refine mk_ctr (cc := cX12_stateNow) (maxL := 4) (ret := (some .int)) (by decide) rfl (Nat.le_of_ble_eq_true rfl) ?_
  intro p e s m args below meth c A Q hx hb hr hts hown hlocks hin hml hP hK hD hN hZ hA hS hQ ls hl
  have hl : lv_has ls 4 [(0, .ref y), (1, .int 0)] := hl
  obtain ⟨H, hH⟩ : ∃ H : Heap, H = s.heap := ⟨_, rfl⟩
  obtain ⟨locs, hlo⟩ : ∃ x : List Loc, x = [] := ⟨_, rfl⟩
  rw [← hH] at hP
  have hS : va_S A s.heap H locs := by rw [hH, hlo]; exact hS
  have hgo : W p l e rm_c_M_stateNow_0 s m args below meth c H locs 0 0 Q (F0 m 0 ls []) := by
    clear hH hlo
    refine lv_aload_n hx hb dX12_stateNow_0 rfl (lv_at hl 0 rfl) ?_
    refine va_get (C := RX12) (T := TX12) (N := 43) (v := .int 0) hx hb hts hi_X12_stateNow_X12 hown hK hP 0 rfl rfl 16 (by decide) (hts (.fieldLink RX12 123 "BothWaysModel" "place" "I") (by decide +kernel)) (fun _ h => h) rfl dX12_stateNow_1 ?_
    refine lv_aload_n hx hb dX12_stateNow_4 rfl (lv_at hl 0 rfl) ?_
    refine va_get (C := RX12) (T := TX12) (N := 43) (v := .int 0) hx hb hts hi_X12_stateNow_X12 hown hK hP 0 rfl rfl 6 (by decide) (hts (.fieldLink RX12 114 "BothWaysModel" "length" "I") (by decide +kernel)) (fun _ h => h) rfl dX12_stateNow_5 ?_
    refine icmp_ge_t hx hb 63 dX12_stateNow_8 (by decide) (by decide) ?_
    refine lv_iconst (v := 0) hx hb dX12_stateNow_63 (by decide) ?_
    refine lv_istore_n (lv' := [(2, .int 0), (0, .ref y), (1, .int 0)]) hx hb dX12_stateNow_64 rfl hl (by decide) rfl (fun ls hl => ?_)
    refine lv_iload_n hx hb dX12_stateNow_65 rfl (lv_at hl 0 rfl) ?_
    refine if_eq_t hx hb 84 dX12_stateNow_66 (by decide) (by decide) ?_
    refine lv_iconst (v := (-1)) hx hb dX12_stateNow_84 (by decide) ?_
    refine lv_istore_n (lv' := [(3, .int (-1)), (2, .int 0), (0, .ref y), (1, .int 0)]) hx hb dX12_stateNow_85 rfl hl (by decide) rfl (fun ls hl => ?_)
    refine lv_iload_n hx hb dX12_stateNow_86 rfl (lv_at hl 1 rfl) ?_
    refine if_eq_t hx hb 94 dX12_stateNow_87 (by decide) (by decide) ?_
    refine lv_iload_n hx hb dX12_stateNow_94 rfl (lv_at hl 0 rfl) ?_
    exact rt_i hx hb hr hlocks hQ hP hD hS () [0] dX12_stateNow_95 rfl (Nat.le_of_ble_eq_true rfl) (Nat.le_of_ble_eq_true rfl) rfl (by decide) rfl
  rw [hH, hlo] at hgo
  exact hgo
theorem hi_X12_readsMove_X12 : ∀ w ∈ wsX120, w ∈ wsX12_readsMove := fun _ h => List.mem_cons_of_mem _ (List.mem_append_right _ h)
theorem yd_X12_stateNow : yX12_stateNow.cls = RX12 ∧ yX12_stateNow.cls ≠ "java/lang/invoke/MethodHandle" ∧ yX12_stateNow.cls ≠ "java/lang/invoke/VarHandle" ∧ (parseMethodDescriptor yX12_stateNow.desc).map (fun d => d.parameters.length) = some 1 := by decide +kernel
abbrev rm_c_M_readsMove_0 : Room := { frames := 1, cells := 0, slots := 0, locals := 23 }
set_option maxHeartbeats 4000000 in
set_option maxRecDepth 100000 in
theorem c_M_readsMove_0 (l : Launch) (g : va_G) (cT : Nat → ClassId) (sz : Nat) (y : Nat) (qq : Nat → Nat) (z14 : Int32) (z19 : Int32) (z21 : Int32) (z22 : Int32) (z23 : Int32) (z24 : Int32) (z26 : Int32) (z30 : Int32)  : Ctr l g cT sz yX12_readsMove wsX12_readsMove rm_c_M_readsMove_0 [.ref y, .int 0] [(y, .inr (12, [.ref (qq 0), .ref (qq 1), .ref (qq 2), .ref (qq 3), .ref (qq 4), .ref (qq 5), .int 0, .ref (qq 7), .ref (qq 8), .ref (qq 9), .ref (qq 10), .ref (qq 11), .int 0, .ref (qq 13), .int z14, .int 0, .int 0, .int 0, .ref (qq 18), .int z19, .ref (qq 20), .int z21, .int z22, .int z23, .int z24, .ref (qq 25), .int z26, .ref (qq 27), .ref (qq 28), .ref (qq 29), .int z30, .ref (qq 31), .ref (qq 32), .ref (qq 33), .ref (qq 34), .ref (qq 35), .ref (qq 36), .ref (qq 37), .ref (qq 38), .ref (qq 39), .ref (qq 40), .ref (qq 41), .ref (qq 42)])), ((qq 7), .inl (cT 0, 40, .inl (fun _ => 0)))] (QI g (fun (r : Int32) (u : Unit) => r = 0) (fun (u : Unit) => [(y, .inr (12, [.ref (qq 0), .ref (qq 1), .ref (qq 2), .ref (qq 3), .ref (qq 4), .ref (qq 5), .int 0, .ref (qq 7), .ref (qq 8), .ref (qq 9), .ref (qq 10), .ref (qq 11), .int 0, .ref (qq 13), .int z14, .int 0, .int 0, .int 0, .ref (qq 18), .int z19, .ref (qq 20), .int z21, .int z22, .int z23, .int z24, .ref (qq 25), .int z26, .ref (qq 27), .ref (qq 28), .ref (qq 29), .int z30, .ref (qq 31), .ref (qq 32), .ref (qq 33), .ref (qq 34), .ref (qq 35), .ref (qq 36), .ref (qq 37), .ref (qq 38), .ref (qq 39), .ref (qq 40), .ref (qq 41), .ref (qq 42)]))])) 0 0 := by
  refine mk_ctr (cc := cX12_readsMove) (maxL := 3) (ret := (some .boolean)) (by decide) rfl (Nat.le_of_ble_eq_true rfl) ?_
  intro p e s m args below meth c A Q hx hb hr hts hown hlocks hin hml hP hK hD hN hZ hA hS hQ ls hl
  have hl : lv_has ls 3 [(0, .ref y), (1, .int 0)] := hl
  obtain ⟨H, hH⟩ : ∃ H : Heap, H = s.heap := ⟨_, rfl⟩
  obtain ⟨locs, hlo⟩ : ∃ x : List Loc, x = [] := ⟨_, rfl⟩
  rw [← hH] at hP
  have hS : va_S A s.heap H locs := by rw [hH, hlo]; exact hS
  have hgo : W p l e rm_c_M_readsMove_0 s m args below meth c H locs 0 0 Q (F0 m 0 ls []) := by
    clear hH hlo
    refine lv_aload_n hx hb dX12_readsMove_0 rfl (lv_at hl 0 rfl) ?_
    refine va_get (C := RX12) (T := TX12) (N := 43) (v := .int 0) hx hb hts hi_X12_readsMove_X12 hown hK hP 0 rfl rfl 12 (by decide) (hts (.fieldLink RX12 140 "BothWaysModel" "readMany" "I") (by decide +kernel)) (fun _ h => h) rfl dX12_readsMove_1 ?_
    refine lv_istore_n (lv' := [(2, .int 0), (0, .ref y), (1, .int 0)]) hx hb dX12_readsMove_4 rfl hl (by decide) rfl (fun ls hl => ?_)
    refine lv_aload_n hx hb dX12_readsMove_5 rfl (lv_at hl 1 rfl) ?_
    refine va_get (C := RX12) (T := TX12) (N := 43) (v := .ref (qq 7)) hx hb hts hi_X12_readsMove_X12 hown hK hP 0 rfl rfl 7 (by decide) (hts (.fieldLink RX12 28 "BothWaysModel" "rState" "[I") (by decide +kernel)) (fun _ h => h) rfl dX12_readsMove_6 ?_
    refine lv_iload_n hx hb dX12_readsMove_9 rfl (lv_at hl 0 rfl) ?_
    refine lv_aload_n hx hb dX12_readsMove_10 rfl (lv_at hl 1 rfl) ?_
    refine lv_iload_n hx hb dX12_readsMove_11 rfl (lv_at hl 2 rfl) ?_
    refine cj_i 0 0 (wr := [((qq 7), .inl (cT 0, 40, .inl (fun _ => 0)))]) (va_runV (As := [.int 0]) (rest := [.int 0, .ref (qq 7)]) ⟨hx, hb, hml, hown, hts⟩ (c_M_stateNow_0 l g cT H.size y qq 0 z14 z19 z21 z22 z23 z24 z26 z30) (cwV 1 hts gX12_readsMove_X12_stateNow rfl rfl rfl yd_X12_stateNow ⟨(Nat.le_of_ble_eq_true rfl), (Nat.le_of_ble_eq_true rfl)⟩) (preV (wc := [(y, .inr (12, [.ref (qq 0), .ref (qq 1), .ref (qq 2), .ref (qq 3), .ref (qq 4), .ref (qq 5), .int 0, .ref (qq 7), .ref (qq 8), .ref (qq 9), .ref (qq 10), .ref (qq 11), .int 0, .ref (qq 13), .int z14, .int 0, .int 0, .int 0, .ref (qq 18), .int z19, .ref (qq 20), .int z21, .int z22, .int z23, .int z24, .ref (qq 25), .int z26, .ref (qq 27), .ref (qq 28), .ref (qq 29), .int z30, .ref (qq 31), .ref (qq 32), .ref (qq 33), .ref (qq 34), .ref (qq 35), .ref (qq 36), .ref (qq 37), .ref (qq 38), .ref (qq 39), .ref (qq 40), .ref (qq 41), .ref (qq 42)]))]) rfl hP hD hK hN hZ hS hA [0] rfl (by decide) (ci := 12) (q0 := 0) rfl rfl) rfl rfl hl.1 rfl (lv_room (Nat.le_of_ble_eq_true rfl)) dX12_readsMove_12 ⟨(Nat.le_of_ble_eq_true rfl), (Nat.le_of_ble_eq_true rfl)⟩) hP hD hS hA [0] [1] rfl rfl (by decide) (by decide) (Nat.le_of_ble_eq_true rfl) (Nat.le_of_ble_eq_true rfl) (fun r_1 u H locs h_2 hP hD hS => ?_)
    have hP : va_P g vwCl [((qq 7), .inl (cT 0, 40, .inl (fun _ => 0))), (y, .inr (12, [.ref (qq 0), .ref (qq 1), .ref (qq 2), .ref (qq 3), .ref (qq 4), .ref (qq 5), .int 0, .ref (qq 7), .ref (qq 8), .ref (qq 9), .ref (qq 10), .ref (qq 11), .int 0, .ref (qq 13), .int z14, .int 0, .int 0, .int 0, .ref (qq 18), .int z19, .ref (qq 20), .int z21, .int z22, .int z23, .int z24, .ref (qq 25), .int z26, .ref (qq 27), .ref (qq 28), .ref (qq 29), .int z30, .ref (qq 31), .ref (qq 32), .ref (qq 33), .ref (qq 34), .ref (qq 35), .ref (qq 36), .ref (qq 37), .ref (qq 38), .ref (qq 39), .ref (qq 40), .ref (qq 41), .ref (qq 42)]))] H := hP
    have hD : va_D A [((qq 7), .inl (cT 0, 40, .inl (fun _ => 0))), (y, .inr (12, [.ref (qq 0), .ref (qq 1), .ref (qq 2), .ref (qq 3), .ref (qq 4), .ref (qq 5), .int 0, .ref (qq 7), .ref (qq 8), .ref (qq 9), .ref (qq 10), .ref (qq 11), .int 0, .ref (qq 13), .int z14, .int 0, .int 0, .int 0, .ref (qq 18), .int z19, .ref (qq 20), .int z21, .int z22, .int z23, .int z24, .ref (qq 25), .int z26, .ref (qq 27), .ref (qq 28), .ref (qq 29), .int z30, .ref (qq 31), .ref (qq 32), .ref (qq 33), .ref (qq 34), .ref (qq 35), .ref (qq 36), .ref (qq 37), .ref (qq 38), .ref (qq 39), .ref (qq 40), .ref (qq 41), .ref (qq 42)]))] := hD
    subst h_2
    refine w_iast (f' := (upd (fun _ => 0) 0 (-1))) hx hb hK hP hD hS 0 rfl dX12_readsMove_15 (inC (by decide)) rfl (fun H locs hP hD hS => ?_)
    have hP : va_P g vwCl [((qq 7), .inl (cT 0, 40, .inl (upd (fun _ => 0) 0 (-1)))), (y, .inr (12, [.ref (qq 0), .ref (qq 1), .ref (qq 2), .ref (qq 3), .ref (qq 4), .ref (qq 5), .int 0, .ref (qq 7), .ref (qq 8), .ref (qq 9), .ref (qq 10), .ref (qq 11), .int 0, .ref (qq 13), .int z14, .int 0, .int 0, .int 0, .ref (qq 18), .int z19, .ref (qq 20), .int z21, .int z22, .int z23, .int z24, .ref (qq 25), .int z26, .ref (qq 27), .ref (qq 28), .ref (qq 29), .int z30, .ref (qq 31), .ref (qq 32), .ref (qq 33), .ref (qq 34), .ref (qq 35), .ref (qq 36), .ref (qq 37), .ref (qq 38), .ref (qq 39), .ref (qq 40), .ref (qq 41), .ref (qq 42)]))] H := hP
    have hD : va_D A [((qq 7), .inl (cT 0, 40, .inl (upd (fun _ => 0) 0 (-1)))), (y, .inr (12, [.ref (qq 0), .ref (qq 1), .ref (qq 2), .ref (qq 3), .ref (qq 4), .ref (qq 5), .int 0, .ref (qq 7), .ref (qq 8), .ref (qq 9), .ref (qq 10), .ref (qq 11), .int 0, .ref (qq 13), .int z14, .int 0, .int 0, .int 0, .ref (qq 18), .int z19, .ref (qq 20), .int z21, .int z22, .int z23, .int z24, .ref (qq 25), .int z26, .ref (qq 27), .ref (qq 28), .ref (qq 29), .int z30, .ref (qq 31), .ref (qq 32), .ref (qq 33), .ref (qq 34), .ref (qq 35), .ref (qq 36), .ref (qq 37), .ref (qq 38), .ref (qq 39), .ref (qq 40), .ref (qq 41), .ref (qq 42)]))] := hD
    refine lv_aload_n hx hb dX12_readsMove_16 rfl (lv_at hl 1 rfl) ?_
    refine va_get (C := RX12) (T := TX12) (N := 43) (v := .ref (qq 7)) hx hb hts hi_X12_readsMove_X12 hown hK hP 1 rfl rfl 7 (by decide) (hts (.fieldLink RX12 28 "BothWaysModel" "rState" "[I") (by decide +kernel)) (fun _ h => h) rfl dX12_readsMove_17 ?_
    refine lv_iload_n hx hb dX12_readsMove_20 rfl (lv_at hl 0 rfl) ?_
    refine w_iald (v := (-1)) hx hb hK hP 0 rfl dX12_readsMove_21 (inC (by decide)) (by decide) ?_
    refine lv_iconst (v := (-1)) hx hb dX12_readsMove_22 (by decide) ?_
    refine icmp_ne_f hx hb dX12_readsMove_23 28 (by decide) (by decide) ?_
    refine lv_iconst (v := 0) hx hb dX12_readsMove_26 (by decide) ?_
    exact rt_i hx hb hr hlocks hQ hP hD hS () [1] dX12_readsMove_27 rfl (Nat.le_of_ble_eq_true rfl) (Nat.le_of_ble_eq_true rfl) rfl (by decide) rfl
  rw [hH, hlo] at hgo
  exact hgo
abbrev rm_c_M_stateNow_1 : Room := { frames := 0, cells := 0, slots := 0, locals := 0 }
set_option maxHeartbeats 4000000 in
set_option maxRecDepth 100000 in
theorem c_M_stateNow_1 (l : Launch) (g : va_G) (cT : Nat → ClassId) (sz : Nat) (y : Nat) (qq : Nat → Nat) (z12 : Int32) (z14 : Int32) (z19 : Int32) (z21 : Int32) (z22 : Int32) (z23 : Int32) (z24 : Int32) (z26 : Int32) (z30 : Int32)  : Ctr l g cT sz yX12_stateNow wsX12_stateNow rm_c_M_stateNow_1 [.ref y, .int 1] [(y, .inr (12, [.ref (qq 0), .ref (qq 1), .ref (qq 2), .ref (qq 3), .ref (qq 4), .ref (qq 5), .int 0, .ref (qq 7), .ref (qq 8), .ref (qq 9), .ref (qq 10), .ref (qq 11), .int z12, .ref (qq 13), .int z14, .int 0, .int 0, .int 0, .ref (qq 18), .int z19, .ref (qq 20), .int z21, .int z22, .int z23, .int z24, .ref (qq 25), .int z26, .ref (qq 27), .ref (qq 28), .ref (qq 29), .int z30, .ref (qq 31), .ref (qq 32), .ref (qq 33), .ref (qq 34), .ref (qq 35), .ref (qq 36), .ref (qq 37), .ref (qq 38), .ref (qq 39), .ref (qq 40), .ref (qq 41), .ref (qq 42)]))] (QI g (fun (r : Int32) (u : Unit) => r = (-1)) (fun (u : Unit) => [(y, .inr (12, [.ref (qq 0), .ref (qq 1), .ref (qq 2), .ref (qq 3), .ref (qq 4), .ref (qq 5), .int 0, .ref (qq 7), .ref (qq 8), .ref (qq 9), .ref (qq 10), .ref (qq 11), .int z12, .ref (qq 13), .int z14, .int 0, .int 0, .int 0, .ref (qq 18), .int z19, .ref (qq 20), .int z21, .int z22, .int z23, .int z24, .ref (qq 25), .int z26, .ref (qq 27), .ref (qq 28), .ref (qq 29), .int z30, .ref (qq 31), .ref (qq 32), .ref (qq 33), .ref (qq 34), .ref (qq 35), .ref (qq 36), .ref (qq 37), .ref (qq 38), .ref (qq 39), .ref (qq 40), .ref (qq 41), .ref (qq 42)]))])) 0 0 := by
  refine mk_ctr (cc := cX12_stateNow) (maxL := 4) (ret := (some .int)) (by decide) rfl (Nat.le_of_ble_eq_true rfl) ?_
  intro p e s m args below meth c A Q hx hb hr hts hown hlocks hin hml hP hK hD hN hZ hA hS hQ ls hl
  have hl : lv_has ls 4 [(0, .ref y), (1, .int 1)] := hl
  obtain ⟨H, hH⟩ : ∃ H : Heap, H = s.heap := ⟨_, rfl⟩
  obtain ⟨locs, hlo⟩ : ∃ x : List Loc, x = [] := ⟨_, rfl⟩
  rw [← hH] at hP
  have hS : va_S A s.heap H locs := by rw [hH, hlo]; exact hS
  have hgo : W p l e rm_c_M_stateNow_1 s m args below meth c H locs 0 0 Q (F0 m 0 ls []) := by
    clear hH hlo
    refine lv_aload_n hx hb dX12_stateNow_0 rfl (lv_at hl 0 rfl) ?_
    refine va_get (C := RX12) (T := TX12) (N := 43) (v := .int 0) hx hb hts hi_X12_stateNow_X12 hown hK hP 0 rfl rfl 16 (by decide) (hts (.fieldLink RX12 123 "BothWaysModel" "place" "I") (by decide +kernel)) (fun _ h => h) rfl dX12_stateNow_1 ?_
    refine lv_aload_n hx hb dX12_stateNow_4 rfl (lv_at hl 0 rfl) ?_
    refine va_get (C := RX12) (T := TX12) (N := 43) (v := .int 0) hx hb hts hi_X12_stateNow_X12 hown hK hP 0 rfl rfl 6 (by decide) (hts (.fieldLink RX12 114 "BothWaysModel" "length" "I") (by decide +kernel)) (fun _ h => h) rfl dX12_stateNow_5 ?_
    refine icmp_ge_t hx hb 63 dX12_stateNow_8 (by decide) (by decide) ?_
    refine lv_iconst (v := 0) hx hb dX12_stateNow_63 (by decide) ?_
    refine lv_istore_n (lv' := [(2, .int 0), (0, .ref y), (1, .int 1)]) hx hb dX12_stateNow_64 rfl hl (by decide) rfl (fun ls hl => ?_)
    refine lv_iload_n hx hb dX12_stateNow_65 rfl (lv_at hl 0 rfl) ?_
    refine if_eq_t hx hb 84 dX12_stateNow_66 (by decide) (by decide) ?_
    refine lv_iconst (v := (-1)) hx hb dX12_stateNow_84 (by decide) ?_
    refine lv_istore_n (lv' := [(3, .int (-1)), (2, .int 0), (0, .ref y), (1, .int 1)]) hx hb dX12_stateNow_85 rfl hl (by decide) rfl (fun ls hl => ?_)
    refine lv_iload_n hx hb dX12_stateNow_86 rfl (lv_at hl 1 rfl) ?_
    refine if_eq_t hx hb 94 dX12_stateNow_87 (by decide) (by decide) ?_
    refine lv_iload_n hx hb dX12_stateNow_94 rfl (lv_at hl 0 rfl) ?_
    exact rt_i hx hb hr hlocks hQ hP hD hS () [0] dX12_stateNow_95 rfl (Nat.le_of_ble_eq_true rfl) (Nat.le_of_ble_eq_true rfl) rfl (by decide) rfl
  rw [hH, hlo] at hgo
  exact hgo
abbrev rm_c_M_readsMove_1 : Room := { frames := 1, cells := 0, slots := 0, locals := 23 }
set_option maxHeartbeats 4000000 in
set_option maxRecDepth 100000 in
theorem c_M_readsMove_1 (l : Launch) (g : va_G) (cT : Nat → ClassId) (sz : Nat) (y : Nat) (qq : Nat → Nat) (z14 : Int32) (z19 : Int32) (z21 : Int32) (z22 : Int32) (z23 : Int32) (z24 : Int32) (z26 : Int32) (z30 : Int32)  : Ctr l g cT sz yX12_readsMove wsX12_readsMove rm_c_M_readsMove_1 [.ref y, .int 1] [(y, .inr (12, [.ref (qq 0), .ref (qq 1), .ref (qq 2), .ref (qq 3), .ref (qq 4), .ref (qq 5), .int 0, .ref (qq 7), .ref (qq 8), .ref (qq 9), .ref (qq 10), .ref (qq 11), .int 0, .ref (qq 13), .int z14, .int 0, .int 0, .int 0, .ref (qq 18), .int z19, .ref (qq 20), .int z21, .int z22, .int z23, .int z24, .ref (qq 25), .int z26, .ref (qq 27), .ref (qq 28), .ref (qq 29), .int z30, .ref (qq 31), .ref (qq 32), .ref (qq 33), .ref (qq 34), .ref (qq 35), .ref (qq 36), .ref (qq 37), .ref (qq 38), .ref (qq 39), .ref (qq 40), .ref (qq 41), .ref (qq 42)])), ((qq 7), .inl (cT 0, 40, .inl (fun _ => 0)))] (QI g (fun (r : Int32) (u : Unit) => r = 0) (fun (u : Unit) => [(y, .inr (12, [.ref (qq 0), .ref (qq 1), .ref (qq 2), .ref (qq 3), .ref (qq 4), .ref (qq 5), .int 0, .ref (qq 7), .ref (qq 8), .ref (qq 9), .ref (qq 10), .ref (qq 11), .int 0, .ref (qq 13), .int z14, .int 0, .int 0, .int 0, .ref (qq 18), .int z19, .ref (qq 20), .int z21, .int z22, .int z23, .int z24, .ref (qq 25), .int z26, .ref (qq 27), .ref (qq 28), .ref (qq 29), .int z30, .ref (qq 31), .ref (qq 32), .ref (qq 33), .ref (qq 34), .ref (qq 35), .ref (qq 36), .ref (qq 37), .ref (qq 38), .ref (qq 39), .ref (qq 40), .ref (qq 41), .ref (qq 42)]))])) 0 0 := by
  refine mk_ctr (cc := cX12_readsMove) (maxL := 3) (ret := (some .boolean)) (by decide) rfl (Nat.le_of_ble_eq_true rfl) ?_
  intro p e s m args below meth c A Q hx hb hr hts hown hlocks hin hml hP hK hD hN hZ hA hS hQ ls hl
  have hl : lv_has ls 3 [(0, .ref y), (1, .int 1)] := hl
  obtain ⟨H, hH⟩ : ∃ H : Heap, H = s.heap := ⟨_, rfl⟩
  obtain ⟨locs, hlo⟩ : ∃ x : List Loc, x = [] := ⟨_, rfl⟩
  rw [← hH] at hP
  have hS : va_S A s.heap H locs := by rw [hH, hlo]; exact hS
  have hgo : W p l e rm_c_M_readsMove_1 s m args below meth c H locs 0 0 Q (F0 m 0 ls []) := by
    clear hH hlo
    refine lv_aload_n hx hb dX12_readsMove_0 rfl (lv_at hl 0 rfl) ?_
    refine va_get (C := RX12) (T := TX12) (N := 43) (v := .int 0) hx hb hts hi_X12_readsMove_X12 hown hK hP 0 rfl rfl 12 (by decide) (hts (.fieldLink RX12 140 "BothWaysModel" "readMany" "I") (by decide +kernel)) (fun _ h => h) rfl dX12_readsMove_1 ?_
    refine lv_istore_n (lv' := [(2, .int 0), (0, .ref y), (1, .int 1)]) hx hb dX12_readsMove_4 rfl hl (by decide) rfl (fun ls hl => ?_)
    refine lv_aload_n hx hb dX12_readsMove_5 rfl (lv_at hl 1 rfl) ?_
    refine va_get (C := RX12) (T := TX12) (N := 43) (v := .ref (qq 7)) hx hb hts hi_X12_readsMove_X12 hown hK hP 0 rfl rfl 7 (by decide) (hts (.fieldLink RX12 28 "BothWaysModel" "rState" "[I") (by decide +kernel)) (fun _ h => h) rfl dX12_readsMove_6 ?_
    refine lv_iload_n hx hb dX12_readsMove_9 rfl (lv_at hl 0 rfl) ?_
    refine lv_aload_n hx hb dX12_readsMove_10 rfl (lv_at hl 1 rfl) ?_
    refine lv_iload_n hx hb dX12_readsMove_11 rfl (lv_at hl 2 rfl) ?_
    refine cj_i 0 0 (wr := [((qq 7), .inl (cT 0, 40, .inl (fun _ => 0)))]) (va_runV (As := [.int 1]) (rest := [.int 0, .ref (qq 7)]) ⟨hx, hb, hml, hown, hts⟩ (c_M_stateNow_1 l g cT H.size y qq 0 z14 z19 z21 z22 z23 z24 z26 z30) (cwV 1 hts gX12_readsMove_X12_stateNow rfl rfl rfl yd_X12_stateNow ⟨(Nat.le_of_ble_eq_true rfl), (Nat.le_of_ble_eq_true rfl)⟩) (preV (wc := [(y, .inr (12, [.ref (qq 0), .ref (qq 1), .ref (qq 2), .ref (qq 3), .ref (qq 4), .ref (qq 5), .int 0, .ref (qq 7), .ref (qq 8), .ref (qq 9), .ref (qq 10), .ref (qq 11), .int 0, .ref (qq 13), .int z14, .int 0, .int 0, .int 0, .ref (qq 18), .int z19, .ref (qq 20), .int z21, .int z22, .int z23, .int z24, .ref (qq 25), .int z26, .ref (qq 27), .ref (qq 28), .ref (qq 29), .int z30, .ref (qq 31), .ref (qq 32), .ref (qq 33), .ref (qq 34), .ref (qq 35), .ref (qq 36), .ref (qq 37), .ref (qq 38), .ref (qq 39), .ref (qq 40), .ref (qq 41), .ref (qq 42)]))]) rfl hP hD hK hN hZ hS hA [0] rfl (by decide) (ci := 12) (q0 := 0) rfl rfl) rfl rfl hl.1 rfl (lv_room (Nat.le_of_ble_eq_true rfl)) dX12_readsMove_12 ⟨(Nat.le_of_ble_eq_true rfl), (Nat.le_of_ble_eq_true rfl)⟩) hP hD hS hA [0] [1] rfl rfl (by decide) (by decide) (Nat.le_of_ble_eq_true rfl) (Nat.le_of_ble_eq_true rfl) (fun r_1 u H locs h_2 hP hD hS => ?_)
    have hP : va_P g vwCl [((qq 7), .inl (cT 0, 40, .inl (fun _ => 0))), (y, .inr (12, [.ref (qq 0), .ref (qq 1), .ref (qq 2), .ref (qq 3), .ref (qq 4), .ref (qq 5), .int 0, .ref (qq 7), .ref (qq 8), .ref (qq 9), .ref (qq 10), .ref (qq 11), .int 0, .ref (qq 13), .int z14, .int 0, .int 0, .int 0, .ref (qq 18), .int z19, .ref (qq 20), .int z21, .int z22, .int z23, .int z24, .ref (qq 25), .int z26, .ref (qq 27), .ref (qq 28), .ref (qq 29), .int z30, .ref (qq 31), .ref (qq 32), .ref (qq 33), .ref (qq 34), .ref (qq 35), .ref (qq 36), .ref (qq 37), .ref (qq 38), .ref (qq 39), .ref (qq 40), .ref (qq 41), .ref (qq 42)]))] H := hP
    have hD : va_D A [((qq 7), .inl (cT 0, 40, .inl (fun _ => 0))), (y, .inr (12, [.ref (qq 0), .ref (qq 1), .ref (qq 2), .ref (qq 3), .ref (qq 4), .ref (qq 5), .int 0, .ref (qq 7), .ref (qq 8), .ref (qq 9), .ref (qq 10), .ref (qq 11), .int 0, .ref (qq 13), .int z14, .int 0, .int 0, .int 0, .ref (qq 18), .int z19, .ref (qq 20), .int z21, .int z22, .int z23, .int z24, .ref (qq 25), .int z26, .ref (qq 27), .ref (qq 28), .ref (qq 29), .int z30, .ref (qq 31), .ref (qq 32), .ref (qq 33), .ref (qq 34), .ref (qq 35), .ref (qq 36), .ref (qq 37), .ref (qq 38), .ref (qq 39), .ref (qq 40), .ref (qq 41), .ref (qq 42)]))] := hD
    subst h_2
    refine w_iast (f' := (upd (fun _ => 0) 0 (-1))) hx hb hK hP hD hS 0 rfl dX12_readsMove_15 (inC (by decide)) rfl (fun H locs hP hD hS => ?_)
    have hP : va_P g vwCl [((qq 7), .inl (cT 0, 40, .inl (upd (fun _ => 0) 0 (-1)))), (y, .inr (12, [.ref (qq 0), .ref (qq 1), .ref (qq 2), .ref (qq 3), .ref (qq 4), .ref (qq 5), .int 0, .ref (qq 7), .ref (qq 8), .ref (qq 9), .ref (qq 10), .ref (qq 11), .int 0, .ref (qq 13), .int z14, .int 0, .int 0, .int 0, .ref (qq 18), .int z19, .ref (qq 20), .int z21, .int z22, .int z23, .int z24, .ref (qq 25), .int z26, .ref (qq 27), .ref (qq 28), .ref (qq 29), .int z30, .ref (qq 31), .ref (qq 32), .ref (qq 33), .ref (qq 34), .ref (qq 35), .ref (qq 36), .ref (qq 37), .ref (qq 38), .ref (qq 39), .ref (qq 40), .ref (qq 41), .ref (qq 42)]))] H := hP
    have hD : va_D A [((qq 7), .inl (cT 0, 40, .inl (upd (fun _ => 0) 0 (-1)))), (y, .inr (12, [.ref (qq 0), .ref (qq 1), .ref (qq 2), .ref (qq 3), .ref (qq 4), .ref (qq 5), .int 0, .ref (qq 7), .ref (qq 8), .ref (qq 9), .ref (qq 10), .ref (qq 11), .int 0, .ref (qq 13), .int z14, .int 0, .int 0, .int 0, .ref (qq 18), .int z19, .ref (qq 20), .int z21, .int z22, .int z23, .int z24, .ref (qq 25), .int z26, .ref (qq 27), .ref (qq 28), .ref (qq 29), .int z30, .ref (qq 31), .ref (qq 32), .ref (qq 33), .ref (qq 34), .ref (qq 35), .ref (qq 36), .ref (qq 37), .ref (qq 38), .ref (qq 39), .ref (qq 40), .ref (qq 41), .ref (qq 42)]))] := hD
    refine lv_aload_n hx hb dX12_readsMove_16 rfl (lv_at hl 1 rfl) ?_
    refine va_get (C := RX12) (T := TX12) (N := 43) (v := .ref (qq 7)) hx hb hts hi_X12_readsMove_X12 hown hK hP 1 rfl rfl 7 (by decide) (hts (.fieldLink RX12 28 "BothWaysModel" "rState" "[I") (by decide +kernel)) (fun _ h => h) rfl dX12_readsMove_17 ?_
    refine lv_iload_n hx hb dX12_readsMove_20 rfl (lv_at hl 0 rfl) ?_
    refine w_iald (v := (-1)) hx hb hK hP 0 rfl dX12_readsMove_21 (inC (by decide)) (by decide) ?_
    refine lv_iconst (v := (-1)) hx hb dX12_readsMove_22 (by decide) ?_
    refine icmp_ne_f hx hb dX12_readsMove_23 28 (by decide) (by decide) ?_
    refine lv_iconst (v := 0) hx hb dX12_readsMove_26 (by decide) ?_
    exact rt_i hx hb hr hlocks hQ hP hD hS () [1] dX12_readsMove_27 rfl (Nat.le_of_ble_eq_true rfl) (Nat.le_of_ble_eq_true rfl) rfl (by decide) rfl
  rw [hH, hlo] at hgo
  exact hgo
theorem hi_X12_fault_X12 : ∀ w ∈ wsX120, w ∈ wsX12_fault := fun _ h => List.mem_cons_of_mem _ (List.mem_append_right _ h)
theorem yd_X12_token : yX12_token.cls = RX12 ∧ yX12_token.cls ≠ "java/lang/invoke/MethodHandle" ∧ yX12_token.cls ≠ "java/lang/invoke/VarHandle" ∧ (parseMethodDescriptor yX12_token.desc).map (fun d => d.parameters.length) = some 0 := by decide +kernel
theorem yd_X12_readsMove : yX12_readsMove.cls = RX12 ∧ yX12_readsMove.cls ≠ "java/lang/invoke/MethodHandle" ∧ yX12_readsMove.cls ≠ "java/lang/invoke/VarHandle" ∧ (parseMethodDescriptor yX12_readsMove.desc).map (fun d => d.parameters.length) = some 1 := by decide +kernel
abbrev rm_c_M_fault : Room := { frames := 2, cells := 0, slots := 0, locals := 45 }
theorem lf_c_M_fault_0   : (0 : Int32) = sp_fault 0 := by (unfold sp_fault; rw [if_pos] <;> (simp only [true_or, or_true, false_or, or_false, true_and, and_true, false_and, and_false, not_true_eq_false, not_false_eq_true, i_lt, i_le, i_eq, j_lt, j_le, j_eq, Int32.toInt_toInt64, li_0, lj_0, li_1, lj_1, li_2, lj_2, li_3, lj_3, li_4, lj_4, li_5, lj_5, li_6, lj_6, li_7, lj_7, li_8, lj_8, li_10, lj_10, li_11, lj_11, li_12, lj_12, li_24, lj_24, li_25, lj_25, li_50, lj_50, li_130, lj_130, li_160, lj_160, li_800, lj_800, li_4000, lj_4000, li_10000, lj_10000, li_16384, lj_16384, li_26, lj_26, li_32, lj_32, li_48, lj_48, li_57, lj_57, li_59, lj_59, li_97, lj_97, li_99, lj_99, li_122, lj_122, li_m1, lj_m1, li_m2, lj_m2, li_m3, lj_m3, li_m4, lj_m4, li_m5, lj_m5, li_m6, lj_m6] at * <;> omega))
theorem lf_c_M_fault_1   : (0 : Int32) = sp_fault 1 := by (unfold sp_fault; rw [if_pos] <;> (simp only [true_or, or_true, false_or, or_false, true_and, and_true, false_and, and_false, not_true_eq_false, not_false_eq_true, i_lt, i_le, i_eq, j_lt, j_le, j_eq, Int32.toInt_toInt64, li_0, lj_0, li_1, lj_1, li_2, lj_2, li_3, lj_3, li_4, lj_4, li_5, lj_5, li_6, lj_6, li_7, lj_7, li_8, lj_8, li_10, lj_10, li_11, lj_11, li_12, lj_12, li_24, lj_24, li_25, lj_25, li_50, lj_50, li_130, lj_130, li_160, lj_160, li_800, lj_800, li_4000, lj_4000, li_10000, lj_10000, li_16384, lj_16384, li_26, lj_26, li_32, lj_32, li_48, lj_48, li_57, lj_57, li_59, lj_59, li_97, lj_97, li_99, lj_99, li_122, lj_122, li_m1, lj_m1, li_m2, lj_m2, li_m3, lj_m3, li_m4, lj_m4, li_m5, lj_m5, li_m6, lj_m6] at * <;> omega))
theorem lf_c_M_fault_2 (x : Int32) (h_4 : ¬ (x = 0 ∨ x = 1)) : ((-2) : Int32) = sp_fault x := by (unfold sp_fault; rw [if_neg] <;> (simp only [true_or, or_true, false_or, or_false, true_and, and_true, false_and, and_false, not_true_eq_false, not_false_eq_true, i_lt, i_le, i_eq, j_lt, j_le, j_eq, Int32.toInt_toInt64, li_0, lj_0, li_1, lj_1, li_2, lj_2, li_3, lj_3, li_4, lj_4, li_5, lj_5, li_6, lj_6, li_7, lj_7, li_8, lj_8, li_10, lj_10, li_11, lj_11, li_12, lj_12, li_24, lj_24, li_25, lj_25, li_50, lj_50, li_130, lj_130, li_160, lj_160, li_800, lj_800, li_4000, lj_4000, li_10000, lj_10000, li_16384, lj_16384, li_26, lj_26, li_32, lj_32, li_48, lj_48, li_57, lj_57, li_59, lj_59, li_97, lj_97, li_99, lj_99, li_122, lj_122, li_m1, lj_m1, li_m2, lj_m2, li_m3, lj_m3, li_m4, lj_m4, li_m5, lj_m5, li_m6, lj_m6] at * <;> omega))
set_option maxHeartbeats 4000000 in
set_option maxRecDepth 100000 in
theorem c_M_fault (l : Launch) (g : va_G) (cT : Nat → ClassId) (sz : Nat) (y : Nat) (qq : Nat → Nat) (z12 : Int32) (z14 : Int32) (z15 : Int32) (z16 : Int32) (z17 : Int32) (z19 : Int32) (z21 : Int32) (z22 : Int32) (z23 : Int32) (z24 : Int32) (z26 : Int32) (z30 : Int32) (x : Int32)  : Ctr l g cT sz yX12_fault wsX12_fault rm_c_M_fault [.ref y, .int x] [(y, .inr (12, [.ref (qq 0), .ref (qq 1), .ref (qq 2), .ref (qq 3), .ref (qq 4), .ref (qq 5), .int 0, .ref (qq 7), .ref (qq 8), .ref (qq 9), .ref (qq 10), .ref (qq 11), .int z12, .ref (qq 13), .int z14, .int z15, .int z16, .int z17, .ref (qq 18), .int z19, .ref (qq 20), .int z21, .int z22, .int z23, .int z24, .ref (qq 25), .int z26, .ref (qq 27), .ref (qq 28), .ref (qq 29), .int z30, .ref (qq 31), .ref (qq 32), .ref (qq 33), .ref (qq 34), .ref (qq 35), .ref (qq 36), .ref (qq 37), .ref (qq 38), .ref (qq 39), .ref (qq 40), .ref (qq 41), .ref (qq 42)])), ((qq 7), .inl (cT 0, 40, .inl (fun _ => 0)))] (QI g (fun (r : Int32) (u : Unit) => r = sp_fault x) (fun (u : Unit) => [])) 0 0 := by
  refine mk_ctr (cc := cX12_fault) (maxL := 3) (ret := (some .int)) (by decide) rfl (Nat.le_of_ble_eq_true rfl) ?_
  intro p e s m args below meth c A Q hx hb hr hts hown hlocks hin hml hP hK hD hN hZ hA hS hQ ls hl
  have hl : lv_has ls 3 [(0, .ref y), (1, .int x)] := hl
  obtain ⟨H, hH⟩ : ∃ H : Heap, H = s.heap := ⟨_, rfl⟩
  obtain ⟨locs, hlo⟩ : ∃ x : List Loc, x = [] := ⟨_, rfl⟩
  rw [← hH] at hP
  have hS : va_S A s.heap H locs := by rw [hH, hlo]; exact hS
  have hgo : W p l e rm_c_M_fault s m args below meth c H locs 0 0 Q (F0 m 0 ls []) := by
    clear hH hlo
    refine lv_iload_n hx hb dX12_fault_0 rfl (lv_at hl 1 rfl) ?_
    refine cp_i (va_runS (As := [.int x]) (rest := []) ⟨hx, hb, hml, hown, hts⟩ (c_M_isReader l g cT H.size x) (va_cwS 1 hts gX12_fault_X12_isReader rfl rfl rfl yd_X12_isReader.2 ⟨(Nat.le_of_ble_eq_true rfl), (Nat.le_of_ble_eq_true rfl)⟩) (preS (ws := []) (wc := []) rfl (fun _ _ h => by simp at h) (va_D_nil (A := A)) hK hN hZ hS hA [] rfl rfl) rfl rfl hl.1 rfl (lv_room (Nat.le_of_ble_eq_true rfl)) dX12_fault_1 ⟨(Nat.le_of_ble_eq_true rfl), (Nat.le_of_ble_eq_true rfl)⟩) hP hS hA (fun r_1 u H locs h_2 hP hS => ?_)
    rcases h_2 with ⟨rfl, h_3⟩ | ⟨rfl, h_4⟩
    · skip
      rcases h_3 with rfl | rfl
      · skip
        refine if_ne_t hx hb 10 dX12_fault_4 (by decide) (by decide) ?_
        refine lv_aload_n hx hb dX12_fault_10 rfl (lv_at hl 0 rfl) ?_
        refine lv_iconst (v := 0) hx hb dX12_fault_11 (by decide) ?_
        refine va_put (C := RX12) (T := TX12) (N := 43) (v := .int 0) (ty := .int) hx hb hts hi_X12_fault_X12 tyX12 tyX12_ok nmX12 hown hK hP hD hS 0 rfl rfl 15 (by decide) (hts (.fieldLink RX12 120 "BothWaysModel" "at" "I") (by decide +kernel)) (fun _ h => h) rfl (by decide +kernel) rfl rfl (Nat.le_of_ble_eq_true rfl) dX12_fault_12 (fun H locs hP hD hS => ?_)
        have hP : va_P g vwCl [(y, .inr (12, [.ref (qq 0), .ref (qq 1), .ref (qq 2), .ref (qq 3), .ref (qq 4), .ref (qq 5), .int 0, .ref (qq 7), .ref (qq 8), .ref (qq 9), .ref (qq 10), .ref (qq 11), .int z12, .ref (qq 13), .int z14, .int 0, .int z16, .int z17, .ref (qq 18), .int z19, .ref (qq 20), .int z21, .int z22, .int z23, .int z24, .ref (qq 25), .int z26, .ref (qq 27), .ref (qq 28), .ref (qq 29), .int z30, .ref (qq 31), .ref (qq 32), .ref (qq 33), .ref (qq 34), .ref (qq 35), .ref (qq 36), .ref (qq 37), .ref (qq 38), .ref (qq 39), .ref (qq 40), .ref (qq 41), .ref (qq 42)])), ((qq 7), .inl (cT 0, 40, .inl (fun _ => 0)))] H := hP
        have hD : va_D A [(y, .inr (12, [.ref (qq 0), .ref (qq 1), .ref (qq 2), .ref (qq 3), .ref (qq 4), .ref (qq 5), .int 0, .ref (qq 7), .ref (qq 8), .ref (qq 9), .ref (qq 10), .ref (qq 11), .int z12, .ref (qq 13), .int z14, .int 0, .int z16, .int z17, .ref (qq 18), .int z19, .ref (qq 20), .int z21, .int z22, .int z23, .int z24, .ref (qq 25), .int z26, .ref (qq 27), .ref (qq 28), .ref (qq 29), .int z30, .ref (qq 31), .ref (qq 32), .ref (qq 33), .ref (qq 34), .ref (qq 35), .ref (qq 36), .ref (qq 37), .ref (qq 38), .ref (qq 39), .ref (qq 40), .ref (qq 41), .ref (qq 42)])), ((qq 7), .inl (cT 0, 40, .inl (fun _ => 0)))] := hD
        refine lv_aload_n hx hb dX12_fault_15 rfl (lv_at hl 0 rfl) ?_
        refine lv_iconst (v := 0) hx hb dX12_fault_16 (by decide) ?_
        refine va_put (C := RX12) (T := TX12) (N := 43) (v := .int 0) (ty := .int) hx hb hts hi_X12_fault_X12 tyX12 tyX12_ok nmX12 hown hK hP hD hS 0 rfl rfl 12 (by decide) (hts (.fieldLink RX12 140 "BothWaysModel" "readMany" "I") (by decide +kernel)) (fun _ h => h) rfl (by decide +kernel) rfl rfl (Nat.le_of_ble_eq_true rfl) dX12_fault_17 (fun H locs hP hD hS => ?_)
        have hP : va_P g vwCl [(y, .inr (12, [.ref (qq 0), .ref (qq 1), .ref (qq 2), .ref (qq 3), .ref (qq 4), .ref (qq 5), .int 0, .ref (qq 7), .ref (qq 8), .ref (qq 9), .ref (qq 10), .ref (qq 11), .int 0, .ref (qq 13), .int z14, .int 0, .int z16, .int z17, .ref (qq 18), .int z19, .ref (qq 20), .int z21, .int z22, .int z23, .int z24, .ref (qq 25), .int z26, .ref (qq 27), .ref (qq 28), .ref (qq 29), .int z30, .ref (qq 31), .ref (qq 32), .ref (qq 33), .ref (qq 34), .ref (qq 35), .ref (qq 36), .ref (qq 37), .ref (qq 38), .ref (qq 39), .ref (qq 40), .ref (qq 41), .ref (qq 42)])), ((qq 7), .inl (cT 0, 40, .inl (fun _ => 0)))] H := hP
        have hD : va_D A [(y, .inr (12, [.ref (qq 0), .ref (qq 1), .ref (qq 2), .ref (qq 3), .ref (qq 4), .ref (qq 5), .int 0, .ref (qq 7), .ref (qq 8), .ref (qq 9), .ref (qq 10), .ref (qq 11), .int 0, .ref (qq 13), .int z14, .int 0, .int z16, .int z17, .ref (qq 18), .int z19, .ref (qq 20), .int z21, .int z22, .int z23, .int z24, .ref (qq 25), .int z26, .ref (qq 27), .ref (qq 28), .ref (qq 29), .int z30, .ref (qq 31), .ref (qq 32), .ref (qq 33), .ref (qq 34), .ref (qq 35), .ref (qq 36), .ref (qq 37), .ref (qq 38), .ref (qq 39), .ref (qq 40), .ref (qq 41), .ref (qq 42)])), ((qq 7), .inl (cT 0, 40, .inl (fun _ => 0)))] := hD
        refine lv_aload_n hx hb dX12_fault_20 rfl (lv_at hl 0 rfl) ?_
        refine cj_v 0 0 (wr := [((qq 7), .inl (cT 0, 40, .inl (fun _ => 0)))]) (va_runV (As := []) (rest := []) ⟨hx, hb, hml, hown, hts⟩ (c_M_token l g cT H.size y qq 0 z14 z16 z17 z19 z21 z22 z23 z24 z26 z30) (cwV 0 hts gX12_fault_X12_token rfl rfl rfl yd_X12_token ⟨(Nat.le_of_ble_eq_true rfl), (Nat.le_of_ble_eq_true rfl)⟩) (preV (wc := [(y, .inr (12, [.ref (qq 0), .ref (qq 1), .ref (qq 2), .ref (qq 3), .ref (qq 4), .ref (qq 5), .int 0, .ref (qq 7), .ref (qq 8), .ref (qq 9), .ref (qq 10), .ref (qq 11), .int 0, .ref (qq 13), .int z14, .int 0, .int z16, .int z17, .ref (qq 18), .int z19, .ref (qq 20), .int z21, .int z22, .int z23, .int z24, .ref (qq 25), .int z26, .ref (qq 27), .ref (qq 28), .ref (qq 29), .int z30, .ref (qq 31), .ref (qq 32), .ref (qq 33), .ref (qq 34), .ref (qq 35), .ref (qq 36), .ref (qq 37), .ref (qq 38), .ref (qq 39), .ref (qq 40), .ref (qq 41), .ref (qq 42)]))]) rfl hP hD hK hN hZ hS hA [0] rfl (by decide) (ci := 12) (q0 := 0) rfl rfl) rfl rfl hl.1 rfl (lv_room (Nat.le_of_ble_eq_true rfl)) dX12_fault_21 ⟨(Nat.le_of_ble_eq_true rfl), (Nat.le_of_ble_eq_true rfl)⟩) hP hD hS hA [0] [1] rfl rfl (by decide) (by decide) (Nat.le_of_ble_eq_true rfl) (Nat.le_of_ble_eq_true rfl) (fun u H locs h_6 hP hD hS => ?_)
        have hP : va_P g vwCl [((qq 7), .inl (cT 0, 40, .inl (fun _ => 0))), (y, .inr (12, [.ref (qq 0), .ref (qq 1), .ref (qq 2), .ref (qq 3), .ref (qq 4), .ref (qq 5), .int 0, .ref (qq 7), .ref (qq 8), .ref (qq 9), .ref (qq 10), .ref (qq 11), .int 0, .ref (qq 13), .int z14, .int 0, .int 0, .int 0, .ref (qq 18), .int z19, .ref (qq 20), .int z21, .int z22, .int z23, .int z24, .ref (qq 25), .int z26, .ref (qq 27), .ref (qq 28), .ref (qq 29), .int z30, .ref (qq 31), .ref (qq 32), .ref (qq 33), .ref (qq 34), .ref (qq 35), .ref (qq 36), .ref (qq 37), .ref (qq 38), .ref (qq 39), .ref (qq 40), .ref (qq 41), .ref (qq 42)]))] H := hP
        have hD : va_D A [((qq 7), .inl (cT 0, 40, .inl (fun _ => 0))), (y, .inr (12, [.ref (qq 0), .ref (qq 1), .ref (qq 2), .ref (qq 3), .ref (qq 4), .ref (qq 5), .int 0, .ref (qq 7), .ref (qq 8), .ref (qq 9), .ref (qq 10), .ref (qq 11), .int 0, .ref (qq 13), .int z14, .int 0, .int 0, .int 0, .ref (qq 18), .int z19, .ref (qq 20), .int z21, .int z22, .int z23, .int z24, .ref (qq 25), .int z26, .ref (qq 27), .ref (qq 28), .ref (qq 29), .int z30, .ref (qq 31), .ref (qq 32), .ref (qq 33), .ref (qq 34), .ref (qq 35), .ref (qq 36), .ref (qq 37), .ref (qq 38), .ref (qq 39), .ref (qq 40), .ref (qq 41), .ref (qq 42)]))] := hD
        refine lv_aload_n hx hb dX12_fault_24 rfl (lv_at hl 0 rfl) ?_
        refine lv_iload_n hx hb dX12_fault_25 rfl (lv_at hl 1 rfl) ?_
        refine cj_i 0 0 (wr := []) (va_runV (As := [.int 0]) (rest := []) ⟨hx, hb, hml, hown, hts⟩ (c_M_readsMove_0 l g cT H.size y qq z14 z19 z21 z22 z23 z24 z26 z30) (cwV 1 hts gX12_fault_X12_readsMove rfl rfl rfl yd_X12_readsMove ⟨(Nat.le_of_ble_eq_true rfl), (Nat.le_of_ble_eq_true rfl)⟩) (preV (wc := [(y, .inr (12, [.ref (qq 0), .ref (qq 1), .ref (qq 2), .ref (qq 3), .ref (qq 4), .ref (qq 5), .int 0, .ref (qq 7), .ref (qq 8), .ref (qq 9), .ref (qq 10), .ref (qq 11), .int 0, .ref (qq 13), .int z14, .int 0, .int 0, .int 0, .ref (qq 18), .int z19, .ref (qq 20), .int z21, .int z22, .int z23, .int z24, .ref (qq 25), .int z26, .ref (qq 27), .ref (qq 28), .ref (qq 29), .int z30, .ref (qq 31), .ref (qq 32), .ref (qq 33), .ref (qq 34), .ref (qq 35), .ref (qq 36), .ref (qq 37), .ref (qq 38), .ref (qq 39), .ref (qq 40), .ref (qq 41), .ref (qq 42)])), ((qq 7), .inl (cT 0, 40, .inl (fun _ => 0)))]) rfl hP hD hK hN hZ hS hA [1, 0] rfl (by decide) (ci := 12) (q0 := 1) rfl rfl) rfl rfl hl.1 rfl (lv_room (Nat.le_of_ble_eq_true rfl)) dX12_fault_26 ⟨(Nat.le_of_ble_eq_true rfl), (Nat.le_of_ble_eq_true rfl)⟩) hP hD hS hA [1, 0] [] rfl rfl (by decide) (by decide) (Nat.le_of_ble_eq_true rfl) (Nat.le_of_ble_eq_true rfl) (fun r_7 u H locs h_8 hP hD hS => ?_)
        have hP : va_P g vwCl [(y, .inr (12, [.ref (qq 0), .ref (qq 1), .ref (qq 2), .ref (qq 3), .ref (qq 4), .ref (qq 5), .int 0, .ref (qq 7), .ref (qq 8), .ref (qq 9), .ref (qq 10), .ref (qq 11), .int 0, .ref (qq 13), .int z14, .int 0, .int 0, .int 0, .ref (qq 18), .int z19, .ref (qq 20), .int z21, .int z22, .int z23, .int z24, .ref (qq 25), .int z26, .ref (qq 27), .ref (qq 28), .ref (qq 29), .int z30, .ref (qq 31), .ref (qq 32), .ref (qq 33), .ref (qq 34), .ref (qq 35), .ref (qq 36), .ref (qq 37), .ref (qq 38), .ref (qq 39), .ref (qq 40), .ref (qq 41), .ref (qq 42)]))] H := hP
        have hD : va_D A [(y, .inr (12, [.ref (qq 0), .ref (qq 1), .ref (qq 2), .ref (qq 3), .ref (qq 4), .ref (qq 5), .int 0, .ref (qq 7), .ref (qq 8), .ref (qq 9), .ref (qq 10), .ref (qq 11), .int 0, .ref (qq 13), .int z14, .int 0, .int 0, .int 0, .ref (qq 18), .int z19, .ref (qq 20), .int z21, .int z22, .int z23, .int z24, .ref (qq 25), .int z26, .ref (qq 27), .ref (qq 28), .ref (qq 29), .int z30, .ref (qq 31), .ref (qq 32), .ref (qq 33), .ref (qq 34), .ref (qq 35), .ref (qq 36), .ref (qq 37), .ref (qq 38), .ref (qq 39), .ref (qq 40), .ref (qq 41), .ref (qq 42)]))] := hD
        subst h_8
        refine if_ne_f hx hb dX12_fault_29 37 (by decide) (by decide) ?_
        refine lv_aload_n hx hb dX12_fault_32 rfl (lv_at hl 0 rfl) ?_
        refine va_get (C := RX12) (T := TX12) (N := 43) (v := .int 0) hx hb hts hi_X12_fault_X12 hown hK hP 0 rfl rfl 16 (by decide) (hts (.fieldLink RX12 123 "BothWaysModel" "place" "I") (by decide +kernel)) (fun _ h => h) rfl dX12_fault_33 ?_
        exact rt_i hx hb hr hlocks hQ hP hD hS () [] dX12_fault_36 rfl (Nat.le_of_ble_eq_true rfl) (Nat.le_of_ble_eq_true rfl) rfl (by decide) lf_c_M_fault_0
      · skip
        refine if_ne_t hx hb 10 dX12_fault_4 (by decide) (by decide) ?_
        refine lv_aload_n hx hb dX12_fault_10 rfl (lv_at hl 0 rfl) ?_
        refine lv_iconst (v := 0) hx hb dX12_fault_11 (by decide) ?_
        refine va_put (C := RX12) (T := TX12) (N := 43) (v := .int 0) (ty := .int) hx hb hts hi_X12_fault_X12 tyX12 tyX12_ok nmX12 hown hK hP hD hS 0 rfl rfl 15 (by decide) (hts (.fieldLink RX12 120 "BothWaysModel" "at" "I") (by decide +kernel)) (fun _ h => h) rfl (by decide +kernel) rfl rfl (Nat.le_of_ble_eq_true rfl) dX12_fault_12 (fun H locs hP hD hS => ?_)
        have hP : va_P g vwCl [(y, .inr (12, [.ref (qq 0), .ref (qq 1), .ref (qq 2), .ref (qq 3), .ref (qq 4), .ref (qq 5), .int 0, .ref (qq 7), .ref (qq 8), .ref (qq 9), .ref (qq 10), .ref (qq 11), .int z12, .ref (qq 13), .int z14, .int 0, .int z16, .int z17, .ref (qq 18), .int z19, .ref (qq 20), .int z21, .int z22, .int z23, .int z24, .ref (qq 25), .int z26, .ref (qq 27), .ref (qq 28), .ref (qq 29), .int z30, .ref (qq 31), .ref (qq 32), .ref (qq 33), .ref (qq 34), .ref (qq 35), .ref (qq 36), .ref (qq 37), .ref (qq 38), .ref (qq 39), .ref (qq 40), .ref (qq 41), .ref (qq 42)])), ((qq 7), .inl (cT 0, 40, .inl (fun _ => 0)))] H := hP
        have hD : va_D A [(y, .inr (12, [.ref (qq 0), .ref (qq 1), .ref (qq 2), .ref (qq 3), .ref (qq 4), .ref (qq 5), .int 0, .ref (qq 7), .ref (qq 8), .ref (qq 9), .ref (qq 10), .ref (qq 11), .int z12, .ref (qq 13), .int z14, .int 0, .int z16, .int z17, .ref (qq 18), .int z19, .ref (qq 20), .int z21, .int z22, .int z23, .int z24, .ref (qq 25), .int z26, .ref (qq 27), .ref (qq 28), .ref (qq 29), .int z30, .ref (qq 31), .ref (qq 32), .ref (qq 33), .ref (qq 34), .ref (qq 35), .ref (qq 36), .ref (qq 37), .ref (qq 38), .ref (qq 39), .ref (qq 40), .ref (qq 41), .ref (qq 42)])), ((qq 7), .inl (cT 0, 40, .inl (fun _ => 0)))] := hD
        refine lv_aload_n hx hb dX12_fault_15 rfl (lv_at hl 0 rfl) ?_
        refine lv_iconst (v := 0) hx hb dX12_fault_16 (by decide) ?_
        refine va_put (C := RX12) (T := TX12) (N := 43) (v := .int 0) (ty := .int) hx hb hts hi_X12_fault_X12 tyX12 tyX12_ok nmX12 hown hK hP hD hS 0 rfl rfl 12 (by decide) (hts (.fieldLink RX12 140 "BothWaysModel" "readMany" "I") (by decide +kernel)) (fun _ h => h) rfl (by decide +kernel) rfl rfl (Nat.le_of_ble_eq_true rfl) dX12_fault_17 (fun H locs hP hD hS => ?_)
        have hP : va_P g vwCl [(y, .inr (12, [.ref (qq 0), .ref (qq 1), .ref (qq 2), .ref (qq 3), .ref (qq 4), .ref (qq 5), .int 0, .ref (qq 7), .ref (qq 8), .ref (qq 9), .ref (qq 10), .ref (qq 11), .int 0, .ref (qq 13), .int z14, .int 0, .int z16, .int z17, .ref (qq 18), .int z19, .ref (qq 20), .int z21, .int z22, .int z23, .int z24, .ref (qq 25), .int z26, .ref (qq 27), .ref (qq 28), .ref (qq 29), .int z30, .ref (qq 31), .ref (qq 32), .ref (qq 33), .ref (qq 34), .ref (qq 35), .ref (qq 36), .ref (qq 37), .ref (qq 38), .ref (qq 39), .ref (qq 40), .ref (qq 41), .ref (qq 42)])), ((qq 7), .inl (cT 0, 40, .inl (fun _ => 0)))] H := hP
        have hD : va_D A [(y, .inr (12, [.ref (qq 0), .ref (qq 1), .ref (qq 2), .ref (qq 3), .ref (qq 4), .ref (qq 5), .int 0, .ref (qq 7), .ref (qq 8), .ref (qq 9), .ref (qq 10), .ref (qq 11), .int 0, .ref (qq 13), .int z14, .int 0, .int z16, .int z17, .ref (qq 18), .int z19, .ref (qq 20), .int z21, .int z22, .int z23, .int z24, .ref (qq 25), .int z26, .ref (qq 27), .ref (qq 28), .ref (qq 29), .int z30, .ref (qq 31), .ref (qq 32), .ref (qq 33), .ref (qq 34), .ref (qq 35), .ref (qq 36), .ref (qq 37), .ref (qq 38), .ref (qq 39), .ref (qq 40), .ref (qq 41), .ref (qq 42)])), ((qq 7), .inl (cT 0, 40, .inl (fun _ => 0)))] := hD
        refine lv_aload_n hx hb dX12_fault_20 rfl (lv_at hl 0 rfl) ?_
        refine cj_v 0 0 (wr := [((qq 7), .inl (cT 0, 40, .inl (fun _ => 0)))]) (va_runV (As := []) (rest := []) ⟨hx, hb, hml, hown, hts⟩ (c_M_token l g cT H.size y qq 0 z14 z16 z17 z19 z21 z22 z23 z24 z26 z30) (cwV 0 hts gX12_fault_X12_token rfl rfl rfl yd_X12_token ⟨(Nat.le_of_ble_eq_true rfl), (Nat.le_of_ble_eq_true rfl)⟩) (preV (wc := [(y, .inr (12, [.ref (qq 0), .ref (qq 1), .ref (qq 2), .ref (qq 3), .ref (qq 4), .ref (qq 5), .int 0, .ref (qq 7), .ref (qq 8), .ref (qq 9), .ref (qq 10), .ref (qq 11), .int 0, .ref (qq 13), .int z14, .int 0, .int z16, .int z17, .ref (qq 18), .int z19, .ref (qq 20), .int z21, .int z22, .int z23, .int z24, .ref (qq 25), .int z26, .ref (qq 27), .ref (qq 28), .ref (qq 29), .int z30, .ref (qq 31), .ref (qq 32), .ref (qq 33), .ref (qq 34), .ref (qq 35), .ref (qq 36), .ref (qq 37), .ref (qq 38), .ref (qq 39), .ref (qq 40), .ref (qq 41), .ref (qq 42)]))]) rfl hP hD hK hN hZ hS hA [0] rfl (by decide) (ci := 12) (q0 := 0) rfl rfl) rfl rfl hl.1 rfl (lv_room (Nat.le_of_ble_eq_true rfl)) dX12_fault_21 ⟨(Nat.le_of_ble_eq_true rfl), (Nat.le_of_ble_eq_true rfl)⟩) hP hD hS hA [0] [1] rfl rfl (by decide) (by decide) (Nat.le_of_ble_eq_true rfl) (Nat.le_of_ble_eq_true rfl) (fun u H locs h_10 hP hD hS => ?_)
        have hP : va_P g vwCl [((qq 7), .inl (cT 0, 40, .inl (fun _ => 0))), (y, .inr (12, [.ref (qq 0), .ref (qq 1), .ref (qq 2), .ref (qq 3), .ref (qq 4), .ref (qq 5), .int 0, .ref (qq 7), .ref (qq 8), .ref (qq 9), .ref (qq 10), .ref (qq 11), .int 0, .ref (qq 13), .int z14, .int 0, .int 0, .int 0, .ref (qq 18), .int z19, .ref (qq 20), .int z21, .int z22, .int z23, .int z24, .ref (qq 25), .int z26, .ref (qq 27), .ref (qq 28), .ref (qq 29), .int z30, .ref (qq 31), .ref (qq 32), .ref (qq 33), .ref (qq 34), .ref (qq 35), .ref (qq 36), .ref (qq 37), .ref (qq 38), .ref (qq 39), .ref (qq 40), .ref (qq 41), .ref (qq 42)]))] H := hP
        have hD : va_D A [((qq 7), .inl (cT 0, 40, .inl (fun _ => 0))), (y, .inr (12, [.ref (qq 0), .ref (qq 1), .ref (qq 2), .ref (qq 3), .ref (qq 4), .ref (qq 5), .int 0, .ref (qq 7), .ref (qq 8), .ref (qq 9), .ref (qq 10), .ref (qq 11), .int 0, .ref (qq 13), .int z14, .int 0, .int 0, .int 0, .ref (qq 18), .int z19, .ref (qq 20), .int z21, .int z22, .int z23, .int z24, .ref (qq 25), .int z26, .ref (qq 27), .ref (qq 28), .ref (qq 29), .int z30, .ref (qq 31), .ref (qq 32), .ref (qq 33), .ref (qq 34), .ref (qq 35), .ref (qq 36), .ref (qq 37), .ref (qq 38), .ref (qq 39), .ref (qq 40), .ref (qq 41), .ref (qq 42)]))] := hD
        refine lv_aload_n hx hb dX12_fault_24 rfl (lv_at hl 0 rfl) ?_
        refine lv_iload_n hx hb dX12_fault_25 rfl (lv_at hl 1 rfl) ?_
        refine cj_i 0 0 (wr := []) (va_runV (As := [.int 1]) (rest := []) ⟨hx, hb, hml, hown, hts⟩ (c_M_readsMove_1 l g cT H.size y qq z14 z19 z21 z22 z23 z24 z26 z30) (cwV 1 hts gX12_fault_X12_readsMove rfl rfl rfl yd_X12_readsMove ⟨(Nat.le_of_ble_eq_true rfl), (Nat.le_of_ble_eq_true rfl)⟩) (preV (wc := [(y, .inr (12, [.ref (qq 0), .ref (qq 1), .ref (qq 2), .ref (qq 3), .ref (qq 4), .ref (qq 5), .int 0, .ref (qq 7), .ref (qq 8), .ref (qq 9), .ref (qq 10), .ref (qq 11), .int 0, .ref (qq 13), .int z14, .int 0, .int 0, .int 0, .ref (qq 18), .int z19, .ref (qq 20), .int z21, .int z22, .int z23, .int z24, .ref (qq 25), .int z26, .ref (qq 27), .ref (qq 28), .ref (qq 29), .int z30, .ref (qq 31), .ref (qq 32), .ref (qq 33), .ref (qq 34), .ref (qq 35), .ref (qq 36), .ref (qq 37), .ref (qq 38), .ref (qq 39), .ref (qq 40), .ref (qq 41), .ref (qq 42)])), ((qq 7), .inl (cT 0, 40, .inl (fun _ => 0)))]) rfl hP hD hK hN hZ hS hA [1, 0] rfl (by decide) (ci := 12) (q0 := 1) rfl rfl) rfl rfl hl.1 rfl (lv_room (Nat.le_of_ble_eq_true rfl)) dX12_fault_26 ⟨(Nat.le_of_ble_eq_true rfl), (Nat.le_of_ble_eq_true rfl)⟩) hP hD hS hA [1, 0] [] rfl rfl (by decide) (by decide) (Nat.le_of_ble_eq_true rfl) (Nat.le_of_ble_eq_true rfl) (fun r_11 u H locs h_12 hP hD hS => ?_)
        have hP : va_P g vwCl [(y, .inr (12, [.ref (qq 0), .ref (qq 1), .ref (qq 2), .ref (qq 3), .ref (qq 4), .ref (qq 5), .int 0, .ref (qq 7), .ref (qq 8), .ref (qq 9), .ref (qq 10), .ref (qq 11), .int 0, .ref (qq 13), .int z14, .int 0, .int 0, .int 0, .ref (qq 18), .int z19, .ref (qq 20), .int z21, .int z22, .int z23, .int z24, .ref (qq 25), .int z26, .ref (qq 27), .ref (qq 28), .ref (qq 29), .int z30, .ref (qq 31), .ref (qq 32), .ref (qq 33), .ref (qq 34), .ref (qq 35), .ref (qq 36), .ref (qq 37), .ref (qq 38), .ref (qq 39), .ref (qq 40), .ref (qq 41), .ref (qq 42)]))] H := hP
        have hD : va_D A [(y, .inr (12, [.ref (qq 0), .ref (qq 1), .ref (qq 2), .ref (qq 3), .ref (qq 4), .ref (qq 5), .int 0, .ref (qq 7), .ref (qq 8), .ref (qq 9), .ref (qq 10), .ref (qq 11), .int 0, .ref (qq 13), .int z14, .int 0, .int 0, .int 0, .ref (qq 18), .int z19, .ref (qq 20), .int z21, .int z22, .int z23, .int z24, .ref (qq 25), .int z26, .ref (qq 27), .ref (qq 28), .ref (qq 29), .int z30, .ref (qq 31), .ref (qq 32), .ref (qq 33), .ref (qq 34), .ref (qq 35), .ref (qq 36), .ref (qq 37), .ref (qq 38), .ref (qq 39), .ref (qq 40), .ref (qq 41), .ref (qq 42)]))] := hD
        subst h_12
        refine if_ne_f hx hb dX12_fault_29 37 (by decide) (by decide) ?_
        refine lv_aload_n hx hb dX12_fault_32 rfl (lv_at hl 0 rfl) ?_
        refine va_get (C := RX12) (T := TX12) (N := 43) (v := .int 0) hx hb hts hi_X12_fault_X12 hown hK hP 0 rfl rfl 16 (by decide) (hts (.fieldLink RX12 123 "BothWaysModel" "place" "I") (by decide +kernel)) (fun _ h => h) rfl dX12_fault_33 ?_
        exact rt_i hx hb hr hlocks hQ hP hD hS () [] dX12_fault_36 rfl (Nat.le_of_ble_eq_true rfl) (Nat.le_of_ble_eq_true rfl) rfl (by decide) lf_c_M_fault_1
    · skip
      refine if_ne_f hx hb dX12_fault_4 10 (by decide) (by decide) ?_
      refine lv_bipush (v := (-2)) hx hb dX12_fault_7 (by decide) ?_
      exact rt_i hx hb hr hlocks hQ hP hD hS () [] dX12_fault_9 rfl (Nat.le_of_ble_eq_true rfl) (Nat.le_of_ble_eq_true rfl) rfl (by decide) (lf_c_M_fault_2 x h_4)
  rw [hH, hlo] at hgo
  exact hgo
theorem yd_X12_fault : yX12_fault.cls = RX12 ∧ yX12_fault.cls ≠ "java/lang/invoke/MethodHandle" ∧ yX12_fault.cls ≠ "java/lang/invoke/VarHandle" ∧ (parseMethodDescriptor yX12_fault.desc).map (fun d => d.parameters.length) = some 1 := by decide +kernel
abbrev rm_c_M_moves : Room := { frames := 3, cells := 0, slots := 0, locals := 67 }
theorem lf_c_M_moves_0   : ((-4) : Int32) = sp_moves 0 := by (unfold sp_moves; rw [if_pos] <;> (simp only [true_or, or_true, false_or, or_false, true_and, and_true, false_and, and_false, not_true_eq_false, not_false_eq_true, i_lt, i_le, i_eq, j_lt, j_le, j_eq, Int32.toInt_toInt64, li_0, lj_0, li_1, lj_1, li_2, lj_2, li_3, lj_3, li_4, lj_4, li_5, lj_5, li_6, lj_6, li_7, lj_7, li_8, lj_8, li_10, lj_10, li_11, lj_11, li_12, lj_12, li_24, lj_24, li_25, lj_25, li_50, lj_50, li_130, lj_130, li_160, lj_160, li_800, lj_800, li_4000, lj_4000, li_10000, lj_10000, li_16384, lj_16384, li_26, lj_26, li_32, lj_32, li_48, lj_48, li_57, lj_57, li_59, lj_59, li_97, lj_97, li_99, lj_99, li_122, lj_122, li_m1, lj_m1, li_m2, lj_m2, li_m3, lj_m3, li_m4, lj_m4, li_m5, lj_m5, li_m6, lj_m6] at * <;> omega))
theorem lf_c_M_moves_1   : ((-4) : Int32) = sp_moves 1 := by (unfold sp_moves; rw [if_pos] <;> (simp only [true_or, or_true, false_or, or_false, true_and, and_true, false_and, and_false, not_true_eq_false, not_false_eq_true, i_lt, i_le, i_eq, j_lt, j_le, j_eq, Int32.toInt_toInt64, li_0, lj_0, li_1, lj_1, li_2, lj_2, li_3, lj_3, li_4, lj_4, li_5, lj_5, li_6, lj_6, li_7, lj_7, li_8, lj_8, li_10, lj_10, li_11, lj_11, li_12, lj_12, li_24, lj_24, li_25, lj_25, li_50, lj_50, li_130, lj_130, li_160, lj_160, li_800, lj_800, li_4000, lj_4000, li_10000, lj_10000, li_16384, lj_16384, li_26, lj_26, li_32, lj_32, li_48, lj_48, li_57, lj_57, li_59, lj_59, li_97, lj_97, li_99, lj_99, li_122, lj_122, li_m1, lj_m1, li_m2, lj_m2, li_m3, lj_m3, li_m4, lj_m4, li_m5, lj_m5, li_m6, lj_m6] at * <;> omega))
theorem lf_c_M_moves_2 (x : Int32) (h_4 : ¬ (x = 0 ∨ x = 1)) : ((-2) : Int32) = sp_moves x := by (unfold sp_moves; rw [if_neg] <;> (simp only [true_or, or_true, false_or, or_false, true_and, and_true, false_and, and_false, not_true_eq_false, not_false_eq_true, i_lt, i_le, i_eq, j_lt, j_le, j_eq, Int32.toInt_toInt64, li_0, lj_0, li_1, lj_1, li_2, lj_2, li_3, lj_3, li_4, lj_4, li_5, lj_5, li_6, lj_6, li_7, lj_7, li_8, lj_8, li_10, lj_10, li_11, lj_11, li_12, lj_12, li_24, lj_24, li_25, lj_25, li_50, lj_50, li_130, lj_130, li_160, lj_160, li_800, lj_800, li_4000, lj_4000, li_10000, lj_10000, li_16384, lj_16384, li_26, lj_26, li_32, lj_32, li_48, lj_48, li_57, lj_57, li_59, lj_59, li_97, lj_97, li_99, lj_99, li_122, lj_122, li_m1, lj_m1, li_m2, lj_m2, li_m3, lj_m3, li_m4, lj_m4, li_m5, lj_m5, li_m6, lj_m6] at * <;> omega))
set_option maxHeartbeats 4000000 in
set_option maxRecDepth 100000 in
theorem c_M_moves (l : Launch) (g : va_G) (cT : Nat → ClassId) (sz : Nat) (y : Nat) (qq : Nat → Nat) (z12 : Int32) (z14 : Int32) (z15 : Int32) (z16 : Int32) (z17 : Int32) (z19 : Int32) (z21 : Int32) (z22 : Int32) (z23 : Int32) (z24 : Int32) (z26 : Int32) (z30 : Int32) (x : Int32)  : Ctr l g cT sz yX12_moves wsX12_moves rm_c_M_moves [.ref y, .int x] [(y, .inr (12, [.ref (qq 0), .ref (qq 1), .ref (qq 2), .ref (qq 3), .ref (qq 4), .ref (qq 5), .int 0, .ref (qq 7), .ref (qq 8), .ref (qq 9), .ref (qq 10), .ref (qq 11), .int z12, .ref (qq 13), .int z14, .int z15, .int z16, .int z17, .ref (qq 18), .int z19, .ref (qq 20), .int z21, .int z22, .int z23, .int z24, .ref (qq 25), .int z26, .ref (qq 27), .ref (qq 28), .ref (qq 29), .int z30, .ref (qq 31), .ref (qq 32), .ref (qq 33), .ref (qq 34), .ref (qq 35), .ref (qq 36), .ref (qq 37), .ref (qq 38), .ref (qq 39), .ref (qq 40), .ref (qq 41), .ref (qq 42)])), ((qq 7), .inl (cT 0, 40, .inl (fun _ => 0)))] (QI g (fun (r : Int32) (u : Unit) => r = sp_moves x) (fun (u : Unit) => [])) 0 0 := by
  refine mk_ctr (cc := cX12_moves) (maxL := 4) (ret := (some .int)) (by decide) rfl (Nat.le_of_ble_eq_true rfl) ?_
  intro p e s m args below meth c A Q hx hb hr hts hown hlocks hin hml hP hK hD hN hZ hA hS hQ ls hl
  have hl : lv_has ls 4 [(0, .ref y), (1, .int x)] := hl
  obtain ⟨H, hH⟩ : ∃ H : Heap, H = s.heap := ⟨_, rfl⟩
  obtain ⟨locs, hlo⟩ : ∃ x : List Loc, x = [] := ⟨_, rfl⟩
  rw [← hH] at hP
  have hS : va_S A s.heap H locs := by rw [hH, hlo]; exact hS
  have hgo : W p l e rm_c_M_moves s m args below meth c H locs 0 0 Q (F0 m 0 ls []) := by
    clear hH hlo
    refine lv_iload_n hx hb dX12_moves_0 rfl (lv_at hl 1 rfl) ?_
    refine cp_i (va_runS (As := [.int x]) (rest := []) ⟨hx, hb, hml, hown, hts⟩ (c_M_isReader l g cT H.size x) (va_cwS 1 hts gX12_moves_X12_isReader rfl rfl rfl yd_X12_isReader.2 ⟨(Nat.le_of_ble_eq_true rfl), (Nat.le_of_ble_eq_true rfl)⟩) (preS (ws := []) (wc := []) rfl (fun _ _ h => by simp at h) (va_D_nil (A := A)) hK hN hZ hS hA [] rfl rfl) rfl rfl hl.1 rfl (lv_room (Nat.le_of_ble_eq_true rfl)) dX12_moves_1 ⟨(Nat.le_of_ble_eq_true rfl), (Nat.le_of_ble_eq_true rfl)⟩) hP hS hA (fun r_1 u H locs h_2 hP hS => ?_)
    rcases h_2 with ⟨rfl, h_3⟩ | ⟨rfl, h_4⟩
    · skip
      rcases h_3 with rfl | rfl
      · skip
        refine if_ne_t hx hb 10 dX12_moves_4 (by decide) (by decide) ?_
        refine lv_aload_n hx hb dX12_moves_10 rfl (lv_at hl 0 rfl) ?_
        refine lv_iload_n hx hb dX12_moves_11 rfl (lv_at hl 1 rfl) ?_
        refine cj_i 0 0 (wr := []) (va_runV (As := [.int 0]) (rest := []) ⟨hx, hb, hml, hown, hts⟩ (c_M_fault l g cT H.size y qq z12 z14 z15 z16 z17 z19 z21 z22 z23 z24 z26 z30 0) (cwV 1 hts gX12_moves_X12_fault rfl rfl rfl yd_X12_fault ⟨(Nat.le_of_ble_eq_true rfl), (Nat.le_of_ble_eq_true rfl)⟩) (preV (wc := [(y, .inr (12, [.ref (qq 0), .ref (qq 1), .ref (qq 2), .ref (qq 3), .ref (qq 4), .ref (qq 5), .int 0, .ref (qq 7), .ref (qq 8), .ref (qq 9), .ref (qq 10), .ref (qq 11), .int z12, .ref (qq 13), .int z14, .int z15, .int z16, .int z17, .ref (qq 18), .int z19, .ref (qq 20), .int z21, .int z22, .int z23, .int z24, .ref (qq 25), .int z26, .ref (qq 27), .ref (qq 28), .ref (qq 29), .int z30, .ref (qq 31), .ref (qq 32), .ref (qq 33), .ref (qq 34), .ref (qq 35), .ref (qq 36), .ref (qq 37), .ref (qq 38), .ref (qq 39), .ref (qq 40), .ref (qq 41), .ref (qq 42)])), ((qq 7), .inl (cT 0, 40, .inl (fun _ => 0)))]) rfl hP hD hK hN hZ hS hA [0, 1] rfl (by decide) (ci := 12) (q0 := 0) rfl rfl) rfl rfl hl.1 rfl (lv_room (Nat.le_of_ble_eq_true rfl)) dX12_moves_12 ⟨(Nat.le_of_ble_eq_true rfl), (Nat.le_of_ble_eq_true rfl)⟩) hP hD hS hA [0, 1] [] rfl rfl (by decide) (by decide) (Nat.le_of_ble_eq_true rfl) (Nat.le_of_ble_eq_true rfl) (fun r_5 u H locs h_6 hP hD hS => ?_)
        have hP : va_P g vwCl [] H := hP
        have hD : va_D A [] := hD
        subst h_6
        refine tI 0 (by decide) ?_
        refine lv_iconst (v := (-1)) hx hb dX12_moves_15 (by decide) ?_
        refine icmp_eq_f hx hb dX12_moves_16 22 (by decide) (by decide) ?_
        refine lv_bipush (v := (-4)) hx hb dX12_moves_19 (by decide) ?_
        exact rt_i hx hb hr hlocks hQ hP hD hS () [] dX12_moves_21 rfl (Nat.le_of_ble_eq_true rfl) (Nat.le_of_ble_eq_true rfl) rfl (by decide) lf_c_M_moves_0
      · skip
        refine if_ne_t hx hb 10 dX12_moves_4 (by decide) (by decide) ?_
        refine lv_aload_n hx hb dX12_moves_10 rfl (lv_at hl 0 rfl) ?_
        refine lv_iload_n hx hb dX12_moves_11 rfl (lv_at hl 1 rfl) ?_
        refine cj_i 0 0 (wr := []) (va_runV (As := [.int 1]) (rest := []) ⟨hx, hb, hml, hown, hts⟩ (c_M_fault l g cT H.size y qq z12 z14 z15 z16 z17 z19 z21 z22 z23 z24 z26 z30 1) (cwV 1 hts gX12_moves_X12_fault rfl rfl rfl yd_X12_fault ⟨(Nat.le_of_ble_eq_true rfl), (Nat.le_of_ble_eq_true rfl)⟩) (preV (wc := [(y, .inr (12, [.ref (qq 0), .ref (qq 1), .ref (qq 2), .ref (qq 3), .ref (qq 4), .ref (qq 5), .int 0, .ref (qq 7), .ref (qq 8), .ref (qq 9), .ref (qq 10), .ref (qq 11), .int z12, .ref (qq 13), .int z14, .int z15, .int z16, .int z17, .ref (qq 18), .int z19, .ref (qq 20), .int z21, .int z22, .int z23, .int z24, .ref (qq 25), .int z26, .ref (qq 27), .ref (qq 28), .ref (qq 29), .int z30, .ref (qq 31), .ref (qq 32), .ref (qq 33), .ref (qq 34), .ref (qq 35), .ref (qq 36), .ref (qq 37), .ref (qq 38), .ref (qq 39), .ref (qq 40), .ref (qq 41), .ref (qq 42)])), ((qq 7), .inl (cT 0, 40, .inl (fun _ => 0)))]) rfl hP hD hK hN hZ hS hA [0, 1] rfl (by decide) (ci := 12) (q0 := 0) rfl rfl) rfl rfl hl.1 rfl (lv_room (Nat.le_of_ble_eq_true rfl)) dX12_moves_12 ⟨(Nat.le_of_ble_eq_true rfl), (Nat.le_of_ble_eq_true rfl)⟩) hP hD hS hA [0, 1] [] rfl rfl (by decide) (by decide) (Nat.le_of_ble_eq_true rfl) (Nat.le_of_ble_eq_true rfl) (fun r_7 u H locs h_8 hP hD hS => ?_)
        have hP : va_P g vwCl [] H := hP
        have hD : va_D A [] := hD
        subst h_8
        refine tI 0 (by decide) ?_
        refine lv_iconst (v := (-1)) hx hb dX12_moves_15 (by decide) ?_
        refine icmp_eq_f hx hb dX12_moves_16 22 (by decide) (by decide) ?_
        refine lv_bipush (v := (-4)) hx hb dX12_moves_19 (by decide) ?_
        exact rt_i hx hb hr hlocks hQ hP hD hS () [] dX12_moves_21 rfl (Nat.le_of_ble_eq_true rfl) (Nat.le_of_ble_eq_true rfl) rfl (by decide) lf_c_M_moves_1
    · skip
      refine if_ne_f hx hb dX12_moves_4 10 (by decide) (by decide) ?_
      refine lv_bipush (v := (-2)) hx hb dX12_moves_7 (by decide) ?_
      exact rt_i hx hb hr hlocks hQ hP hD hS () [] dX12_moves_9 rfl (Nat.le_of_ble_eq_true rfl) (Nat.le_of_ble_eq_true rfl) rfl (by decide) (lf_c_M_moves_2 x h_4)
  rw [hH, hlo] at hgo
  exact hgo
theorem hi_X12_move_X12 : ∀ w ∈ wsX120, w ∈ wsX12_move := fun _ h => List.mem_cons_of_mem _ (List.mem_append_right _ h)
theorem yd_X12_isState : yX12_isState.cls = RX12 ∧ yX12_isState.cls ≠ "java/lang/invoke/MethodHandle" ∧ yX12_isState.cls ≠ "java/lang/invoke/VarHandle" ∧ (parseMethodDescriptor yX12_isState.desc).map (fun d => d.parameters.length) = some 2 := by decide +kernel
theorem yd_X12_at0 : yX12_at0.cls = RX12 ∧ yX12_at0.cls ≠ "java/lang/invoke/MethodHandle" ∧ yX12_at0.cls ≠ "java/lang/invoke/VarHandle" ∧ (parseMethodDescriptor yX12_at0.desc).map (fun d => d.parameters.length) = some 3 := by decide +kernel
abbrev rm_c_M_move : Room := { frames := 3, cells := 0, slots := 0, locals := 67 }
theorem lf_c_M_move_0 (z : Int32) (h_7 : 0 ≤ z.toInt64 ∧ z.toInt64 ≤ 4) : z = 0 ∨ z = 1 ∨ z = 2 ∨ z = 3 ∨ z = 4 := by (simp only [true_or, or_true, false_or, or_false, true_and, and_true, false_and, and_false, not_true_eq_false, not_false_eq_true, i_lt, i_le, i_eq, j_lt, j_le, j_eq, Int32.toInt_toInt64, li_0, lj_0, li_1, lj_1, li_2, lj_2, li_3, lj_3, li_4, lj_4, li_5, lj_5, li_6, lj_6, li_7, lj_7, li_8, lj_8, li_10, lj_10, li_11, lj_11, li_12, lj_12, li_24, lj_24, li_25, lj_25, li_50, lj_50, li_130, lj_130, li_160, lj_160, li_800, lj_800, li_4000, lj_4000, li_10000, lj_10000, li_16384, lj_16384, li_26, lj_26, li_32, lj_32, li_48, lj_48, li_57, lj_57, li_59, lj_59, li_97, lj_97, li_99, lj_99, li_122, lj_122, li_m1, lj_m1, li_m2, lj_m2, li_m3, lj_m3, li_m4, lj_m4, li_m5, lj_m5, li_m6, lj_m6] at * <;> omega)
theorem lf_c_M_move_1 (w : Int32) (h_11 : 0 ≤ w.toInt64 ∧ w.toInt64 ≤ 2) : ((-1) : Int32) = sp_move 0 0 0 w := by (unfold sp_move; rw [if_pos, if_neg] <;> (simp only [true_or, or_true, false_or, or_false, true_and, and_true, false_and, and_false, not_true_eq_false, not_false_eq_true, i_lt, i_le, i_eq, j_lt, j_le, j_eq, Int32.toInt_toInt64, li_0, lj_0, li_1, lj_1, li_2, lj_2, li_3, lj_3, li_4, lj_4, li_5, lj_5, li_6, lj_6, li_7, lj_7, li_8, lj_8, li_10, lj_10, li_11, lj_11, li_12, lj_12, li_24, lj_24, li_25, lj_25, li_50, lj_50, li_130, lj_130, li_160, lj_160, li_800, lj_800, li_4000, lj_4000, li_10000, lj_10000, li_16384, lj_16384, li_26, lj_26, li_32, lj_32, li_48, lj_48, li_57, lj_57, li_59, lj_59, li_97, lj_97, li_99, lj_99, li_122, lj_122, li_m1, lj_m1, li_m2, lj_m2, li_m3, lj_m3, li_m4, lj_m4, li_m5, lj_m5, li_m6, lj_m6] at * <;> omega))
theorem lf_c_M_move_2 (w : Int32) (h_12 : ¬ (0 ≤ w.toInt64 ∧ w.toInt64 ≤ 2)) : ((-3) : Int32) = sp_move 0 0 0 w := by (unfold sp_move; rw [if_pos, if_pos] <;> (simp only [true_or, or_true, false_or, or_false, true_and, and_true, false_and, and_false, not_true_eq_false, not_false_eq_true, i_lt, i_le, i_eq, j_lt, j_le, j_eq, Int32.toInt_toInt64, li_0, lj_0, li_1, lj_1, li_2, lj_2, li_3, lj_3, li_4, lj_4, li_5, lj_5, li_6, lj_6, li_7, lj_7, li_8, lj_8, li_10, lj_10, li_11, lj_11, li_12, lj_12, li_24, lj_24, li_25, lj_25, li_50, lj_50, li_130, lj_130, li_160, lj_160, li_800, lj_800, li_4000, lj_4000, li_10000, lj_10000, li_16384, lj_16384, li_26, lj_26, li_32, lj_32, li_48, lj_48, li_57, lj_57, li_59, lj_59, li_97, lj_97, li_99, lj_99, li_122, lj_122, li_m1, lj_m1, li_m2, lj_m2, li_m3, lj_m3, li_m4, lj_m4, li_m5, lj_m5, li_m6, lj_m6] at * <;> omega))
theorem lf_c_M_move_3 (w : Int32) (h_17 : 0 ≤ w.toInt64 ∧ w.toInt64 ≤ 2) : ((-1) : Int32) = sp_move 0 0 1 w := by (unfold sp_move; rw [if_pos, if_neg] <;> (simp only [true_or, or_true, false_or, or_false, true_and, and_true, false_and, and_false, not_true_eq_false, not_false_eq_true, i_lt, i_le, i_eq, j_lt, j_le, j_eq, Int32.toInt_toInt64, li_0, lj_0, li_1, lj_1, li_2, lj_2, li_3, lj_3, li_4, lj_4, li_5, lj_5, li_6, lj_6, li_7, lj_7, li_8, lj_8, li_10, lj_10, li_11, lj_11, li_12, lj_12, li_24, lj_24, li_25, lj_25, li_50, lj_50, li_130, lj_130, li_160, lj_160, li_800, lj_800, li_4000, lj_4000, li_10000, lj_10000, li_16384, lj_16384, li_26, lj_26, li_32, lj_32, li_48, lj_48, li_57, lj_57, li_59, lj_59, li_97, lj_97, li_99, lj_99, li_122, lj_122, li_m1, lj_m1, li_m2, lj_m2, li_m3, lj_m3, li_m4, lj_m4, li_m5, lj_m5, li_m6, lj_m6] at * <;> omega))
theorem lf_c_M_move_4 (w : Int32) (h_18 : ¬ (0 ≤ w.toInt64 ∧ w.toInt64 ≤ 2)) : ((-3) : Int32) = sp_move 0 0 1 w := by (unfold sp_move; rw [if_pos, if_pos] <;> (simp only [true_or, or_true, false_or, or_false, true_and, and_true, false_and, and_false, not_true_eq_false, not_false_eq_true, i_lt, i_le, i_eq, j_lt, j_le, j_eq, Int32.toInt_toInt64, li_0, lj_0, li_1, lj_1, li_2, lj_2, li_3, lj_3, li_4, lj_4, li_5, lj_5, li_6, lj_6, li_7, lj_7, li_8, lj_8, li_10, lj_10, li_11, lj_11, li_12, lj_12, li_24, lj_24, li_25, lj_25, li_50, lj_50, li_130, lj_130, li_160, lj_160, li_800, lj_800, li_4000, lj_4000, li_10000, lj_10000, li_16384, lj_16384, li_26, lj_26, li_32, lj_32, li_48, lj_48, li_57, lj_57, li_59, lj_59, li_97, lj_97, li_99, lj_99, li_122, lj_122, li_m1, lj_m1, li_m2, lj_m2, li_m3, lj_m3, li_m4, lj_m4, li_m5, lj_m5, li_m6, lj_m6] at * <;> omega))
theorem lf_c_M_move_5 (w : Int32) (h_23 : 0 ≤ w.toInt64 ∧ w.toInt64 ≤ 2) : ((-1) : Int32) = sp_move 0 0 2 w := by (unfold sp_move; rw [if_pos, if_neg] <;> (simp only [true_or, or_true, false_or, or_false, true_and, and_true, false_and, and_false, not_true_eq_false, not_false_eq_true, i_lt, i_le, i_eq, j_lt, j_le, j_eq, Int32.toInt_toInt64, li_0, lj_0, li_1, lj_1, li_2, lj_2, li_3, lj_3, li_4, lj_4, li_5, lj_5, li_6, lj_6, li_7, lj_7, li_8, lj_8, li_10, lj_10, li_11, lj_11, li_12, lj_12, li_24, lj_24, li_25, lj_25, li_50, lj_50, li_130, lj_130, li_160, lj_160, li_800, lj_800, li_4000, lj_4000, li_10000, lj_10000, li_16384, lj_16384, li_26, lj_26, li_32, lj_32, li_48, lj_48, li_57, lj_57, li_59, lj_59, li_97, lj_97, li_99, lj_99, li_122, lj_122, li_m1, lj_m1, li_m2, lj_m2, li_m3, lj_m3, li_m4, lj_m4, li_m5, lj_m5, li_m6, lj_m6] at * <;> omega))
theorem lf_c_M_move_6 (w : Int32) (h_24 : ¬ (0 ≤ w.toInt64 ∧ w.toInt64 ≤ 2)) : ((-3) : Int32) = sp_move 0 0 2 w := by (unfold sp_move; rw [if_pos, if_pos] <;> (simp only [true_or, or_true, false_or, or_false, true_and, and_true, false_and, and_false, not_true_eq_false, not_false_eq_true, i_lt, i_le, i_eq, j_lt, j_le, j_eq, Int32.toInt_toInt64, li_0, lj_0, li_1, lj_1, li_2, lj_2, li_3, lj_3, li_4, lj_4, li_5, lj_5, li_6, lj_6, li_7, lj_7, li_8, lj_8, li_10, lj_10, li_11, lj_11, li_12, lj_12, li_24, lj_24, li_25, lj_25, li_50, lj_50, li_130, lj_130, li_160, lj_160, li_800, lj_800, li_4000, lj_4000, li_10000, lj_10000, li_16384, lj_16384, li_26, lj_26, li_32, lj_32, li_48, lj_48, li_57, lj_57, li_59, lj_59, li_97, lj_97, li_99, lj_99, li_122, lj_122, li_m1, lj_m1, li_m2, lj_m2, li_m3, lj_m3, li_m4, lj_m4, li_m5, lj_m5, li_m6, lj_m6] at * <;> omega))
theorem lf_c_M_move_7 (w : Int32) (h_29 : 0 ≤ w.toInt64 ∧ w.toInt64 ≤ 2) : ((-1) : Int32) = sp_move 0 0 3 w := by (unfold sp_move; rw [if_pos, if_neg] <;> (simp only [true_or, or_true, false_or, or_false, true_and, and_true, false_and, and_false, not_true_eq_false, not_false_eq_true, i_lt, i_le, i_eq, j_lt, j_le, j_eq, Int32.toInt_toInt64, li_0, lj_0, li_1, lj_1, li_2, lj_2, li_3, lj_3, li_4, lj_4, li_5, lj_5, li_6, lj_6, li_7, lj_7, li_8, lj_8, li_10, lj_10, li_11, lj_11, li_12, lj_12, li_24, lj_24, li_25, lj_25, li_50, lj_50, li_130, lj_130, li_160, lj_160, li_800, lj_800, li_4000, lj_4000, li_10000, lj_10000, li_16384, lj_16384, li_26, lj_26, li_32, lj_32, li_48, lj_48, li_57, lj_57, li_59, lj_59, li_97, lj_97, li_99, lj_99, li_122, lj_122, li_m1, lj_m1, li_m2, lj_m2, li_m3, lj_m3, li_m4, lj_m4, li_m5, lj_m5, li_m6, lj_m6] at * <;> omega))
theorem lf_c_M_move_8 (w : Int32) (h_30 : ¬ (0 ≤ w.toInt64 ∧ w.toInt64 ≤ 2)) : ((-3) : Int32) = sp_move 0 0 3 w := by (unfold sp_move; rw [if_pos, if_pos] <;> (simp only [true_or, or_true, false_or, or_false, true_and, and_true, false_and, and_false, not_true_eq_false, not_false_eq_true, i_lt, i_le, i_eq, j_lt, j_le, j_eq, Int32.toInt_toInt64, li_0, lj_0, li_1, lj_1, li_2, lj_2, li_3, lj_3, li_4, lj_4, li_5, lj_5, li_6, lj_6, li_7, lj_7, li_8, lj_8, li_10, lj_10, li_11, lj_11, li_12, lj_12, li_24, lj_24, li_25, lj_25, li_50, lj_50, li_130, lj_130, li_160, lj_160, li_800, lj_800, li_4000, lj_4000, li_10000, lj_10000, li_16384, lj_16384, li_26, lj_26, li_32, lj_32, li_48, lj_48, li_57, lj_57, li_59, lj_59, li_97, lj_97, li_99, lj_99, li_122, lj_122, li_m1, lj_m1, li_m2, lj_m2, li_m3, lj_m3, li_m4, lj_m4, li_m5, lj_m5, li_m6, lj_m6] at * <;> omega))
theorem lf_c_M_move_9 (w : Int32) (h_35 : 0 ≤ w.toInt64 ∧ w.toInt64 ≤ 2) : ((-1) : Int32) = sp_move 0 0 4 w := by (unfold sp_move; rw [if_pos, if_neg] <;> (simp only [true_or, or_true, false_or, or_false, true_and, and_true, false_and, and_false, not_true_eq_false, not_false_eq_true, i_lt, i_le, i_eq, j_lt, j_le, j_eq, Int32.toInt_toInt64, li_0, lj_0, li_1, lj_1, li_2, lj_2, li_3, lj_3, li_4, lj_4, li_5, lj_5, li_6, lj_6, li_7, lj_7, li_8, lj_8, li_10, lj_10, li_11, lj_11, li_12, lj_12, li_24, lj_24, li_25, lj_25, li_50, lj_50, li_130, lj_130, li_160, lj_160, li_800, lj_800, li_4000, lj_4000, li_10000, lj_10000, li_16384, lj_16384, li_26, lj_26, li_32, lj_32, li_48, lj_48, li_57, lj_57, li_59, lj_59, li_97, lj_97, li_99, lj_99, li_122, lj_122, li_m1, lj_m1, li_m2, lj_m2, li_m3, lj_m3, li_m4, lj_m4, li_m5, lj_m5, li_m6, lj_m6] at * <;> omega))
theorem lf_c_M_move_10 (w : Int32) (h_36 : ¬ (0 ≤ w.toInt64 ∧ w.toInt64 ≤ 2)) : ((-3) : Int32) = sp_move 0 0 4 w := by (unfold sp_move; rw [if_pos, if_pos] <;> (simp only [true_or, or_true, false_or, or_false, true_and, and_true, false_and, and_false, not_true_eq_false, not_false_eq_true, i_lt, i_le, i_eq, j_lt, j_le, j_eq, Int32.toInt_toInt64, li_0, lj_0, li_1, lj_1, li_2, lj_2, li_3, lj_3, li_4, lj_4, li_5, lj_5, li_6, lj_6, li_7, lj_7, li_8, lj_8, li_10, lj_10, li_11, lj_11, li_12, lj_12, li_24, lj_24, li_25, lj_25, li_50, lj_50, li_130, lj_130, li_160, lj_160, li_800, lj_800, li_4000, lj_4000, li_10000, lj_10000, li_16384, lj_16384, li_26, lj_26, li_32, lj_32, li_48, lj_48, li_57, lj_57, li_59, lj_59, li_97, lj_97, li_99, lj_99, li_122, lj_122, li_m1, lj_m1, li_m2, lj_m2, li_m3, lj_m3, li_m4, lj_m4, li_m5, lj_m5, li_m6, lj_m6] at * <;> omega))
theorem lf_c_M_move_11 (z : Int32) (w : Int32) (h_8 : ¬ (0 ≤ z.toInt64 ∧ z.toInt64 ≤ 4)) : ((-2) : Int32) = sp_move 0 0 z w := by (unfold sp_move; rw [if_neg] <;> (simp only [true_or, or_true, false_or, or_false, true_and, and_true, false_and, and_false, not_true_eq_false, not_false_eq_true, i_lt, i_le, i_eq, j_lt, j_le, j_eq, Int32.toInt_toInt64, li_0, lj_0, li_1, lj_1, li_2, lj_2, li_3, lj_3, li_4, lj_4, li_5, lj_5, li_6, lj_6, li_7, lj_7, li_8, lj_8, li_10, lj_10, li_11, lj_11, li_12, lj_12, li_24, lj_24, li_25, lj_25, li_50, lj_50, li_130, lj_130, li_160, lj_160, li_800, lj_800, li_4000, lj_4000, li_10000, lj_10000, li_16384, lj_16384, li_26, lj_26, li_32, lj_32, li_48, lj_48, li_57, lj_57, li_59, lj_59, li_97, lj_97, li_99, lj_99, li_122, lj_122, li_m1, lj_m1, li_m2, lj_m2, li_m3, lj_m3, li_m4, lj_m4, li_m5, lj_m5, li_m6, lj_m6] at * <;> omega))
theorem lf_c_M_move_12 (z : Int32) (h_41 : 0 ≤ z.toInt64 ∧ z.toInt64 ≤ 4) : z = 0 ∨ z = 1 ∨ z = 2 ∨ z = 3 ∨ z = 4 := by (simp only [true_or, or_true, false_or, or_false, true_and, and_true, false_and, and_false, not_true_eq_false, not_false_eq_true, i_lt, i_le, i_eq, j_lt, j_le, j_eq, Int32.toInt_toInt64, li_0, lj_0, li_1, lj_1, li_2, lj_2, li_3, lj_3, li_4, lj_4, li_5, lj_5, li_6, lj_6, li_7, lj_7, li_8, lj_8, li_10, lj_10, li_11, lj_11, li_12, lj_12, li_24, lj_24, li_25, lj_25, li_50, lj_50, li_130, lj_130, li_160, lj_160, li_800, lj_800, li_4000, lj_4000, li_10000, lj_10000, li_16384, lj_16384, li_26, lj_26, li_32, lj_32, li_48, lj_48, li_57, lj_57, li_59, lj_59, li_97, lj_97, li_99, lj_99, li_122, lj_122, li_m1, lj_m1, li_m2, lj_m2, li_m3, lj_m3, li_m4, lj_m4, li_m5, lj_m5, li_m6, lj_m6] at * <;> omega)
theorem lf_c_M_move_13 (w : Int32) (h_45 : 0 ≤ w.toInt64 ∧ w.toInt64 ≤ 2) : ((-1) : Int32) = sp_move 1 0 0 w := by (unfold sp_move; rw [if_pos, if_neg] <;> (simp only [true_or, or_true, false_or, or_false, true_and, and_true, false_and, and_false, not_true_eq_false, not_false_eq_true, i_lt, i_le, i_eq, j_lt, j_le, j_eq, Int32.toInt_toInt64, li_0, lj_0, li_1, lj_1, li_2, lj_2, li_3, lj_3, li_4, lj_4, li_5, lj_5, li_6, lj_6, li_7, lj_7, li_8, lj_8, li_10, lj_10, li_11, lj_11, li_12, lj_12, li_24, lj_24, li_25, lj_25, li_50, lj_50, li_130, lj_130, li_160, lj_160, li_800, lj_800, li_4000, lj_4000, li_10000, lj_10000, li_16384, lj_16384, li_26, lj_26, li_32, lj_32, li_48, lj_48, li_57, lj_57, li_59, lj_59, li_97, lj_97, li_99, lj_99, li_122, lj_122, li_m1, lj_m1, li_m2, lj_m2, li_m3, lj_m3, li_m4, lj_m4, li_m5, lj_m5, li_m6, lj_m6] at * <;> omega))
theorem lf_c_M_move_14 (w : Int32) (h_46 : ¬ (0 ≤ w.toInt64 ∧ w.toInt64 ≤ 2)) : ((-3) : Int32) = sp_move 1 0 0 w := by (unfold sp_move; rw [if_pos, if_pos] <;> (simp only [true_or, or_true, false_or, or_false, true_and, and_true, false_and, and_false, not_true_eq_false, not_false_eq_true, i_lt, i_le, i_eq, j_lt, j_le, j_eq, Int32.toInt_toInt64, li_0, lj_0, li_1, lj_1, li_2, lj_2, li_3, lj_3, li_4, lj_4, li_5, lj_5, li_6, lj_6, li_7, lj_7, li_8, lj_8, li_10, lj_10, li_11, lj_11, li_12, lj_12, li_24, lj_24, li_25, lj_25, li_50, lj_50, li_130, lj_130, li_160, lj_160, li_800, lj_800, li_4000, lj_4000, li_10000, lj_10000, li_16384, lj_16384, li_26, lj_26, li_32, lj_32, li_48, lj_48, li_57, lj_57, li_59, lj_59, li_97, lj_97, li_99, lj_99, li_122, lj_122, li_m1, lj_m1, li_m2, lj_m2, li_m3, lj_m3, li_m4, lj_m4, li_m5, lj_m5, li_m6, lj_m6] at * <;> omega))
theorem lf_c_M_move_15 (w : Int32) (h_51 : 0 ≤ w.toInt64 ∧ w.toInt64 ≤ 2) : ((-1) : Int32) = sp_move 1 0 1 w := by (unfold sp_move; rw [if_pos, if_neg] <;> (simp only [true_or, or_true, false_or, or_false, true_and, and_true, false_and, and_false, not_true_eq_false, not_false_eq_true, i_lt, i_le, i_eq, j_lt, j_le, j_eq, Int32.toInt_toInt64, li_0, lj_0, li_1, lj_1, li_2, lj_2, li_3, lj_3, li_4, lj_4, li_5, lj_5, li_6, lj_6, li_7, lj_7, li_8, lj_8, li_10, lj_10, li_11, lj_11, li_12, lj_12, li_24, lj_24, li_25, lj_25, li_50, lj_50, li_130, lj_130, li_160, lj_160, li_800, lj_800, li_4000, lj_4000, li_10000, lj_10000, li_16384, lj_16384, li_26, lj_26, li_32, lj_32, li_48, lj_48, li_57, lj_57, li_59, lj_59, li_97, lj_97, li_99, lj_99, li_122, lj_122, li_m1, lj_m1, li_m2, lj_m2, li_m3, lj_m3, li_m4, lj_m4, li_m5, lj_m5, li_m6, lj_m6] at * <;> omega))
theorem lf_c_M_move_16 (w : Int32) (h_52 : ¬ (0 ≤ w.toInt64 ∧ w.toInt64 ≤ 2)) : ((-3) : Int32) = sp_move 1 0 1 w := by (unfold sp_move; rw [if_pos, if_pos] <;> (simp only [true_or, or_true, false_or, or_false, true_and, and_true, false_and, and_false, not_true_eq_false, not_false_eq_true, i_lt, i_le, i_eq, j_lt, j_le, j_eq, Int32.toInt_toInt64, li_0, lj_0, li_1, lj_1, li_2, lj_2, li_3, lj_3, li_4, lj_4, li_5, lj_5, li_6, lj_6, li_7, lj_7, li_8, lj_8, li_10, lj_10, li_11, lj_11, li_12, lj_12, li_24, lj_24, li_25, lj_25, li_50, lj_50, li_130, lj_130, li_160, lj_160, li_800, lj_800, li_4000, lj_4000, li_10000, lj_10000, li_16384, lj_16384, li_26, lj_26, li_32, lj_32, li_48, lj_48, li_57, lj_57, li_59, lj_59, li_97, lj_97, li_99, lj_99, li_122, lj_122, li_m1, lj_m1, li_m2, lj_m2, li_m3, lj_m3, li_m4, lj_m4, li_m5, lj_m5, li_m6, lj_m6] at * <;> omega))
theorem lf_c_M_move_17 (w : Int32) (h_57 : 0 ≤ w.toInt64 ∧ w.toInt64 ≤ 2) : ((-1) : Int32) = sp_move 1 0 2 w := by (unfold sp_move; rw [if_pos, if_neg] <;> (simp only [true_or, or_true, false_or, or_false, true_and, and_true, false_and, and_false, not_true_eq_false, not_false_eq_true, i_lt, i_le, i_eq, j_lt, j_le, j_eq, Int32.toInt_toInt64, li_0, lj_0, li_1, lj_1, li_2, lj_2, li_3, lj_3, li_4, lj_4, li_5, lj_5, li_6, lj_6, li_7, lj_7, li_8, lj_8, li_10, lj_10, li_11, lj_11, li_12, lj_12, li_24, lj_24, li_25, lj_25, li_50, lj_50, li_130, lj_130, li_160, lj_160, li_800, lj_800, li_4000, lj_4000, li_10000, lj_10000, li_16384, lj_16384, li_26, lj_26, li_32, lj_32, li_48, lj_48, li_57, lj_57, li_59, lj_59, li_97, lj_97, li_99, lj_99, li_122, lj_122, li_m1, lj_m1, li_m2, lj_m2, li_m3, lj_m3, li_m4, lj_m4, li_m5, lj_m5, li_m6, lj_m6] at * <;> omega))
theorem lf_c_M_move_18 (w : Int32) (h_58 : ¬ (0 ≤ w.toInt64 ∧ w.toInt64 ≤ 2)) : ((-3) : Int32) = sp_move 1 0 2 w := by (unfold sp_move; rw [if_pos, if_pos] <;> (simp only [true_or, or_true, false_or, or_false, true_and, and_true, false_and, and_false, not_true_eq_false, not_false_eq_true, i_lt, i_le, i_eq, j_lt, j_le, j_eq, Int32.toInt_toInt64, li_0, lj_0, li_1, lj_1, li_2, lj_2, li_3, lj_3, li_4, lj_4, li_5, lj_5, li_6, lj_6, li_7, lj_7, li_8, lj_8, li_10, lj_10, li_11, lj_11, li_12, lj_12, li_24, lj_24, li_25, lj_25, li_50, lj_50, li_130, lj_130, li_160, lj_160, li_800, lj_800, li_4000, lj_4000, li_10000, lj_10000, li_16384, lj_16384, li_26, lj_26, li_32, lj_32, li_48, lj_48, li_57, lj_57, li_59, lj_59, li_97, lj_97, li_99, lj_99, li_122, lj_122, li_m1, lj_m1, li_m2, lj_m2, li_m3, lj_m3, li_m4, lj_m4, li_m5, lj_m5, li_m6, lj_m6] at * <;> omega))
theorem lf_c_M_move_19 (w : Int32) (h_63 : 0 ≤ w.toInt64 ∧ w.toInt64 ≤ 2) : ((-1) : Int32) = sp_move 1 0 3 w := by (unfold sp_move; rw [if_pos, if_neg] <;> (simp only [true_or, or_true, false_or, or_false, true_and, and_true, false_and, and_false, not_true_eq_false, not_false_eq_true, i_lt, i_le, i_eq, j_lt, j_le, j_eq, Int32.toInt_toInt64, li_0, lj_0, li_1, lj_1, li_2, lj_2, li_3, lj_3, li_4, lj_4, li_5, lj_5, li_6, lj_6, li_7, lj_7, li_8, lj_8, li_10, lj_10, li_11, lj_11, li_12, lj_12, li_24, lj_24, li_25, lj_25, li_50, lj_50, li_130, lj_130, li_160, lj_160, li_800, lj_800, li_4000, lj_4000, li_10000, lj_10000, li_16384, lj_16384, li_26, lj_26, li_32, lj_32, li_48, lj_48, li_57, lj_57, li_59, lj_59, li_97, lj_97, li_99, lj_99, li_122, lj_122, li_m1, lj_m1, li_m2, lj_m2, li_m3, lj_m3, li_m4, lj_m4, li_m5, lj_m5, li_m6, lj_m6] at * <;> omega))
theorem lf_c_M_move_20 (w : Int32) (h_64 : ¬ (0 ≤ w.toInt64 ∧ w.toInt64 ≤ 2)) : ((-3) : Int32) = sp_move 1 0 3 w := by (unfold sp_move; rw [if_pos, if_pos] <;> (simp only [true_or, or_true, false_or, or_false, true_and, and_true, false_and, and_false, not_true_eq_false, not_false_eq_true, i_lt, i_le, i_eq, j_lt, j_le, j_eq, Int32.toInt_toInt64, li_0, lj_0, li_1, lj_1, li_2, lj_2, li_3, lj_3, li_4, lj_4, li_5, lj_5, li_6, lj_6, li_7, lj_7, li_8, lj_8, li_10, lj_10, li_11, lj_11, li_12, lj_12, li_24, lj_24, li_25, lj_25, li_50, lj_50, li_130, lj_130, li_160, lj_160, li_800, lj_800, li_4000, lj_4000, li_10000, lj_10000, li_16384, lj_16384, li_26, lj_26, li_32, lj_32, li_48, lj_48, li_57, lj_57, li_59, lj_59, li_97, lj_97, li_99, lj_99, li_122, lj_122, li_m1, lj_m1, li_m2, lj_m2, li_m3, lj_m3, li_m4, lj_m4, li_m5, lj_m5, li_m6, lj_m6] at * <;> omega))
theorem lf_c_M_move_21 (w : Int32) (h_69 : 0 ≤ w.toInt64 ∧ w.toInt64 ≤ 2) : ((-1) : Int32) = sp_move 1 0 4 w := by (unfold sp_move; rw [if_pos, if_neg] <;> (simp only [true_or, or_true, false_or, or_false, true_and, and_true, false_and, and_false, not_true_eq_false, not_false_eq_true, i_lt, i_le, i_eq, j_lt, j_le, j_eq, Int32.toInt_toInt64, li_0, lj_0, li_1, lj_1, li_2, lj_2, li_3, lj_3, li_4, lj_4, li_5, lj_5, li_6, lj_6, li_7, lj_7, li_8, lj_8, li_10, lj_10, li_11, lj_11, li_12, lj_12, li_24, lj_24, li_25, lj_25, li_50, lj_50, li_130, lj_130, li_160, lj_160, li_800, lj_800, li_4000, lj_4000, li_10000, lj_10000, li_16384, lj_16384, li_26, lj_26, li_32, lj_32, li_48, lj_48, li_57, lj_57, li_59, lj_59, li_97, lj_97, li_99, lj_99, li_122, lj_122, li_m1, lj_m1, li_m2, lj_m2, li_m3, lj_m3, li_m4, lj_m4, li_m5, lj_m5, li_m6, lj_m6] at * <;> omega))
theorem lf_c_M_move_22 (w : Int32) (h_70 : ¬ (0 ≤ w.toInt64 ∧ w.toInt64 ≤ 2)) : ((-3) : Int32) = sp_move 1 0 4 w := by (unfold sp_move; rw [if_pos, if_pos] <;> (simp only [true_or, or_true, false_or, or_false, true_and, and_true, false_and, and_false, not_true_eq_false, not_false_eq_true, i_lt, i_le, i_eq, j_lt, j_le, j_eq, Int32.toInt_toInt64, li_0, lj_0, li_1, lj_1, li_2, lj_2, li_3, lj_3, li_4, lj_4, li_5, lj_5, li_6, lj_6, li_7, lj_7, li_8, lj_8, li_10, lj_10, li_11, lj_11, li_12, lj_12, li_24, lj_24, li_25, lj_25, li_50, lj_50, li_130, lj_130, li_160, lj_160, li_800, lj_800, li_4000, lj_4000, li_10000, lj_10000, li_16384, lj_16384, li_26, lj_26, li_32, lj_32, li_48, lj_48, li_57, lj_57, li_59, lj_59, li_97, lj_97, li_99, lj_99, li_122, lj_122, li_m1, lj_m1, li_m2, lj_m2, li_m3, lj_m3, li_m4, lj_m4, li_m5, lj_m5, li_m6, lj_m6] at * <;> omega))
theorem lf_c_M_move_23 (z : Int32) (w : Int32) (h_42 : ¬ (0 ≤ z.toInt64 ∧ z.toInt64 ≤ 4)) : ((-2) : Int32) = sp_move 1 0 z w := by (unfold sp_move; rw [if_neg] <;> (simp only [true_or, or_true, false_or, or_false, true_and, and_true, false_and, and_false, not_true_eq_false, not_false_eq_true, i_lt, i_le, i_eq, j_lt, j_le, j_eq, Int32.toInt_toInt64, li_0, lj_0, li_1, lj_1, li_2, lj_2, li_3, lj_3, li_4, lj_4, li_5, lj_5, li_6, lj_6, li_7, lj_7, li_8, lj_8, li_10, lj_10, li_11, lj_11, li_12, lj_12, li_24, lj_24, li_25, lj_25, li_50, lj_50, li_130, lj_130, li_160, lj_160, li_800, lj_800, li_4000, lj_4000, li_10000, lj_10000, li_16384, lj_16384, li_26, lj_26, li_32, lj_32, li_48, lj_48, li_57, lj_57, li_59, lj_59, li_97, lj_97, li_99, lj_99, li_122, lj_122, li_m1, lj_m1, li_m2, lj_m2, li_m3, lj_m3, li_m4, lj_m4, li_m5, lj_m5, li_m6, lj_m6] at * <;> omega))
theorem lf_c_M_move_24 (x : Int32) (q : Int32) (z : Int32) (w : Int32) (h_4 : ¬ ((x = 0 ∨ x = 1) ∧ q = 0)) : ((-2) : Int32) = sp_move x q z w := by (unfold sp_move; rw [if_neg] <;> (simp only [true_or, or_true, false_or, or_false, true_and, and_true, false_and, and_false, not_true_eq_false, not_false_eq_true, i_lt, i_le, i_eq, j_lt, j_le, j_eq, Int32.toInt_toInt64, li_0, lj_0, li_1, lj_1, li_2, lj_2, li_3, lj_3, li_4, lj_4, li_5, lj_5, li_6, lj_6, li_7, lj_7, li_8, lj_8, li_10, lj_10, li_11, lj_11, li_12, lj_12, li_24, lj_24, li_25, lj_25, li_50, lj_50, li_130, lj_130, li_160, lj_160, li_800, lj_800, li_4000, lj_4000, li_10000, lj_10000, li_16384, lj_16384, li_26, lj_26, li_32, lj_32, li_48, lj_48, li_57, lj_57, li_59, lj_59, li_97, lj_97, li_99, lj_99, li_122, lj_122, li_m1, lj_m1, li_m2, lj_m2, li_m3, lj_m3, li_m4, lj_m4, li_m5, lj_m5, li_m6, lj_m6] at * <;> omega))
set_option maxHeartbeats 4000000 in
set_option maxRecDepth 100000 in
theorem c_M_move (l : Launch) (g : va_G) (cT : Nat → ClassId) (sz : Nat) (y : Nat) (qq : Nat → Nat) (z6 : Int32) (z12 : Int32) (z14 : Int32) (z15 : Int32) (z16 : Int32) (z17 : Int32) (z19 : Int32) (z21 : Int32) (z22 : Int32) (z23 : Int32) (z24 : Int32) (z26 : Int32) (z30 : Int32) (x : Int32) (q : Int32) (z : Int32) (w : Int32)  : Ctr l g cT sz yX12_move wsX12_move rm_c_M_move [.ref y, .int x, .int q, .int z, .int w] [(y, .inr (12, [.ref (qq 0), .ref (qq 1), .ref (qq 2), .ref (qq 3), .ref (qq 4), .ref (qq 5), .int z6, .ref (qq 7), .ref (qq 8), .ref (qq 9), .ref (qq 10), .ref (qq 11), .int z12, .ref (qq 13), .int z14, .int z15, .int z16, .int z17, .ref (qq 18), .int z19, .ref (qq 20), .int z21, .int z22, .int z23, .int z24, .ref (qq 25), .int z26, .ref (qq 27), .ref (qq 28), .ref (qq 29), .int z30, .ref (qq 31), .ref (qq 32), .ref (qq 33), .ref (qq 34), .ref (qq 35), .ref (qq 36), .ref (qq 37), .ref (qq 38), .ref (qq 39), .ref (qq 40), .ref (qq 41), .ref (qq 42)])), ((qq 0), .inl (cT 0, 2, .inl (fun _ => 1))), ((qq 2), .inl (cT 0, 50, .inl (fun _ => (-1))))] (QI g (fun (r : Int32) (u : Unit) => r = sp_move x q z w) (fun (u : Unit) => [])) 0 0 := by
  refine mk_ctr (cc := cX12_move) (maxL := 6) (ret := (some .int)) (by decide) rfl (Nat.le_of_ble_eq_true rfl) ?_
  intro p e s m args below meth c A Q hx hb hr hts hown hlocks hin hml hP hK hD hN hZ hA hS hQ ls hl
  have hl : lv_has ls 6 [(0, .ref y), (1, .int x), (2, .int q), (3, .int z), (4, .int w)] := hl
  obtain ⟨H, hH⟩ : ∃ H : Heap, H = s.heap := ⟨_, rfl⟩
  obtain ⟨locs, hlo⟩ : ∃ x : List Loc, x = [] := ⟨_, rfl⟩
  rw [← hH] at hP
  have hS : va_S A s.heap H locs := by rw [hH, hlo]; exact hS
  have hgo : W p l e rm_c_M_move s m args below meth c H locs 0 0 Q (F0 m 0 ls []) := by
    clear hH hlo
    refine lv_aload_n hx hb dX12_move_0 rfl (lv_at hl 0 rfl) ?_
    refine lv_iload_n hx hb dX12_move_1 rfl (lv_at hl 1 rfl) ?_
    refine lv_iload_n hx hb dX12_move_2 rfl (lv_at hl 2 rfl) ?_
    refine cj_i 0 0 (wr := [((qq 2), .inl (cT 0, 50, .inl (fun _ => (-1))))]) (va_runV (As := [.int x, .int q]) (rest := []) ⟨hx, hb, hml, hown, hts⟩ (c_M_isState l g cT H.size y qq z6 z12 z14 z15 z16 z17 z19 z21 z22 z23 z24 z26 z30 x q) (cwV 2 hts gX12_move_X12_isState rfl rfl rfl yd_X12_isState ⟨(Nat.le_of_ble_eq_true rfl), (Nat.le_of_ble_eq_true rfl)⟩) (preV (wc := [(y, .inr (12, [.ref (qq 0), .ref (qq 1), .ref (qq 2), .ref (qq 3), .ref (qq 4), .ref (qq 5), .int z6, .ref (qq 7), .ref (qq 8), .ref (qq 9), .ref (qq 10), .ref (qq 11), .int z12, .ref (qq 13), .int z14, .int z15, .int z16, .int z17, .ref (qq 18), .int z19, .ref (qq 20), .int z21, .int z22, .int z23, .int z24, .ref (qq 25), .int z26, .ref (qq 27), .ref (qq 28), .ref (qq 29), .int z30, .ref (qq 31), .ref (qq 32), .ref (qq 33), .ref (qq 34), .ref (qq 35), .ref (qq 36), .ref (qq 37), .ref (qq 38), .ref (qq 39), .ref (qq 40), .ref (qq 41), .ref (qq 42)])), ((qq 0), .inl (cT 0, 2, .inl (fun _ => 1)))]) rfl hP hD hK hN hZ hS hA [0, 1] rfl (by decide) (ci := 12) (q0 := 0) rfl rfl) rfl rfl hl.1 rfl (lv_room (Nat.le_of_ble_eq_true rfl)) dX12_move_3 ⟨(Nat.le_of_ble_eq_true rfl), (Nat.le_of_ble_eq_true rfl)⟩) hP hD hS hA [0, 1] [2] rfl rfl (by decide) (by decide) (Nat.le_of_ble_eq_true rfl) (Nat.le_of_ble_eq_true rfl) (fun r_1 u H locs h_2 hP hD hS => ?_)
    have hP : va_P g vwCl [((qq 2), .inl (cT 0, 50, .inl (fun _ => (-1)))), (y, .inr (12, [.ref (qq 0), .ref (qq 1), .ref (qq 2), .ref (qq 3), .ref (qq 4), .ref (qq 5), .int z6, .ref (qq 7), .ref (qq 8), .ref (qq 9), .ref (qq 10), .ref (qq 11), .int z12, .ref (qq 13), .int z14, .int z15, .int z16, .int z17, .ref (qq 18), .int z19, .ref (qq 20), .int z21, .int z22, .int z23, .int z24, .ref (qq 25), .int z26, .ref (qq 27), .ref (qq 28), .ref (qq 29), .int z30, .ref (qq 31), .ref (qq 32), .ref (qq 33), .ref (qq 34), .ref (qq 35), .ref (qq 36), .ref (qq 37), .ref (qq 38), .ref (qq 39), .ref (qq 40), .ref (qq 41), .ref (qq 42)])), ((qq 0), .inl (cT 0, 2, .inl (fun _ => 1)))] H := hP
    have hD : va_D A [((qq 2), .inl (cT 0, 50, .inl (fun _ => (-1)))), (y, .inr (12, [.ref (qq 0), .ref (qq 1), .ref (qq 2), .ref (qq 3), .ref (qq 4), .ref (qq 5), .int z6, .ref (qq 7), .ref (qq 8), .ref (qq 9), .ref (qq 10), .ref (qq 11), .int z12, .ref (qq 13), .int z14, .int z15, .int z16, .int z17, .ref (qq 18), .int z19, .ref (qq 20), .int z21, .int z22, .int z23, .int z24, .ref (qq 25), .int z26, .ref (qq 27), .ref (qq 28), .ref (qq 29), .int z30, .ref (qq 31), .ref (qq 32), .ref (qq 33), .ref (qq 34), .ref (qq 35), .ref (qq 36), .ref (qq 37), .ref (qq 38), .ref (qq 39), .ref (qq 40), .ref (qq 41), .ref (qq 42)])), ((qq 0), .inl (cT 0, 2, .inl (fun _ => 1)))] := hD
    rcases h_2 with ⟨rfl, h_3⟩ | ⟨rfl, h_4⟩
    · skip
      obtain ⟨hx0, rfl⟩ := h_3
      rcases hx0 with rfl | rfl
      · skip
        refine if_eq_f hx hb dX12_move_6 21 (by decide) (by decide) ?_
        refine lv_iload_n hx hb dX12_move_9 rfl (lv_at hl 3 rfl) ?_
        refine lv_i2l (v := z.toInt64) hx hb dX12_move_10 rfl ?_
        refine lv_lconst (v := 0) hx hb dX12_move_11 (by decide) ?_
        refine lv_ldc2 (v := 4) hx hb hown (hts (.constantLong RX12 174 (4)) (by decide +kernel)) dX12_move_12 ?_
        refine cp_i (va_runS (As := [.long z.toInt64, .long 0, .long 4]) (rest := []) ⟨hx, hb, hml, hown, hts⟩ (c_M_in l g cT H.size z.toInt64 0 4) (va_cwS 3 hts gX12_move_X12_in rfl rfl rfl yd_X12_in.2 ⟨(Nat.le_of_ble_eq_true rfl), (Nat.le_of_ble_eq_true rfl)⟩) (preS (ws := []) (wc := []) rfl (fun _ _ h => by simp at h) (va_D_nil (A := A)) hK hN hZ hS hA [] rfl rfl) rfl rfl hl.1 rfl (lv_room (Nat.le_of_ble_eq_true rfl)) dX12_move_15 ⟨(Nat.le_of_ble_eq_true rfl), (Nat.le_of_ble_eq_true rfl)⟩) hP hS hA (fun r_5 u H locs h_6 hP hS => ?_)
        rcases h_6 with ⟨rfl, h_7⟩ | ⟨rfl, h_8⟩
        · skip
          rcases (lf_c_M_move_0 z h_7) with rfl | rfl | rfl | rfl | rfl
          · skip
            refine if_ne_t hx hb 24 dX12_move_18 (by decide) (by decide) ?_
            refine lv_iload hx hb dX12_move_24 (lv_at hl 4 rfl) ?_
            refine lv_i2l (v := w.toInt64) hx hb dX12_move_26 rfl ?_
            refine lv_lconst (v := 0) hx hb dX12_move_27 (by decide) ?_
            refine lv_ldc2 (v := 2) hx hb hown (hts (.constantLong RX12 176 (2)) (by decide +kernel)) dX12_move_28 ?_
            refine cp_i (va_runS (As := [.long w.toInt64, .long 0, .long 2]) (rest := []) ⟨hx, hb, hml, hown, hts⟩ (c_M_in l g cT H.size w.toInt64 0 2) (va_cwS 3 hts gX12_move_X12_in rfl rfl rfl yd_X12_in.2 ⟨(Nat.le_of_ble_eq_true rfl), (Nat.le_of_ble_eq_true rfl)⟩) (preS (ws := []) (wc := []) rfl (fun _ _ h => by simp at h) (va_D_nil (A := A)) hK hN hZ hS hA [] rfl rfl) rfl rfl hl.1 rfl (lv_room (Nat.le_of_ble_eq_true rfl)) dX12_move_31 ⟨(Nat.le_of_ble_eq_true rfl), (Nat.le_of_ble_eq_true rfl)⟩) hP hS hA (fun r_9 u H locs h_10 hP hS => ?_)
            rcases h_10 with ⟨rfl, h_11⟩ | ⟨rfl, h_12⟩
            · skip
              refine if_ne_t hx hb 40 dX12_move_34 (by decide) (by decide) ?_
              refine lv_iload_n hx hb dX12_move_40 rfl (lv_at hl 1 rfl) ?_
              refine lv_iload_n hx hb dX12_move_41 rfl (lv_at hl 2 rfl) ?_
              refine lv_iload_n hx hb dX12_move_42 rfl (lv_at hl 3 rfl) ?_
              refine cp_i (va_runS (As := [.int 0, .int 0, .int 0]) (rest := []) ⟨hx, hb, hml, hown, hts⟩ (c_M_at0 l g cT H.size 0 0 0) (va_cwS 3 hts gX12_move_X12_at0 rfl rfl rfl yd_X12_at0.2 ⟨(Nat.le_of_ble_eq_true rfl), (Nat.le_of_ble_eq_true rfl)⟩) (preS (ws := []) (wc := []) rfl (fun _ _ h => by simp at h) (va_D_nil (A := A)) hK hN hZ hS hA [] rfl rfl) rfl rfl hl.1 rfl (lv_room (Nat.le_of_ble_eq_true rfl)) dX12_move_43 ⟨(Nat.le_of_ble_eq_true rfl), (Nat.le_of_ble_eq_true rfl)⟩) hP hS hA (fun r_13 u H locs h_14 hP hS => ?_)
              subst h_14
              refine tI 0 (by decide) ?_
              refine lv_istore (lv' := [(5, .int 0), (0, .ref y), (1, .int 0), (2, .int 0), (3, .int 0), (4, .int w)]) hx hb dX12_move_46 hl (by decide) rfl (fun ls hl => ?_)
              refine lv_aload_n hx hb dX12_move_48 rfl (lv_at hl 1 rfl) ?_
              refine va_get (C := RX12) (T := TX12) (N := 43) (v := .ref (qq 2)) hx hb hts hi_X12_move_X12 hown hK hP 1 rfl rfl 2 (by decide) (hts (.fieldLink RX12 16 "BothWaysModel" "goTo" "[I") (by decide +kernel)) (fun _ h => h) rfl dX12_move_49 ?_
              refine lv_iload hx hb dX12_move_52 (lv_at hl 0 rfl) ?_
              refine w_iald (v := (-1)) hx hb hK hP 0 rfl dX12_move_54 (inC (by decide)) rfl ?_
              refine lv_iconst (v := (-1)) hx hb dX12_move_55 (by decide) ?_
              refine icmp_ne_f hx hb dX12_move_56 63 (by decide) (by decide) ?_
              refine lv_iconst (v := (-1)) hx hb dX12_move_59 (by decide) ?_
              refine lv_goto (tgt := 101) hx hb dX12_move_60 (by decide) ?_
              exact rt_i hx hb hr hlocks hQ hP hD hS () [] dX12_move_101 rfl (Nat.le_of_ble_eq_true rfl) (Nat.le_of_ble_eq_true rfl) rfl (by decide) (lf_c_M_move_1 w h_11)
            · skip
              refine if_ne_f hx hb dX12_move_34 40 (by decide) (by decide) ?_
              refine lv_bipush (v := (-3)) hx hb dX12_move_37 (by decide) ?_
              exact rt_i hx hb hr hlocks hQ hP hD hS () [] dX12_move_39 rfl (Nat.le_of_ble_eq_true rfl) (Nat.le_of_ble_eq_true rfl) rfl (by decide) (lf_c_M_move_2 w h_12)
          · skip
            refine if_ne_t hx hb 24 dX12_move_18 (by decide) (by decide) ?_
            refine lv_iload hx hb dX12_move_24 (lv_at hl 4 rfl) ?_
            refine lv_i2l (v := w.toInt64) hx hb dX12_move_26 rfl ?_
            refine lv_lconst (v := 0) hx hb dX12_move_27 (by decide) ?_
            refine lv_ldc2 (v := 2) hx hb hown (hts (.constantLong RX12 176 (2)) (by decide +kernel)) dX12_move_28 ?_
            refine cp_i (va_runS (As := [.long w.toInt64, .long 0, .long 2]) (rest := []) ⟨hx, hb, hml, hown, hts⟩ (c_M_in l g cT H.size w.toInt64 0 2) (va_cwS 3 hts gX12_move_X12_in rfl rfl rfl yd_X12_in.2 ⟨(Nat.le_of_ble_eq_true rfl), (Nat.le_of_ble_eq_true rfl)⟩) (preS (ws := []) (wc := []) rfl (fun _ _ h => by simp at h) (va_D_nil (A := A)) hK hN hZ hS hA [] rfl rfl) rfl rfl hl.1 rfl (lv_room (Nat.le_of_ble_eq_true rfl)) dX12_move_31 ⟨(Nat.le_of_ble_eq_true rfl), (Nat.le_of_ble_eq_true rfl)⟩) hP hS hA (fun r_15 u H locs h_16 hP hS => ?_)
            rcases h_16 with ⟨rfl, h_17⟩ | ⟨rfl, h_18⟩
            · skip
              refine if_ne_t hx hb 40 dX12_move_34 (by decide) (by decide) ?_
              refine lv_iload_n hx hb dX12_move_40 rfl (lv_at hl 1 rfl) ?_
              refine lv_iload_n hx hb dX12_move_41 rfl (lv_at hl 2 rfl) ?_
              refine lv_iload_n hx hb dX12_move_42 rfl (lv_at hl 3 rfl) ?_
              refine cp_i (va_runS (As := [.int 0, .int 0, .int 1]) (rest := []) ⟨hx, hb, hml, hown, hts⟩ (c_M_at0 l g cT H.size 0 0 1) (va_cwS 3 hts gX12_move_X12_at0 rfl rfl rfl yd_X12_at0.2 ⟨(Nat.le_of_ble_eq_true rfl), (Nat.le_of_ble_eq_true rfl)⟩) (preS (ws := []) (wc := []) rfl (fun _ _ h => by simp at h) (va_D_nil (A := A)) hK hN hZ hS hA [] rfl rfl) rfl rfl hl.1 rfl (lv_room (Nat.le_of_ble_eq_true rfl)) dX12_move_43 ⟨(Nat.le_of_ble_eq_true rfl), (Nat.le_of_ble_eq_true rfl)⟩) hP hS hA (fun r_19 u H locs h_20 hP hS => ?_)
              subst h_20
              refine tI 1 (by decide) ?_
              refine lv_istore (lv' := [(5, .int 1), (0, .ref y), (1, .int 0), (2, .int 0), (3, .int 1), (4, .int w)]) hx hb dX12_move_46 hl (by decide) rfl (fun ls hl => ?_)
              refine lv_aload_n hx hb dX12_move_48 rfl (lv_at hl 1 rfl) ?_
              refine va_get (C := RX12) (T := TX12) (N := 43) (v := .ref (qq 2)) hx hb hts hi_X12_move_X12 hown hK hP 1 rfl rfl 2 (by decide) (hts (.fieldLink RX12 16 "BothWaysModel" "goTo" "[I") (by decide +kernel)) (fun _ h => h) rfl dX12_move_49 ?_
              refine lv_iload hx hb dX12_move_52 (lv_at hl 0 rfl) ?_
              refine w_iald (v := (-1)) hx hb hK hP 0 rfl dX12_move_54 (inC (by decide)) rfl ?_
              refine lv_iconst (v := (-1)) hx hb dX12_move_55 (by decide) ?_
              refine icmp_ne_f hx hb dX12_move_56 63 (by decide) (by decide) ?_
              refine lv_iconst (v := (-1)) hx hb dX12_move_59 (by decide) ?_
              refine lv_goto (tgt := 101) hx hb dX12_move_60 (by decide) ?_
              exact rt_i hx hb hr hlocks hQ hP hD hS () [] dX12_move_101 rfl (Nat.le_of_ble_eq_true rfl) (Nat.le_of_ble_eq_true rfl) rfl (by decide) (lf_c_M_move_3 w h_17)
            · skip
              refine if_ne_f hx hb dX12_move_34 40 (by decide) (by decide) ?_
              refine lv_bipush (v := (-3)) hx hb dX12_move_37 (by decide) ?_
              exact rt_i hx hb hr hlocks hQ hP hD hS () [] dX12_move_39 rfl (Nat.le_of_ble_eq_true rfl) (Nat.le_of_ble_eq_true rfl) rfl (by decide) (lf_c_M_move_4 w h_18)
          · skip
            refine if_ne_t hx hb 24 dX12_move_18 (by decide) (by decide) ?_
            refine lv_iload hx hb dX12_move_24 (lv_at hl 4 rfl) ?_
            refine lv_i2l (v := w.toInt64) hx hb dX12_move_26 rfl ?_
            refine lv_lconst (v := 0) hx hb dX12_move_27 (by decide) ?_
            refine lv_ldc2 (v := 2) hx hb hown (hts (.constantLong RX12 176 (2)) (by decide +kernel)) dX12_move_28 ?_
            refine cp_i (va_runS (As := [.long w.toInt64, .long 0, .long 2]) (rest := []) ⟨hx, hb, hml, hown, hts⟩ (c_M_in l g cT H.size w.toInt64 0 2) (va_cwS 3 hts gX12_move_X12_in rfl rfl rfl yd_X12_in.2 ⟨(Nat.le_of_ble_eq_true rfl), (Nat.le_of_ble_eq_true rfl)⟩) (preS (ws := []) (wc := []) rfl (fun _ _ h => by simp at h) (va_D_nil (A := A)) hK hN hZ hS hA [] rfl rfl) rfl rfl hl.1 rfl (lv_room (Nat.le_of_ble_eq_true rfl)) dX12_move_31 ⟨(Nat.le_of_ble_eq_true rfl), (Nat.le_of_ble_eq_true rfl)⟩) hP hS hA (fun r_21 u H locs h_22 hP hS => ?_)
            rcases h_22 with ⟨rfl, h_23⟩ | ⟨rfl, h_24⟩
            · skip
              refine if_ne_t hx hb 40 dX12_move_34 (by decide) (by decide) ?_
              refine lv_iload_n hx hb dX12_move_40 rfl (lv_at hl 1 rfl) ?_
              refine lv_iload_n hx hb dX12_move_41 rfl (lv_at hl 2 rfl) ?_
              refine lv_iload_n hx hb dX12_move_42 rfl (lv_at hl 3 rfl) ?_
              refine cp_i (va_runS (As := [.int 0, .int 0, .int 2]) (rest := []) ⟨hx, hb, hml, hown, hts⟩ (c_M_at0 l g cT H.size 0 0 2) (va_cwS 3 hts gX12_move_X12_at0 rfl rfl rfl yd_X12_at0.2 ⟨(Nat.le_of_ble_eq_true rfl), (Nat.le_of_ble_eq_true rfl)⟩) (preS (ws := []) (wc := []) rfl (fun _ _ h => by simp at h) (va_D_nil (A := A)) hK hN hZ hS hA [] rfl rfl) rfl rfl hl.1 rfl (lv_room (Nat.le_of_ble_eq_true rfl)) dX12_move_43 ⟨(Nat.le_of_ble_eq_true rfl), (Nat.le_of_ble_eq_true rfl)⟩) hP hS hA (fun r_25 u H locs h_26 hP hS => ?_)
              subst h_26
              refine tI 2 (by decide) ?_
              refine lv_istore (lv' := [(5, .int 2), (0, .ref y), (1, .int 0), (2, .int 0), (3, .int 2), (4, .int w)]) hx hb dX12_move_46 hl (by decide) rfl (fun ls hl => ?_)
              refine lv_aload_n hx hb dX12_move_48 rfl (lv_at hl 1 rfl) ?_
              refine va_get (C := RX12) (T := TX12) (N := 43) (v := .ref (qq 2)) hx hb hts hi_X12_move_X12 hown hK hP 1 rfl rfl 2 (by decide) (hts (.fieldLink RX12 16 "BothWaysModel" "goTo" "[I") (by decide +kernel)) (fun _ h => h) rfl dX12_move_49 ?_
              refine lv_iload hx hb dX12_move_52 (lv_at hl 0 rfl) ?_
              refine w_iald (v := (-1)) hx hb hK hP 0 rfl dX12_move_54 (inC (by decide)) rfl ?_
              refine lv_iconst (v := (-1)) hx hb dX12_move_55 (by decide) ?_
              refine icmp_ne_f hx hb dX12_move_56 63 (by decide) (by decide) ?_
              refine lv_iconst (v := (-1)) hx hb dX12_move_59 (by decide) ?_
              refine lv_goto (tgt := 101) hx hb dX12_move_60 (by decide) ?_
              exact rt_i hx hb hr hlocks hQ hP hD hS () [] dX12_move_101 rfl (Nat.le_of_ble_eq_true rfl) (Nat.le_of_ble_eq_true rfl) rfl (by decide) (lf_c_M_move_5 w h_23)
            · skip
              refine if_ne_f hx hb dX12_move_34 40 (by decide) (by decide) ?_
              refine lv_bipush (v := (-3)) hx hb dX12_move_37 (by decide) ?_
              exact rt_i hx hb hr hlocks hQ hP hD hS () [] dX12_move_39 rfl (Nat.le_of_ble_eq_true rfl) (Nat.le_of_ble_eq_true rfl) rfl (by decide) (lf_c_M_move_6 w h_24)
          · skip
            refine if_ne_t hx hb 24 dX12_move_18 (by decide) (by decide) ?_
            refine lv_iload hx hb dX12_move_24 (lv_at hl 4 rfl) ?_
            refine lv_i2l (v := w.toInt64) hx hb dX12_move_26 rfl ?_
            refine lv_lconst (v := 0) hx hb dX12_move_27 (by decide) ?_
            refine lv_ldc2 (v := 2) hx hb hown (hts (.constantLong RX12 176 (2)) (by decide +kernel)) dX12_move_28 ?_
            refine cp_i (va_runS (As := [.long w.toInt64, .long 0, .long 2]) (rest := []) ⟨hx, hb, hml, hown, hts⟩ (c_M_in l g cT H.size w.toInt64 0 2) (va_cwS 3 hts gX12_move_X12_in rfl rfl rfl yd_X12_in.2 ⟨(Nat.le_of_ble_eq_true rfl), (Nat.le_of_ble_eq_true rfl)⟩) (preS (ws := []) (wc := []) rfl (fun _ _ h => by simp at h) (va_D_nil (A := A)) hK hN hZ hS hA [] rfl rfl) rfl rfl hl.1 rfl (lv_room (Nat.le_of_ble_eq_true rfl)) dX12_move_31 ⟨(Nat.le_of_ble_eq_true rfl), (Nat.le_of_ble_eq_true rfl)⟩) hP hS hA (fun r_27 u H locs h_28 hP hS => ?_)
            rcases h_28 with ⟨rfl, h_29⟩ | ⟨rfl, h_30⟩
            · skip
              refine if_ne_t hx hb 40 dX12_move_34 (by decide) (by decide) ?_
              refine lv_iload_n hx hb dX12_move_40 rfl (lv_at hl 1 rfl) ?_
              refine lv_iload_n hx hb dX12_move_41 rfl (lv_at hl 2 rfl) ?_
              refine lv_iload_n hx hb dX12_move_42 rfl (lv_at hl 3 rfl) ?_
              refine cp_i (va_runS (As := [.int 0, .int 0, .int 3]) (rest := []) ⟨hx, hb, hml, hown, hts⟩ (c_M_at0 l g cT H.size 0 0 3) (va_cwS 3 hts gX12_move_X12_at0 rfl rfl rfl yd_X12_at0.2 ⟨(Nat.le_of_ble_eq_true rfl), (Nat.le_of_ble_eq_true rfl)⟩) (preS (ws := []) (wc := []) rfl (fun _ _ h => by simp at h) (va_D_nil (A := A)) hK hN hZ hS hA [] rfl rfl) rfl rfl hl.1 rfl (lv_room (Nat.le_of_ble_eq_true rfl)) dX12_move_43 ⟨(Nat.le_of_ble_eq_true rfl), (Nat.le_of_ble_eq_true rfl)⟩) hP hS hA (fun r_31 u H locs h_32 hP hS => ?_)
              subst h_32
              refine tI 3 (by decide) ?_
              refine lv_istore (lv' := [(5, .int 3), (0, .ref y), (1, .int 0), (2, .int 0), (3, .int 3), (4, .int w)]) hx hb dX12_move_46 hl (by decide) rfl (fun ls hl => ?_)
              refine lv_aload_n hx hb dX12_move_48 rfl (lv_at hl 1 rfl) ?_
              refine va_get (C := RX12) (T := TX12) (N := 43) (v := .ref (qq 2)) hx hb hts hi_X12_move_X12 hown hK hP 1 rfl rfl 2 (by decide) (hts (.fieldLink RX12 16 "BothWaysModel" "goTo" "[I") (by decide +kernel)) (fun _ h => h) rfl dX12_move_49 ?_
              refine lv_iload hx hb dX12_move_52 (lv_at hl 0 rfl) ?_
              refine w_iald (v := (-1)) hx hb hK hP 0 rfl dX12_move_54 (inC (by decide)) rfl ?_
              refine lv_iconst (v := (-1)) hx hb dX12_move_55 (by decide) ?_
              refine icmp_ne_f hx hb dX12_move_56 63 (by decide) (by decide) ?_
              refine lv_iconst (v := (-1)) hx hb dX12_move_59 (by decide) ?_
              refine lv_goto (tgt := 101) hx hb dX12_move_60 (by decide) ?_
              exact rt_i hx hb hr hlocks hQ hP hD hS () [] dX12_move_101 rfl (Nat.le_of_ble_eq_true rfl) (Nat.le_of_ble_eq_true rfl) rfl (by decide) (lf_c_M_move_7 w h_29)
            · skip
              refine if_ne_f hx hb dX12_move_34 40 (by decide) (by decide) ?_
              refine lv_bipush (v := (-3)) hx hb dX12_move_37 (by decide) ?_
              exact rt_i hx hb hr hlocks hQ hP hD hS () [] dX12_move_39 rfl (Nat.le_of_ble_eq_true rfl) (Nat.le_of_ble_eq_true rfl) rfl (by decide) (lf_c_M_move_8 w h_30)
          · skip
            refine if_ne_t hx hb 24 dX12_move_18 (by decide) (by decide) ?_
            refine lv_iload hx hb dX12_move_24 (lv_at hl 4 rfl) ?_
            refine lv_i2l (v := w.toInt64) hx hb dX12_move_26 rfl ?_
            refine lv_lconst (v := 0) hx hb dX12_move_27 (by decide) ?_
            refine lv_ldc2 (v := 2) hx hb hown (hts (.constantLong RX12 176 (2)) (by decide +kernel)) dX12_move_28 ?_
            refine cp_i (va_runS (As := [.long w.toInt64, .long 0, .long 2]) (rest := []) ⟨hx, hb, hml, hown, hts⟩ (c_M_in l g cT H.size w.toInt64 0 2) (va_cwS 3 hts gX12_move_X12_in rfl rfl rfl yd_X12_in.2 ⟨(Nat.le_of_ble_eq_true rfl), (Nat.le_of_ble_eq_true rfl)⟩) (preS (ws := []) (wc := []) rfl (fun _ _ h => by simp at h) (va_D_nil (A := A)) hK hN hZ hS hA [] rfl rfl) rfl rfl hl.1 rfl (lv_room (Nat.le_of_ble_eq_true rfl)) dX12_move_31 ⟨(Nat.le_of_ble_eq_true rfl), (Nat.le_of_ble_eq_true rfl)⟩) hP hS hA (fun r_33 u H locs h_34 hP hS => ?_)
            rcases h_34 with ⟨rfl, h_35⟩ | ⟨rfl, h_36⟩
            · skip
              refine if_ne_t hx hb 40 dX12_move_34 (by decide) (by decide) ?_
              refine lv_iload_n hx hb dX12_move_40 rfl (lv_at hl 1 rfl) ?_
              refine lv_iload_n hx hb dX12_move_41 rfl (lv_at hl 2 rfl) ?_
              refine lv_iload_n hx hb dX12_move_42 rfl (lv_at hl 3 rfl) ?_
              refine cp_i (va_runS (As := [.int 0, .int 0, .int 4]) (rest := []) ⟨hx, hb, hml, hown, hts⟩ (c_M_at0 l g cT H.size 0 0 4) (va_cwS 3 hts gX12_move_X12_at0 rfl rfl rfl yd_X12_at0.2 ⟨(Nat.le_of_ble_eq_true rfl), (Nat.le_of_ble_eq_true rfl)⟩) (preS (ws := []) (wc := []) rfl (fun _ _ h => by simp at h) (va_D_nil (A := A)) hK hN hZ hS hA [] rfl rfl) rfl rfl hl.1 rfl (lv_room (Nat.le_of_ble_eq_true rfl)) dX12_move_43 ⟨(Nat.le_of_ble_eq_true rfl), (Nat.le_of_ble_eq_true rfl)⟩) hP hS hA (fun r_37 u H locs h_38 hP hS => ?_)
              subst h_38
              refine tI 4 (by decide) ?_
              refine lv_istore (lv' := [(5, .int 4), (0, .ref y), (1, .int 0), (2, .int 0), (3, .int 4), (4, .int w)]) hx hb dX12_move_46 hl (by decide) rfl (fun ls hl => ?_)
              refine lv_aload_n hx hb dX12_move_48 rfl (lv_at hl 1 rfl) ?_
              refine va_get (C := RX12) (T := TX12) (N := 43) (v := .ref (qq 2)) hx hb hts hi_X12_move_X12 hown hK hP 1 rfl rfl 2 (by decide) (hts (.fieldLink RX12 16 "BothWaysModel" "goTo" "[I") (by decide +kernel)) (fun _ h => h) rfl dX12_move_49 ?_
              refine lv_iload hx hb dX12_move_52 (lv_at hl 0 rfl) ?_
              refine w_iald (v := (-1)) hx hb hK hP 0 rfl dX12_move_54 (inC (by decide)) rfl ?_
              refine lv_iconst (v := (-1)) hx hb dX12_move_55 (by decide) ?_
              refine icmp_ne_f hx hb dX12_move_56 63 (by decide) (by decide) ?_
              refine lv_iconst (v := (-1)) hx hb dX12_move_59 (by decide) ?_
              refine lv_goto (tgt := 101) hx hb dX12_move_60 (by decide) ?_
              exact rt_i hx hb hr hlocks hQ hP hD hS () [] dX12_move_101 rfl (Nat.le_of_ble_eq_true rfl) (Nat.le_of_ble_eq_true rfl) rfl (by decide) (lf_c_M_move_9 w h_35)
            · skip
              refine if_ne_f hx hb dX12_move_34 40 (by decide) (by decide) ?_
              refine lv_bipush (v := (-3)) hx hb dX12_move_37 (by decide) ?_
              exact rt_i hx hb hr hlocks hQ hP hD hS () [] dX12_move_39 rfl (Nat.le_of_ble_eq_true rfl) (Nat.le_of_ble_eq_true rfl) rfl (by decide) (lf_c_M_move_10 w h_36)
        · skip
          refine if_ne_f hx hb dX12_move_18 24 (by decide) (by decide) ?_
          refine lv_bipush (v := (-2)) hx hb dX12_move_21 (by decide) ?_
          exact rt_i hx hb hr hlocks hQ hP hD hS () [] dX12_move_23 rfl (Nat.le_of_ble_eq_true rfl) (Nat.le_of_ble_eq_true rfl) rfl (by decide) (lf_c_M_move_11 z w h_8)
      · skip
        refine if_eq_f hx hb dX12_move_6 21 (by decide) (by decide) ?_
        refine lv_iload_n hx hb dX12_move_9 rfl (lv_at hl 3 rfl) ?_
        refine lv_i2l (v := z.toInt64) hx hb dX12_move_10 rfl ?_
        refine lv_lconst (v := 0) hx hb dX12_move_11 (by decide) ?_
        refine lv_ldc2 (v := 4) hx hb hown (hts (.constantLong RX12 174 (4)) (by decide +kernel)) dX12_move_12 ?_
        refine cp_i (va_runS (As := [.long z.toInt64, .long 0, .long 4]) (rest := []) ⟨hx, hb, hml, hown, hts⟩ (c_M_in l g cT H.size z.toInt64 0 4) (va_cwS 3 hts gX12_move_X12_in rfl rfl rfl yd_X12_in.2 ⟨(Nat.le_of_ble_eq_true rfl), (Nat.le_of_ble_eq_true rfl)⟩) (preS (ws := []) (wc := []) rfl (fun _ _ h => by simp at h) (va_D_nil (A := A)) hK hN hZ hS hA [] rfl rfl) rfl rfl hl.1 rfl (lv_room (Nat.le_of_ble_eq_true rfl)) dX12_move_15 ⟨(Nat.le_of_ble_eq_true rfl), (Nat.le_of_ble_eq_true rfl)⟩) hP hS hA (fun r_39 u H locs h_40 hP hS => ?_)
        rcases h_40 with ⟨rfl, h_41⟩ | ⟨rfl, h_42⟩
        · skip
          rcases (lf_c_M_move_12 z h_41) with rfl | rfl | rfl | rfl | rfl
          · skip
            refine if_ne_t hx hb 24 dX12_move_18 (by decide) (by decide) ?_
            refine lv_iload hx hb dX12_move_24 (lv_at hl 4 rfl) ?_
            refine lv_i2l (v := w.toInt64) hx hb dX12_move_26 rfl ?_
            refine lv_lconst (v := 0) hx hb dX12_move_27 (by decide) ?_
            refine lv_ldc2 (v := 2) hx hb hown (hts (.constantLong RX12 176 (2)) (by decide +kernel)) dX12_move_28 ?_
            refine cp_i (va_runS (As := [.long w.toInt64, .long 0, .long 2]) (rest := []) ⟨hx, hb, hml, hown, hts⟩ (c_M_in l g cT H.size w.toInt64 0 2) (va_cwS 3 hts gX12_move_X12_in rfl rfl rfl yd_X12_in.2 ⟨(Nat.le_of_ble_eq_true rfl), (Nat.le_of_ble_eq_true rfl)⟩) (preS (ws := []) (wc := []) rfl (fun _ _ h => by simp at h) (va_D_nil (A := A)) hK hN hZ hS hA [] rfl rfl) rfl rfl hl.1 rfl (lv_room (Nat.le_of_ble_eq_true rfl)) dX12_move_31 ⟨(Nat.le_of_ble_eq_true rfl), (Nat.le_of_ble_eq_true rfl)⟩) hP hS hA (fun r_43 u H locs h_44 hP hS => ?_)
            rcases h_44 with ⟨rfl, h_45⟩ | ⟨rfl, h_46⟩
            · skip
              refine if_ne_t hx hb 40 dX12_move_34 (by decide) (by decide) ?_
              refine lv_iload_n hx hb dX12_move_40 rfl (lv_at hl 1 rfl) ?_
              refine lv_iload_n hx hb dX12_move_41 rfl (lv_at hl 2 rfl) ?_
              refine lv_iload_n hx hb dX12_move_42 rfl (lv_at hl 3 rfl) ?_
              refine cp_i (va_runS (As := [.int 1, .int 0, .int 0]) (rest := []) ⟨hx, hb, hml, hown, hts⟩ (c_M_at0 l g cT H.size 1 0 0) (va_cwS 3 hts gX12_move_X12_at0 rfl rfl rfl yd_X12_at0.2 ⟨(Nat.le_of_ble_eq_true rfl), (Nat.le_of_ble_eq_true rfl)⟩) (preS (ws := []) (wc := []) rfl (fun _ _ h => by simp at h) (va_D_nil (A := A)) hK hN hZ hS hA [] rfl rfl) rfl rfl hl.1 rfl (lv_room (Nat.le_of_ble_eq_true rfl)) dX12_move_43 ⟨(Nat.le_of_ble_eq_true rfl), (Nat.le_of_ble_eq_true rfl)⟩) hP hS hA (fun r_47 u H locs h_48 hP hS => ?_)
              subst h_48
              refine tI 25 (by decide) ?_
              refine lv_istore (lv' := [(5, .int 25), (0, .ref y), (1, .int 1), (2, .int 0), (3, .int 0), (4, .int w)]) hx hb dX12_move_46 hl (by decide) rfl (fun ls hl => ?_)
              refine lv_aload_n hx hb dX12_move_48 rfl (lv_at hl 1 rfl) ?_
              refine va_get (C := RX12) (T := TX12) (N := 43) (v := .ref (qq 2)) hx hb hts hi_X12_move_X12 hown hK hP 1 rfl rfl 2 (by decide) (hts (.fieldLink RX12 16 "BothWaysModel" "goTo" "[I") (by decide +kernel)) (fun _ h => h) rfl dX12_move_49 ?_
              refine lv_iload hx hb dX12_move_52 (lv_at hl 0 rfl) ?_
              refine w_iald (v := (-1)) hx hb hK hP 0 rfl dX12_move_54 (inC (by decide)) rfl ?_
              refine lv_iconst (v := (-1)) hx hb dX12_move_55 (by decide) ?_
              refine icmp_ne_f hx hb dX12_move_56 63 (by decide) (by decide) ?_
              refine lv_iconst (v := (-1)) hx hb dX12_move_59 (by decide) ?_
              refine lv_goto (tgt := 101) hx hb dX12_move_60 (by decide) ?_
              exact rt_i hx hb hr hlocks hQ hP hD hS () [] dX12_move_101 rfl (Nat.le_of_ble_eq_true rfl) (Nat.le_of_ble_eq_true rfl) rfl (by decide) (lf_c_M_move_13 w h_45)
            · skip
              refine if_ne_f hx hb dX12_move_34 40 (by decide) (by decide) ?_
              refine lv_bipush (v := (-3)) hx hb dX12_move_37 (by decide) ?_
              exact rt_i hx hb hr hlocks hQ hP hD hS () [] dX12_move_39 rfl (Nat.le_of_ble_eq_true rfl) (Nat.le_of_ble_eq_true rfl) rfl (by decide) (lf_c_M_move_14 w h_46)
          · skip
            refine if_ne_t hx hb 24 dX12_move_18 (by decide) (by decide) ?_
            refine lv_iload hx hb dX12_move_24 (lv_at hl 4 rfl) ?_
            refine lv_i2l (v := w.toInt64) hx hb dX12_move_26 rfl ?_
            refine lv_lconst (v := 0) hx hb dX12_move_27 (by decide) ?_
            refine lv_ldc2 (v := 2) hx hb hown (hts (.constantLong RX12 176 (2)) (by decide +kernel)) dX12_move_28 ?_
            refine cp_i (va_runS (As := [.long w.toInt64, .long 0, .long 2]) (rest := []) ⟨hx, hb, hml, hown, hts⟩ (c_M_in l g cT H.size w.toInt64 0 2) (va_cwS 3 hts gX12_move_X12_in rfl rfl rfl yd_X12_in.2 ⟨(Nat.le_of_ble_eq_true rfl), (Nat.le_of_ble_eq_true rfl)⟩) (preS (ws := []) (wc := []) rfl (fun _ _ h => by simp at h) (va_D_nil (A := A)) hK hN hZ hS hA [] rfl rfl) rfl rfl hl.1 rfl (lv_room (Nat.le_of_ble_eq_true rfl)) dX12_move_31 ⟨(Nat.le_of_ble_eq_true rfl), (Nat.le_of_ble_eq_true rfl)⟩) hP hS hA (fun r_49 u H locs h_50 hP hS => ?_)
            rcases h_50 with ⟨rfl, h_51⟩ | ⟨rfl, h_52⟩
            · skip
              refine if_ne_t hx hb 40 dX12_move_34 (by decide) (by decide) ?_
              refine lv_iload_n hx hb dX12_move_40 rfl (lv_at hl 1 rfl) ?_
              refine lv_iload_n hx hb dX12_move_41 rfl (lv_at hl 2 rfl) ?_
              refine lv_iload_n hx hb dX12_move_42 rfl (lv_at hl 3 rfl) ?_
              refine cp_i (va_runS (As := [.int 1, .int 0, .int 1]) (rest := []) ⟨hx, hb, hml, hown, hts⟩ (c_M_at0 l g cT H.size 1 0 1) (va_cwS 3 hts gX12_move_X12_at0 rfl rfl rfl yd_X12_at0.2 ⟨(Nat.le_of_ble_eq_true rfl), (Nat.le_of_ble_eq_true rfl)⟩) (preS (ws := []) (wc := []) rfl (fun _ _ h => by simp at h) (va_D_nil (A := A)) hK hN hZ hS hA [] rfl rfl) rfl rfl hl.1 rfl (lv_room (Nat.le_of_ble_eq_true rfl)) dX12_move_43 ⟨(Nat.le_of_ble_eq_true rfl), (Nat.le_of_ble_eq_true rfl)⟩) hP hS hA (fun r_53 u H locs h_54 hP hS => ?_)
              subst h_54
              refine tI 26 (by decide) ?_
              refine lv_istore (lv' := [(5, .int 26), (0, .ref y), (1, .int 1), (2, .int 0), (3, .int 1), (4, .int w)]) hx hb dX12_move_46 hl (by decide) rfl (fun ls hl => ?_)
              refine lv_aload_n hx hb dX12_move_48 rfl (lv_at hl 1 rfl) ?_
              refine va_get (C := RX12) (T := TX12) (N := 43) (v := .ref (qq 2)) hx hb hts hi_X12_move_X12 hown hK hP 1 rfl rfl 2 (by decide) (hts (.fieldLink RX12 16 "BothWaysModel" "goTo" "[I") (by decide +kernel)) (fun _ h => h) rfl dX12_move_49 ?_
              refine lv_iload hx hb dX12_move_52 (lv_at hl 0 rfl) ?_
              refine w_iald (v := (-1)) hx hb hK hP 0 rfl dX12_move_54 (inC (by decide)) rfl ?_
              refine lv_iconst (v := (-1)) hx hb dX12_move_55 (by decide) ?_
              refine icmp_ne_f hx hb dX12_move_56 63 (by decide) (by decide) ?_
              refine lv_iconst (v := (-1)) hx hb dX12_move_59 (by decide) ?_
              refine lv_goto (tgt := 101) hx hb dX12_move_60 (by decide) ?_
              exact rt_i hx hb hr hlocks hQ hP hD hS () [] dX12_move_101 rfl (Nat.le_of_ble_eq_true rfl) (Nat.le_of_ble_eq_true rfl) rfl (by decide) (lf_c_M_move_15 w h_51)
            · skip
              refine if_ne_f hx hb dX12_move_34 40 (by decide) (by decide) ?_
              refine lv_bipush (v := (-3)) hx hb dX12_move_37 (by decide) ?_
              exact rt_i hx hb hr hlocks hQ hP hD hS () [] dX12_move_39 rfl (Nat.le_of_ble_eq_true rfl) (Nat.le_of_ble_eq_true rfl) rfl (by decide) (lf_c_M_move_16 w h_52)
          · skip
            refine if_ne_t hx hb 24 dX12_move_18 (by decide) (by decide) ?_
            refine lv_iload hx hb dX12_move_24 (lv_at hl 4 rfl) ?_
            refine lv_i2l (v := w.toInt64) hx hb dX12_move_26 rfl ?_
            refine lv_lconst (v := 0) hx hb dX12_move_27 (by decide) ?_
            refine lv_ldc2 (v := 2) hx hb hown (hts (.constantLong RX12 176 (2)) (by decide +kernel)) dX12_move_28 ?_
            refine cp_i (va_runS (As := [.long w.toInt64, .long 0, .long 2]) (rest := []) ⟨hx, hb, hml, hown, hts⟩ (c_M_in l g cT H.size w.toInt64 0 2) (va_cwS 3 hts gX12_move_X12_in rfl rfl rfl yd_X12_in.2 ⟨(Nat.le_of_ble_eq_true rfl), (Nat.le_of_ble_eq_true rfl)⟩) (preS (ws := []) (wc := []) rfl (fun _ _ h => by simp at h) (va_D_nil (A := A)) hK hN hZ hS hA [] rfl rfl) rfl rfl hl.1 rfl (lv_room (Nat.le_of_ble_eq_true rfl)) dX12_move_31 ⟨(Nat.le_of_ble_eq_true rfl), (Nat.le_of_ble_eq_true rfl)⟩) hP hS hA (fun r_55 u H locs h_56 hP hS => ?_)
            rcases h_56 with ⟨rfl, h_57⟩ | ⟨rfl, h_58⟩
            · skip
              refine if_ne_t hx hb 40 dX12_move_34 (by decide) (by decide) ?_
              refine lv_iload_n hx hb dX12_move_40 rfl (lv_at hl 1 rfl) ?_
              refine lv_iload_n hx hb dX12_move_41 rfl (lv_at hl 2 rfl) ?_
              refine lv_iload_n hx hb dX12_move_42 rfl (lv_at hl 3 rfl) ?_
              refine cp_i (va_runS (As := [.int 1, .int 0, .int 2]) (rest := []) ⟨hx, hb, hml, hown, hts⟩ (c_M_at0 l g cT H.size 1 0 2) (va_cwS 3 hts gX12_move_X12_at0 rfl rfl rfl yd_X12_at0.2 ⟨(Nat.le_of_ble_eq_true rfl), (Nat.le_of_ble_eq_true rfl)⟩) (preS (ws := []) (wc := []) rfl (fun _ _ h => by simp at h) (va_D_nil (A := A)) hK hN hZ hS hA [] rfl rfl) rfl rfl hl.1 rfl (lv_room (Nat.le_of_ble_eq_true rfl)) dX12_move_43 ⟨(Nat.le_of_ble_eq_true rfl), (Nat.le_of_ble_eq_true rfl)⟩) hP hS hA (fun r_59 u H locs h_60 hP hS => ?_)
              subst h_60
              refine tI 27 (by decide) ?_
              refine lv_istore (lv' := [(5, .int 27), (0, .ref y), (1, .int 1), (2, .int 0), (3, .int 2), (4, .int w)]) hx hb dX12_move_46 hl (by decide) rfl (fun ls hl => ?_)
              refine lv_aload_n hx hb dX12_move_48 rfl (lv_at hl 1 rfl) ?_
              refine va_get (C := RX12) (T := TX12) (N := 43) (v := .ref (qq 2)) hx hb hts hi_X12_move_X12 hown hK hP 1 rfl rfl 2 (by decide) (hts (.fieldLink RX12 16 "BothWaysModel" "goTo" "[I") (by decide +kernel)) (fun _ h => h) rfl dX12_move_49 ?_
              refine lv_iload hx hb dX12_move_52 (lv_at hl 0 rfl) ?_
              refine w_iald (v := (-1)) hx hb hK hP 0 rfl dX12_move_54 (inC (by decide)) rfl ?_
              refine lv_iconst (v := (-1)) hx hb dX12_move_55 (by decide) ?_
              refine icmp_ne_f hx hb dX12_move_56 63 (by decide) (by decide) ?_
              refine lv_iconst (v := (-1)) hx hb dX12_move_59 (by decide) ?_
              refine lv_goto (tgt := 101) hx hb dX12_move_60 (by decide) ?_
              exact rt_i hx hb hr hlocks hQ hP hD hS () [] dX12_move_101 rfl (Nat.le_of_ble_eq_true rfl) (Nat.le_of_ble_eq_true rfl) rfl (by decide) (lf_c_M_move_17 w h_57)
            · skip
              refine if_ne_f hx hb dX12_move_34 40 (by decide) (by decide) ?_
              refine lv_bipush (v := (-3)) hx hb dX12_move_37 (by decide) ?_
              exact rt_i hx hb hr hlocks hQ hP hD hS () [] dX12_move_39 rfl (Nat.le_of_ble_eq_true rfl) (Nat.le_of_ble_eq_true rfl) rfl (by decide) (lf_c_M_move_18 w h_58)
          · skip
            refine if_ne_t hx hb 24 dX12_move_18 (by decide) (by decide) ?_
            refine lv_iload hx hb dX12_move_24 (lv_at hl 4 rfl) ?_
            refine lv_i2l (v := w.toInt64) hx hb dX12_move_26 rfl ?_
            refine lv_lconst (v := 0) hx hb dX12_move_27 (by decide) ?_
            refine lv_ldc2 (v := 2) hx hb hown (hts (.constantLong RX12 176 (2)) (by decide +kernel)) dX12_move_28 ?_
            refine cp_i (va_runS (As := [.long w.toInt64, .long 0, .long 2]) (rest := []) ⟨hx, hb, hml, hown, hts⟩ (c_M_in l g cT H.size w.toInt64 0 2) (va_cwS 3 hts gX12_move_X12_in rfl rfl rfl yd_X12_in.2 ⟨(Nat.le_of_ble_eq_true rfl), (Nat.le_of_ble_eq_true rfl)⟩) (preS (ws := []) (wc := []) rfl (fun _ _ h => by simp at h) (va_D_nil (A := A)) hK hN hZ hS hA [] rfl rfl) rfl rfl hl.1 rfl (lv_room (Nat.le_of_ble_eq_true rfl)) dX12_move_31 ⟨(Nat.le_of_ble_eq_true rfl), (Nat.le_of_ble_eq_true rfl)⟩) hP hS hA (fun r_61 u H locs h_62 hP hS => ?_)
            rcases h_62 with ⟨rfl, h_63⟩ | ⟨rfl, h_64⟩
            · skip
              refine if_ne_t hx hb 40 dX12_move_34 (by decide) (by decide) ?_
              refine lv_iload_n hx hb dX12_move_40 rfl (lv_at hl 1 rfl) ?_
              refine lv_iload_n hx hb dX12_move_41 rfl (lv_at hl 2 rfl) ?_
              refine lv_iload_n hx hb dX12_move_42 rfl (lv_at hl 3 rfl) ?_
              refine cp_i (va_runS (As := [.int 1, .int 0, .int 3]) (rest := []) ⟨hx, hb, hml, hown, hts⟩ (c_M_at0 l g cT H.size 1 0 3) (va_cwS 3 hts gX12_move_X12_at0 rfl rfl rfl yd_X12_at0.2 ⟨(Nat.le_of_ble_eq_true rfl), (Nat.le_of_ble_eq_true rfl)⟩) (preS (ws := []) (wc := []) rfl (fun _ _ h => by simp at h) (va_D_nil (A := A)) hK hN hZ hS hA [] rfl rfl) rfl rfl hl.1 rfl (lv_room (Nat.le_of_ble_eq_true rfl)) dX12_move_43 ⟨(Nat.le_of_ble_eq_true rfl), (Nat.le_of_ble_eq_true rfl)⟩) hP hS hA (fun r_65 u H locs h_66 hP hS => ?_)
              subst h_66
              refine tI 28 (by decide) ?_
              refine lv_istore (lv' := [(5, .int 28), (0, .ref y), (1, .int 1), (2, .int 0), (3, .int 3), (4, .int w)]) hx hb dX12_move_46 hl (by decide) rfl (fun ls hl => ?_)
              refine lv_aload_n hx hb dX12_move_48 rfl (lv_at hl 1 rfl) ?_
              refine va_get (C := RX12) (T := TX12) (N := 43) (v := .ref (qq 2)) hx hb hts hi_X12_move_X12 hown hK hP 1 rfl rfl 2 (by decide) (hts (.fieldLink RX12 16 "BothWaysModel" "goTo" "[I") (by decide +kernel)) (fun _ h => h) rfl dX12_move_49 ?_
              refine lv_iload hx hb dX12_move_52 (lv_at hl 0 rfl) ?_
              refine w_iald (v := (-1)) hx hb hK hP 0 rfl dX12_move_54 (inC (by decide)) rfl ?_
              refine lv_iconst (v := (-1)) hx hb dX12_move_55 (by decide) ?_
              refine icmp_ne_f hx hb dX12_move_56 63 (by decide) (by decide) ?_
              refine lv_iconst (v := (-1)) hx hb dX12_move_59 (by decide) ?_
              refine lv_goto (tgt := 101) hx hb dX12_move_60 (by decide) ?_
              exact rt_i hx hb hr hlocks hQ hP hD hS () [] dX12_move_101 rfl (Nat.le_of_ble_eq_true rfl) (Nat.le_of_ble_eq_true rfl) rfl (by decide) (lf_c_M_move_19 w h_63)
            · skip
              refine if_ne_f hx hb dX12_move_34 40 (by decide) (by decide) ?_
              refine lv_bipush (v := (-3)) hx hb dX12_move_37 (by decide) ?_
              exact rt_i hx hb hr hlocks hQ hP hD hS () [] dX12_move_39 rfl (Nat.le_of_ble_eq_true rfl) (Nat.le_of_ble_eq_true rfl) rfl (by decide) (lf_c_M_move_20 w h_64)
          · skip
            refine if_ne_t hx hb 24 dX12_move_18 (by decide) (by decide) ?_
            refine lv_iload hx hb dX12_move_24 (lv_at hl 4 rfl) ?_
            refine lv_i2l (v := w.toInt64) hx hb dX12_move_26 rfl ?_
            refine lv_lconst (v := 0) hx hb dX12_move_27 (by decide) ?_
            refine lv_ldc2 (v := 2) hx hb hown (hts (.constantLong RX12 176 (2)) (by decide +kernel)) dX12_move_28 ?_
            refine cp_i (va_runS (As := [.long w.toInt64, .long 0, .long 2]) (rest := []) ⟨hx, hb, hml, hown, hts⟩ (c_M_in l g cT H.size w.toInt64 0 2) (va_cwS 3 hts gX12_move_X12_in rfl rfl rfl yd_X12_in.2 ⟨(Nat.le_of_ble_eq_true rfl), (Nat.le_of_ble_eq_true rfl)⟩) (preS (ws := []) (wc := []) rfl (fun _ _ h => by simp at h) (va_D_nil (A := A)) hK hN hZ hS hA [] rfl rfl) rfl rfl hl.1 rfl (lv_room (Nat.le_of_ble_eq_true rfl)) dX12_move_31 ⟨(Nat.le_of_ble_eq_true rfl), (Nat.le_of_ble_eq_true rfl)⟩) hP hS hA (fun r_67 u H locs h_68 hP hS => ?_)
            rcases h_68 with ⟨rfl, h_69⟩ | ⟨rfl, h_70⟩
            · skip
              refine if_ne_t hx hb 40 dX12_move_34 (by decide) (by decide) ?_
              refine lv_iload_n hx hb dX12_move_40 rfl (lv_at hl 1 rfl) ?_
              refine lv_iload_n hx hb dX12_move_41 rfl (lv_at hl 2 rfl) ?_
              refine lv_iload_n hx hb dX12_move_42 rfl (lv_at hl 3 rfl) ?_
              refine cp_i (va_runS (As := [.int 1, .int 0, .int 4]) (rest := []) ⟨hx, hb, hml, hown, hts⟩ (c_M_at0 l g cT H.size 1 0 4) (va_cwS 3 hts gX12_move_X12_at0 rfl rfl rfl yd_X12_at0.2 ⟨(Nat.le_of_ble_eq_true rfl), (Nat.le_of_ble_eq_true rfl)⟩) (preS (ws := []) (wc := []) rfl (fun _ _ h => by simp at h) (va_D_nil (A := A)) hK hN hZ hS hA [] rfl rfl) rfl rfl hl.1 rfl (lv_room (Nat.le_of_ble_eq_true rfl)) dX12_move_43 ⟨(Nat.le_of_ble_eq_true rfl), (Nat.le_of_ble_eq_true rfl)⟩) hP hS hA (fun r_71 u H locs h_72 hP hS => ?_)
              subst h_72
              refine tI 29 (by decide) ?_
              refine lv_istore (lv' := [(5, .int 29), (0, .ref y), (1, .int 1), (2, .int 0), (3, .int 4), (4, .int w)]) hx hb dX12_move_46 hl (by decide) rfl (fun ls hl => ?_)
              refine lv_aload_n hx hb dX12_move_48 rfl (lv_at hl 1 rfl) ?_
              refine va_get (C := RX12) (T := TX12) (N := 43) (v := .ref (qq 2)) hx hb hts hi_X12_move_X12 hown hK hP 1 rfl rfl 2 (by decide) (hts (.fieldLink RX12 16 "BothWaysModel" "goTo" "[I") (by decide +kernel)) (fun _ h => h) rfl dX12_move_49 ?_
              refine lv_iload hx hb dX12_move_52 (lv_at hl 0 rfl) ?_
              refine w_iald (v := (-1)) hx hb hK hP 0 rfl dX12_move_54 (inC (by decide)) rfl ?_
              refine lv_iconst (v := (-1)) hx hb dX12_move_55 (by decide) ?_
              refine icmp_ne_f hx hb dX12_move_56 63 (by decide) (by decide) ?_
              refine lv_iconst (v := (-1)) hx hb dX12_move_59 (by decide) ?_
              refine lv_goto (tgt := 101) hx hb dX12_move_60 (by decide) ?_
              exact rt_i hx hb hr hlocks hQ hP hD hS () [] dX12_move_101 rfl (Nat.le_of_ble_eq_true rfl) (Nat.le_of_ble_eq_true rfl) rfl (by decide) (lf_c_M_move_21 w h_69)
            · skip
              refine if_ne_f hx hb dX12_move_34 40 (by decide) (by decide) ?_
              refine lv_bipush (v := (-3)) hx hb dX12_move_37 (by decide) ?_
              exact rt_i hx hb hr hlocks hQ hP hD hS () [] dX12_move_39 rfl (Nat.le_of_ble_eq_true rfl) (Nat.le_of_ble_eq_true rfl) rfl (by decide) (lf_c_M_move_22 w h_70)
        · skip
          refine if_ne_f hx hb dX12_move_18 24 (by decide) (by decide) ?_
          refine lv_bipush (v := (-2)) hx hb dX12_move_21 (by decide) ?_
          exact rt_i hx hb hr hlocks hQ hP hD hS () [] dX12_move_23 rfl (Nat.le_of_ble_eq_true rfl) (Nat.le_of_ble_eq_true rfl) rfl (by decide) (lf_c_M_move_23 z w h_42)
    · skip
      refine if_eq_t hx hb 21 dX12_move_6 (by decide) (by decide) ?_
      refine lv_bipush (v := (-2)) hx hb dX12_move_21 (by decide) ?_
      exact rt_i hx hb hr hlocks hQ hP hD hS () [] dX12_move_23 rfl (Nat.le_of_ble_eq_true rfl) (Nat.le_of_ble_eq_true rfl) rfl (by decide) (lf_c_M_move_24 x q z w h_4)
  rw [hH, hlo] at hgo
  exact hgo
theorem hi_X12_drop_X12 : ∀ w ∈ wsX120, w ∈ wsX12_drop := fun _ h => List.mem_cons_of_mem _ (List.mem_append_right _ h)
abbrev rm_c_M_drop : Room := { frames := 3, cells := 0, slots := 0, locals := 67 }
theorem lf_c_M_drop_0 (z : Int32) (h_7 : 0 ≤ z.toInt64 ∧ z.toInt64 ≤ 4) : z = 0 ∨ z = 1 ∨ z = 2 ∨ z = 3 ∨ z = 4 := by (simp only [true_or, or_true, false_or, or_false, true_and, and_true, false_and, and_false, not_true_eq_false, not_false_eq_true, i_lt, i_le, i_eq, j_lt, j_le, j_eq, Int32.toInt_toInt64, li_0, lj_0, li_1, lj_1, li_2, lj_2, li_3, lj_3, li_4, lj_4, li_5, lj_5, li_6, lj_6, li_7, lj_7, li_8, lj_8, li_10, lj_10, li_11, lj_11, li_12, lj_12, li_24, lj_24, li_25, lj_25, li_50, lj_50, li_130, lj_130, li_160, lj_160, li_800, lj_800, li_4000, lj_4000, li_10000, lj_10000, li_16384, lj_16384, li_26, lj_26, li_32, lj_32, li_48, lj_48, li_57, lj_57, li_59, lj_59, li_97, lj_97, li_99, lj_99, li_122, lj_122, li_m1, lj_m1, li_m2, lj_m2, li_m3, lj_m3, li_m4, lj_m4, li_m5, lj_m5, li_m6, lj_m6] at * <;> omega)
theorem lf_c_M_drop_1 (z : Int32) (h_21 : 0 ≤ z.toInt64 ∧ z.toInt64 ≤ 4) : z = 0 ∨ z = 1 ∨ z = 2 ∨ z = 3 ∨ z = 4 := by (simp only [true_or, or_true, false_or, or_false, true_and, and_true, false_and, and_false, not_true_eq_false, not_false_eq_true, i_lt, i_le, i_eq, j_lt, j_le, j_eq, Int32.toInt_toInt64, li_0, lj_0, li_1, lj_1, li_2, lj_2, li_3, lj_3, li_4, lj_4, li_5, lj_5, li_6, lj_6, li_7, lj_7, li_8, lj_8, li_10, lj_10, li_11, lj_11, li_12, lj_12, li_24, lj_24, li_25, lj_25, li_50, lj_50, li_130, lj_130, li_160, lj_160, li_800, lj_800, li_4000, lj_4000, li_10000, lj_10000, li_16384, lj_16384, li_26, lj_26, li_32, lj_32, li_48, lj_48, li_57, lj_57, li_59, lj_59, li_97, lj_97, li_99, lj_99, li_122, lj_122, li_m1, lj_m1, li_m2, lj_m2, li_m3, lj_m3, li_m4, lj_m4, li_m5, lj_m5, li_m6, lj_m6] at * <;> omega)
set_option maxHeartbeats 4000000 in
set_option maxRecDepth 100000 in
theorem c_M_drop (l : Launch) (g : va_G) (cT : Nat → ClassId) (sz : Nat) (y : Nat) (qq : Nat → Nat) (z6 : Int32) (z12 : Int32) (z14 : Int32) (z15 : Int32) (z16 : Int32) (z17 : Int32) (z19 : Int32) (z21 : Int32) (z22 : Int32) (z23 : Int32) (z24 : Int32) (z26 : Int32) (z30 : Int32) (x : Int32) (q : Int32) (z : Int32)  : Ctr l g cT sz yX12_drop wsX12_drop rm_c_M_drop [.ref y, .int x, .int q, .int z] [(y, .inr (12, [.ref (qq 0), .ref (qq 1), .ref (qq 2), .ref (qq 3), .ref (qq 4), .ref (qq 5), .int z6, .ref (qq 7), .ref (qq 8), .ref (qq 9), .ref (qq 10), .ref (qq 11), .int z12, .ref (qq 13), .int z14, .int z15, .int z16, .int z17, .ref (qq 18), .int z19, .ref (qq 20), .int z21, .int z22, .int z23, .int z24, .ref (qq 25), .int z26, .ref (qq 27), .ref (qq 28), .ref (qq 29), .int z30, .ref (qq 31), .ref (qq 32), .ref (qq 33), .ref (qq 34), .ref (qq 35), .ref (qq 36), .ref (qq 37), .ref (qq 38), .ref (qq 39), .ref (qq 40), .ref (qq 41), .ref (qq 42)])), ((qq 0), .inl (cT 0, 2, .inl (fun _ => 1))), ((qq 2), .inl (cT 0, 50, .inl (fun _ => (-1))))] (QI g (fun (r : Int32) (u : Unit) => r = (-2 : Int32)) (fun (u : Unit) => [])) 0 0 := by
  refine mk_ctr (cc := cX12_drop) (maxL := 4) (ret := (some .int)) (by decide) rfl (Nat.le_of_ble_eq_true rfl) ?_
  intro p e s m args below meth c A Q hx hb hr hts hown hlocks hin hml hP hK hD hN hZ hA hS hQ ls hl
  have hl : lv_has ls 4 [(0, .ref y), (1, .int x), (2, .int q), (3, .int z)] := hl
  obtain ⟨H, hH⟩ : ∃ H : Heap, H = s.heap := ⟨_, rfl⟩
  obtain ⟨locs, hlo⟩ : ∃ x : List Loc, x = [] := ⟨_, rfl⟩
  rw [← hH] at hP
  have hS : va_S A s.heap H locs := by rw [hH, hlo]; exact hS
  have hgo : W p l e rm_c_M_drop s m args below meth c H locs 0 0 Q (F0 m 0 ls []) := by
    clear hH hlo
    refine lv_aload_n hx hb dX12_drop_0 rfl (lv_at hl 0 rfl) ?_
    refine lv_iload_n hx hb dX12_drop_1 rfl (lv_at hl 1 rfl) ?_
    refine lv_iload_n hx hb dX12_drop_2 rfl (lv_at hl 2 rfl) ?_
    refine cj_i 0 0 (wr := [((qq 2), .inl (cT 0, 50, .inl (fun _ => (-1))))]) (va_runV (As := [.int x, .int q]) (rest := []) ⟨hx, hb, hml, hown, hts⟩ (c_M_isState l g cT H.size y qq z6 z12 z14 z15 z16 z17 z19 z21 z22 z23 z24 z26 z30 x q) (cwV 2 hts gX12_drop_X12_isState rfl rfl rfl yd_X12_isState ⟨(Nat.le_of_ble_eq_true rfl), (Nat.le_of_ble_eq_true rfl)⟩) (preV (wc := [(y, .inr (12, [.ref (qq 0), .ref (qq 1), .ref (qq 2), .ref (qq 3), .ref (qq 4), .ref (qq 5), .int z6, .ref (qq 7), .ref (qq 8), .ref (qq 9), .ref (qq 10), .ref (qq 11), .int z12, .ref (qq 13), .int z14, .int z15, .int z16, .int z17, .ref (qq 18), .int z19, .ref (qq 20), .int z21, .int z22, .int z23, .int z24, .ref (qq 25), .int z26, .ref (qq 27), .ref (qq 28), .ref (qq 29), .int z30, .ref (qq 31), .ref (qq 32), .ref (qq 33), .ref (qq 34), .ref (qq 35), .ref (qq 36), .ref (qq 37), .ref (qq 38), .ref (qq 39), .ref (qq 40), .ref (qq 41), .ref (qq 42)])), ((qq 0), .inl (cT 0, 2, .inl (fun _ => 1)))]) rfl hP hD hK hN hZ hS hA [0, 1] rfl (by decide) (ci := 12) (q0 := 0) rfl rfl) rfl rfl hl.1 rfl (lv_room (Nat.le_of_ble_eq_true rfl)) dX12_drop_3 ⟨(Nat.le_of_ble_eq_true rfl), (Nat.le_of_ble_eq_true rfl)⟩) hP hD hS hA [0, 1] [2] rfl rfl (by decide) (by decide) (Nat.le_of_ble_eq_true rfl) (Nat.le_of_ble_eq_true rfl) (fun r_1 u H locs h_2 hP hD hS => ?_)
    have hP : va_P g vwCl [((qq 2), .inl (cT 0, 50, .inl (fun _ => (-1)))), (y, .inr (12, [.ref (qq 0), .ref (qq 1), .ref (qq 2), .ref (qq 3), .ref (qq 4), .ref (qq 5), .int z6, .ref (qq 7), .ref (qq 8), .ref (qq 9), .ref (qq 10), .ref (qq 11), .int z12, .ref (qq 13), .int z14, .int z15, .int z16, .int z17, .ref (qq 18), .int z19, .ref (qq 20), .int z21, .int z22, .int z23, .int z24, .ref (qq 25), .int z26, .ref (qq 27), .ref (qq 28), .ref (qq 29), .int z30, .ref (qq 31), .ref (qq 32), .ref (qq 33), .ref (qq 34), .ref (qq 35), .ref (qq 36), .ref (qq 37), .ref (qq 38), .ref (qq 39), .ref (qq 40), .ref (qq 41), .ref (qq 42)])), ((qq 0), .inl (cT 0, 2, .inl (fun _ => 1)))] H := hP
    have hD : va_D A [((qq 2), .inl (cT 0, 50, .inl (fun _ => (-1)))), (y, .inr (12, [.ref (qq 0), .ref (qq 1), .ref (qq 2), .ref (qq 3), .ref (qq 4), .ref (qq 5), .int z6, .ref (qq 7), .ref (qq 8), .ref (qq 9), .ref (qq 10), .ref (qq 11), .int z12, .ref (qq 13), .int z14, .int z15, .int z16, .int z17, .ref (qq 18), .int z19, .ref (qq 20), .int z21, .int z22, .int z23, .int z24, .ref (qq 25), .int z26, .ref (qq 27), .ref (qq 28), .ref (qq 29), .int z30, .ref (qq 31), .ref (qq 32), .ref (qq 33), .ref (qq 34), .ref (qq 35), .ref (qq 36), .ref (qq 37), .ref (qq 38), .ref (qq 39), .ref (qq 40), .ref (qq 41), .ref (qq 42)])), ((qq 0), .inl (cT 0, 2, .inl (fun _ => 1)))] := hD
    rcases h_2 with ⟨rfl, h_3⟩ | ⟨rfl, h_4⟩
    · skip
      obtain ⟨hx0, rfl⟩ := h_3
      rcases hx0 with rfl | rfl
      · skip
        refine if_eq_f hx hb dX12_drop_6 36 (by decide) (by decide) ?_
        refine lv_iload_n hx hb dX12_drop_9 rfl (lv_at hl 3 rfl) ?_
        refine lv_i2l (v := z.toInt64) hx hb dX12_drop_10 rfl ?_
        refine lv_lconst (v := 0) hx hb dX12_drop_11 (by decide) ?_
        refine lv_ldc2 (v := 4) hx hb hown (hts (.constantLong RX12 174 (4)) (by decide +kernel)) dX12_drop_12 ?_
        refine cp_i (va_runS (As := [.long z.toInt64, .long 0, .long 4]) (rest := []) ⟨hx, hb, hml, hown, hts⟩ (c_M_in l g cT H.size z.toInt64 0 4) (va_cwS 3 hts gX12_drop_X12_in rfl rfl rfl yd_X12_in.2 ⟨(Nat.le_of_ble_eq_true rfl), (Nat.le_of_ble_eq_true rfl)⟩) (preS (ws := []) (wc := []) rfl (fun _ _ h => by simp at h) (va_D_nil (A := A)) hK hN hZ hS hA [] rfl rfl) rfl rfl hl.1 rfl (lv_room (Nat.le_of_ble_eq_true rfl)) dX12_drop_15 ⟨(Nat.le_of_ble_eq_true rfl), (Nat.le_of_ble_eq_true rfl)⟩) hP hS hA (fun r_5 u H locs h_6 hP hS => ?_)
        rcases h_6 with ⟨rfl, h_7⟩ | ⟨rfl, h_8⟩
        · skip
          rcases (lf_c_M_drop_0 z h_7) with rfl | rfl | rfl | rfl | rfl
          · skip
            refine if_eq_f hx hb dX12_drop_18 36 (by decide) (by decide) ?_
            refine lv_aload_n hx hb dX12_drop_21 rfl (lv_at hl 0 rfl) ?_
            refine va_get (C := RX12) (T := TX12) (N := 43) (v := .ref (qq 2)) hx hb hts hi_X12_drop_X12 hown hK hP 1 rfl rfl 2 (by decide) (hts (.fieldLink RX12 16 "BothWaysModel" "goTo" "[I") (by decide +kernel)) (fun _ h => h) rfl dX12_drop_22 ?_
            refine lv_iload_n hx hb dX12_drop_25 rfl (lv_at hl 1 rfl) ?_
            refine lv_iload_n hx hb dX12_drop_26 rfl (lv_at hl 2 rfl) ?_
            refine lv_iload_n hx hb dX12_drop_27 rfl (lv_at hl 3 rfl) ?_
            refine cp_i (va_runS (As := [.int 0, .int 0, .int 0]) (rest := [.ref (qq 2)]) ⟨hx, hb, hml, hown, hts⟩ (c_M_at0 l g cT H.size 0 0 0) (va_cwS 3 hts gX12_drop_X12_at0 rfl rfl rfl yd_X12_at0.2 ⟨(Nat.le_of_ble_eq_true rfl), (Nat.le_of_ble_eq_true rfl)⟩) (preS (ws := []) (wc := []) rfl (fun _ _ h => by simp at h) (va_D_nil (A := A)) hK hN hZ hS hA [] rfl rfl) rfl rfl hl.1 rfl (lv_room (Nat.le_of_ble_eq_true rfl)) dX12_drop_28 ⟨(Nat.le_of_ble_eq_true rfl), (Nat.le_of_ble_eq_true rfl)⟩) hP hS hA (fun r_9 u H locs h_10 hP hS => ?_)
            subst h_10
            refine tI 0 (by decide) ?_
            refine w_iald (v := (-1)) hx hb hK hP 0 rfl dX12_drop_31 (inC (by decide)) rfl ?_
            refine lv_iconst (v := (-1)) hx hb dX12_drop_32 (by decide) ?_
            refine icmp_ne_f hx hb dX12_drop_33 39 (by decide) (by decide) ?_
            refine lv_bipush (v := (-2)) hx hb dX12_drop_36 (by decide) ?_
            exact rt_i hx hb hr hlocks hQ hP hD hS () [] dX12_drop_38 rfl (Nat.le_of_ble_eq_true rfl) (Nat.le_of_ble_eq_true rfl) rfl (by decide) rfl
          · skip
            refine if_eq_f hx hb dX12_drop_18 36 (by decide) (by decide) ?_
            refine lv_aload_n hx hb dX12_drop_21 rfl (lv_at hl 0 rfl) ?_
            refine va_get (C := RX12) (T := TX12) (N := 43) (v := .ref (qq 2)) hx hb hts hi_X12_drop_X12 hown hK hP 1 rfl rfl 2 (by decide) (hts (.fieldLink RX12 16 "BothWaysModel" "goTo" "[I") (by decide +kernel)) (fun _ h => h) rfl dX12_drop_22 ?_
            refine lv_iload_n hx hb dX12_drop_25 rfl (lv_at hl 1 rfl) ?_
            refine lv_iload_n hx hb dX12_drop_26 rfl (lv_at hl 2 rfl) ?_
            refine lv_iload_n hx hb dX12_drop_27 rfl (lv_at hl 3 rfl) ?_
            refine cp_i (va_runS (As := [.int 0, .int 0, .int 1]) (rest := [.ref (qq 2)]) ⟨hx, hb, hml, hown, hts⟩ (c_M_at0 l g cT H.size 0 0 1) (va_cwS 3 hts gX12_drop_X12_at0 rfl rfl rfl yd_X12_at0.2 ⟨(Nat.le_of_ble_eq_true rfl), (Nat.le_of_ble_eq_true rfl)⟩) (preS (ws := []) (wc := []) rfl (fun _ _ h => by simp at h) (va_D_nil (A := A)) hK hN hZ hS hA [] rfl rfl) rfl rfl hl.1 rfl (lv_room (Nat.le_of_ble_eq_true rfl)) dX12_drop_28 ⟨(Nat.le_of_ble_eq_true rfl), (Nat.le_of_ble_eq_true rfl)⟩) hP hS hA (fun r_11 u H locs h_12 hP hS => ?_)
            subst h_12
            refine tI 1 (by decide) ?_
            refine w_iald (v := (-1)) hx hb hK hP 0 rfl dX12_drop_31 (inC (by decide)) rfl ?_
            refine lv_iconst (v := (-1)) hx hb dX12_drop_32 (by decide) ?_
            refine icmp_ne_f hx hb dX12_drop_33 39 (by decide) (by decide) ?_
            refine lv_bipush (v := (-2)) hx hb dX12_drop_36 (by decide) ?_
            exact rt_i hx hb hr hlocks hQ hP hD hS () [] dX12_drop_38 rfl (Nat.le_of_ble_eq_true rfl) (Nat.le_of_ble_eq_true rfl) rfl (by decide) rfl
          · skip
            refine if_eq_f hx hb dX12_drop_18 36 (by decide) (by decide) ?_
            refine lv_aload_n hx hb dX12_drop_21 rfl (lv_at hl 0 rfl) ?_
            refine va_get (C := RX12) (T := TX12) (N := 43) (v := .ref (qq 2)) hx hb hts hi_X12_drop_X12 hown hK hP 1 rfl rfl 2 (by decide) (hts (.fieldLink RX12 16 "BothWaysModel" "goTo" "[I") (by decide +kernel)) (fun _ h => h) rfl dX12_drop_22 ?_
            refine lv_iload_n hx hb dX12_drop_25 rfl (lv_at hl 1 rfl) ?_
            refine lv_iload_n hx hb dX12_drop_26 rfl (lv_at hl 2 rfl) ?_
            refine lv_iload_n hx hb dX12_drop_27 rfl (lv_at hl 3 rfl) ?_
            refine cp_i (va_runS (As := [.int 0, .int 0, .int 2]) (rest := [.ref (qq 2)]) ⟨hx, hb, hml, hown, hts⟩ (c_M_at0 l g cT H.size 0 0 2) (va_cwS 3 hts gX12_drop_X12_at0 rfl rfl rfl yd_X12_at0.2 ⟨(Nat.le_of_ble_eq_true rfl), (Nat.le_of_ble_eq_true rfl)⟩) (preS (ws := []) (wc := []) rfl (fun _ _ h => by simp at h) (va_D_nil (A := A)) hK hN hZ hS hA [] rfl rfl) rfl rfl hl.1 rfl (lv_room (Nat.le_of_ble_eq_true rfl)) dX12_drop_28 ⟨(Nat.le_of_ble_eq_true rfl), (Nat.le_of_ble_eq_true rfl)⟩) hP hS hA (fun r_13 u H locs h_14 hP hS => ?_)
            subst h_14
            refine tI 2 (by decide) ?_
            refine w_iald (v := (-1)) hx hb hK hP 0 rfl dX12_drop_31 (inC (by decide)) rfl ?_
            refine lv_iconst (v := (-1)) hx hb dX12_drop_32 (by decide) ?_
            refine icmp_ne_f hx hb dX12_drop_33 39 (by decide) (by decide) ?_
            refine lv_bipush (v := (-2)) hx hb dX12_drop_36 (by decide) ?_
            exact rt_i hx hb hr hlocks hQ hP hD hS () [] dX12_drop_38 rfl (Nat.le_of_ble_eq_true rfl) (Nat.le_of_ble_eq_true rfl) rfl (by decide) rfl
          · skip
            refine if_eq_f hx hb dX12_drop_18 36 (by decide) (by decide) ?_
            refine lv_aload_n hx hb dX12_drop_21 rfl (lv_at hl 0 rfl) ?_
            refine va_get (C := RX12) (T := TX12) (N := 43) (v := .ref (qq 2)) hx hb hts hi_X12_drop_X12 hown hK hP 1 rfl rfl 2 (by decide) (hts (.fieldLink RX12 16 "BothWaysModel" "goTo" "[I") (by decide +kernel)) (fun _ h => h) rfl dX12_drop_22 ?_
            refine lv_iload_n hx hb dX12_drop_25 rfl (lv_at hl 1 rfl) ?_
            refine lv_iload_n hx hb dX12_drop_26 rfl (lv_at hl 2 rfl) ?_
            refine lv_iload_n hx hb dX12_drop_27 rfl (lv_at hl 3 rfl) ?_
            refine cp_i (va_runS (As := [.int 0, .int 0, .int 3]) (rest := [.ref (qq 2)]) ⟨hx, hb, hml, hown, hts⟩ (c_M_at0 l g cT H.size 0 0 3) (va_cwS 3 hts gX12_drop_X12_at0 rfl rfl rfl yd_X12_at0.2 ⟨(Nat.le_of_ble_eq_true rfl), (Nat.le_of_ble_eq_true rfl)⟩) (preS (ws := []) (wc := []) rfl (fun _ _ h => by simp at h) (va_D_nil (A := A)) hK hN hZ hS hA [] rfl rfl) rfl rfl hl.1 rfl (lv_room (Nat.le_of_ble_eq_true rfl)) dX12_drop_28 ⟨(Nat.le_of_ble_eq_true rfl), (Nat.le_of_ble_eq_true rfl)⟩) hP hS hA (fun r_15 u H locs h_16 hP hS => ?_)
            subst h_16
            refine tI 3 (by decide) ?_
            refine w_iald (v := (-1)) hx hb hK hP 0 rfl dX12_drop_31 (inC (by decide)) rfl ?_
            refine lv_iconst (v := (-1)) hx hb dX12_drop_32 (by decide) ?_
            refine icmp_ne_f hx hb dX12_drop_33 39 (by decide) (by decide) ?_
            refine lv_bipush (v := (-2)) hx hb dX12_drop_36 (by decide) ?_
            exact rt_i hx hb hr hlocks hQ hP hD hS () [] dX12_drop_38 rfl (Nat.le_of_ble_eq_true rfl) (Nat.le_of_ble_eq_true rfl) rfl (by decide) rfl
          · skip
            refine if_eq_f hx hb dX12_drop_18 36 (by decide) (by decide) ?_
            refine lv_aload_n hx hb dX12_drop_21 rfl (lv_at hl 0 rfl) ?_
            refine va_get (C := RX12) (T := TX12) (N := 43) (v := .ref (qq 2)) hx hb hts hi_X12_drop_X12 hown hK hP 1 rfl rfl 2 (by decide) (hts (.fieldLink RX12 16 "BothWaysModel" "goTo" "[I") (by decide +kernel)) (fun _ h => h) rfl dX12_drop_22 ?_
            refine lv_iload_n hx hb dX12_drop_25 rfl (lv_at hl 1 rfl) ?_
            refine lv_iload_n hx hb dX12_drop_26 rfl (lv_at hl 2 rfl) ?_
            refine lv_iload_n hx hb dX12_drop_27 rfl (lv_at hl 3 rfl) ?_
            refine cp_i (va_runS (As := [.int 0, .int 0, .int 4]) (rest := [.ref (qq 2)]) ⟨hx, hb, hml, hown, hts⟩ (c_M_at0 l g cT H.size 0 0 4) (va_cwS 3 hts gX12_drop_X12_at0 rfl rfl rfl yd_X12_at0.2 ⟨(Nat.le_of_ble_eq_true rfl), (Nat.le_of_ble_eq_true rfl)⟩) (preS (ws := []) (wc := []) rfl (fun _ _ h => by simp at h) (va_D_nil (A := A)) hK hN hZ hS hA [] rfl rfl) rfl rfl hl.1 rfl (lv_room (Nat.le_of_ble_eq_true rfl)) dX12_drop_28 ⟨(Nat.le_of_ble_eq_true rfl), (Nat.le_of_ble_eq_true rfl)⟩) hP hS hA (fun r_17 u H locs h_18 hP hS => ?_)
            subst h_18
            refine tI 4 (by decide) ?_
            refine w_iald (v := (-1)) hx hb hK hP 0 rfl dX12_drop_31 (inC (by decide)) rfl ?_
            refine lv_iconst (v := (-1)) hx hb dX12_drop_32 (by decide) ?_
            refine icmp_ne_f hx hb dX12_drop_33 39 (by decide) (by decide) ?_
            refine lv_bipush (v := (-2)) hx hb dX12_drop_36 (by decide) ?_
            exact rt_i hx hb hr hlocks hQ hP hD hS () [] dX12_drop_38 rfl (Nat.le_of_ble_eq_true rfl) (Nat.le_of_ble_eq_true rfl) rfl (by decide) rfl
        · skip
          refine if_eq_t hx hb 36 dX12_drop_18 (by decide) (by decide) ?_
          refine lv_bipush (v := (-2)) hx hb dX12_drop_36 (by decide) ?_
          exact rt_i hx hb hr hlocks hQ hP hD hS () [] dX12_drop_38 rfl (Nat.le_of_ble_eq_true rfl) (Nat.le_of_ble_eq_true rfl) rfl (by decide) rfl
      · skip
        refine if_eq_f hx hb dX12_drop_6 36 (by decide) (by decide) ?_
        refine lv_iload_n hx hb dX12_drop_9 rfl (lv_at hl 3 rfl) ?_
        refine lv_i2l (v := z.toInt64) hx hb dX12_drop_10 rfl ?_
        refine lv_lconst (v := 0) hx hb dX12_drop_11 (by decide) ?_
        refine lv_ldc2 (v := 4) hx hb hown (hts (.constantLong RX12 174 (4)) (by decide +kernel)) dX12_drop_12 ?_
        refine cp_i (va_runS (As := [.long z.toInt64, .long 0, .long 4]) (rest := []) ⟨hx, hb, hml, hown, hts⟩ (c_M_in l g cT H.size z.toInt64 0 4) (va_cwS 3 hts gX12_drop_X12_in rfl rfl rfl yd_X12_in.2 ⟨(Nat.le_of_ble_eq_true rfl), (Nat.le_of_ble_eq_true rfl)⟩) (preS (ws := []) (wc := []) rfl (fun _ _ h => by simp at h) (va_D_nil (A := A)) hK hN hZ hS hA [] rfl rfl) rfl rfl hl.1 rfl (lv_room (Nat.le_of_ble_eq_true rfl)) dX12_drop_15 ⟨(Nat.le_of_ble_eq_true rfl), (Nat.le_of_ble_eq_true rfl)⟩) hP hS hA (fun r_19 u H locs h_20 hP hS => ?_)
        rcases h_20 with ⟨rfl, h_21⟩ | ⟨rfl, h_22⟩
        · skip
          rcases (lf_c_M_drop_1 z h_21) with rfl | rfl | rfl | rfl | rfl
          · skip
            refine if_eq_f hx hb dX12_drop_18 36 (by decide) (by decide) ?_
            refine lv_aload_n hx hb dX12_drop_21 rfl (lv_at hl 0 rfl) ?_
            refine va_get (C := RX12) (T := TX12) (N := 43) (v := .ref (qq 2)) hx hb hts hi_X12_drop_X12 hown hK hP 1 rfl rfl 2 (by decide) (hts (.fieldLink RX12 16 "BothWaysModel" "goTo" "[I") (by decide +kernel)) (fun _ h => h) rfl dX12_drop_22 ?_
            refine lv_iload_n hx hb dX12_drop_25 rfl (lv_at hl 1 rfl) ?_
            refine lv_iload_n hx hb dX12_drop_26 rfl (lv_at hl 2 rfl) ?_
            refine lv_iload_n hx hb dX12_drop_27 rfl (lv_at hl 3 rfl) ?_
            refine cp_i (va_runS (As := [.int 1, .int 0, .int 0]) (rest := [.ref (qq 2)]) ⟨hx, hb, hml, hown, hts⟩ (c_M_at0 l g cT H.size 1 0 0) (va_cwS 3 hts gX12_drop_X12_at0 rfl rfl rfl yd_X12_at0.2 ⟨(Nat.le_of_ble_eq_true rfl), (Nat.le_of_ble_eq_true rfl)⟩) (preS (ws := []) (wc := []) rfl (fun _ _ h => by simp at h) (va_D_nil (A := A)) hK hN hZ hS hA [] rfl rfl) rfl rfl hl.1 rfl (lv_room (Nat.le_of_ble_eq_true rfl)) dX12_drop_28 ⟨(Nat.le_of_ble_eq_true rfl), (Nat.le_of_ble_eq_true rfl)⟩) hP hS hA (fun r_23 u H locs h_24 hP hS => ?_)
            subst h_24
            refine tI 25 (by decide) ?_
            refine w_iald (v := (-1)) hx hb hK hP 0 rfl dX12_drop_31 (inC (by decide)) rfl ?_
            refine lv_iconst (v := (-1)) hx hb dX12_drop_32 (by decide) ?_
            refine icmp_ne_f hx hb dX12_drop_33 39 (by decide) (by decide) ?_
            refine lv_bipush (v := (-2)) hx hb dX12_drop_36 (by decide) ?_
            exact rt_i hx hb hr hlocks hQ hP hD hS () [] dX12_drop_38 rfl (Nat.le_of_ble_eq_true rfl) (Nat.le_of_ble_eq_true rfl) rfl (by decide) rfl
          · skip
            refine if_eq_f hx hb dX12_drop_18 36 (by decide) (by decide) ?_
            refine lv_aload_n hx hb dX12_drop_21 rfl (lv_at hl 0 rfl) ?_
            refine va_get (C := RX12) (T := TX12) (N := 43) (v := .ref (qq 2)) hx hb hts hi_X12_drop_X12 hown hK hP 1 rfl rfl 2 (by decide) (hts (.fieldLink RX12 16 "BothWaysModel" "goTo" "[I") (by decide +kernel)) (fun _ h => h) rfl dX12_drop_22 ?_
            refine lv_iload_n hx hb dX12_drop_25 rfl (lv_at hl 1 rfl) ?_
            refine lv_iload_n hx hb dX12_drop_26 rfl (lv_at hl 2 rfl) ?_
            refine lv_iload_n hx hb dX12_drop_27 rfl (lv_at hl 3 rfl) ?_
            refine cp_i (va_runS (As := [.int 1, .int 0, .int 1]) (rest := [.ref (qq 2)]) ⟨hx, hb, hml, hown, hts⟩ (c_M_at0 l g cT H.size 1 0 1) (va_cwS 3 hts gX12_drop_X12_at0 rfl rfl rfl yd_X12_at0.2 ⟨(Nat.le_of_ble_eq_true rfl), (Nat.le_of_ble_eq_true rfl)⟩) (preS (ws := []) (wc := []) rfl (fun _ _ h => by simp at h) (va_D_nil (A := A)) hK hN hZ hS hA [] rfl rfl) rfl rfl hl.1 rfl (lv_room (Nat.le_of_ble_eq_true rfl)) dX12_drop_28 ⟨(Nat.le_of_ble_eq_true rfl), (Nat.le_of_ble_eq_true rfl)⟩) hP hS hA (fun r_25 u H locs h_26 hP hS => ?_)
            subst h_26
            refine tI 26 (by decide) ?_
            refine w_iald (v := (-1)) hx hb hK hP 0 rfl dX12_drop_31 (inC (by decide)) rfl ?_
            refine lv_iconst (v := (-1)) hx hb dX12_drop_32 (by decide) ?_
            refine icmp_ne_f hx hb dX12_drop_33 39 (by decide) (by decide) ?_
            refine lv_bipush (v := (-2)) hx hb dX12_drop_36 (by decide) ?_
            exact rt_i hx hb hr hlocks hQ hP hD hS () [] dX12_drop_38 rfl (Nat.le_of_ble_eq_true rfl) (Nat.le_of_ble_eq_true rfl) rfl (by decide) rfl
          · skip
            refine if_eq_f hx hb dX12_drop_18 36 (by decide) (by decide) ?_
            refine lv_aload_n hx hb dX12_drop_21 rfl (lv_at hl 0 rfl) ?_
            refine va_get (C := RX12) (T := TX12) (N := 43) (v := .ref (qq 2)) hx hb hts hi_X12_drop_X12 hown hK hP 1 rfl rfl 2 (by decide) (hts (.fieldLink RX12 16 "BothWaysModel" "goTo" "[I") (by decide +kernel)) (fun _ h => h) rfl dX12_drop_22 ?_
            refine lv_iload_n hx hb dX12_drop_25 rfl (lv_at hl 1 rfl) ?_
            refine lv_iload_n hx hb dX12_drop_26 rfl (lv_at hl 2 rfl) ?_
            refine lv_iload_n hx hb dX12_drop_27 rfl (lv_at hl 3 rfl) ?_
            refine cp_i (va_runS (As := [.int 1, .int 0, .int 2]) (rest := [.ref (qq 2)]) ⟨hx, hb, hml, hown, hts⟩ (c_M_at0 l g cT H.size 1 0 2) (va_cwS 3 hts gX12_drop_X12_at0 rfl rfl rfl yd_X12_at0.2 ⟨(Nat.le_of_ble_eq_true rfl), (Nat.le_of_ble_eq_true rfl)⟩) (preS (ws := []) (wc := []) rfl (fun _ _ h => by simp at h) (va_D_nil (A := A)) hK hN hZ hS hA [] rfl rfl) rfl rfl hl.1 rfl (lv_room (Nat.le_of_ble_eq_true rfl)) dX12_drop_28 ⟨(Nat.le_of_ble_eq_true rfl), (Nat.le_of_ble_eq_true rfl)⟩) hP hS hA (fun r_27 u H locs h_28 hP hS => ?_)
            subst h_28
            refine tI 27 (by decide) ?_
            refine w_iald (v := (-1)) hx hb hK hP 0 rfl dX12_drop_31 (inC (by decide)) rfl ?_
            refine lv_iconst (v := (-1)) hx hb dX12_drop_32 (by decide) ?_
            refine icmp_ne_f hx hb dX12_drop_33 39 (by decide) (by decide) ?_
            refine lv_bipush (v := (-2)) hx hb dX12_drop_36 (by decide) ?_
            exact rt_i hx hb hr hlocks hQ hP hD hS () [] dX12_drop_38 rfl (Nat.le_of_ble_eq_true rfl) (Nat.le_of_ble_eq_true rfl) rfl (by decide) rfl
          · skip
            refine if_eq_f hx hb dX12_drop_18 36 (by decide) (by decide) ?_
            refine lv_aload_n hx hb dX12_drop_21 rfl (lv_at hl 0 rfl) ?_
            refine va_get (C := RX12) (T := TX12) (N := 43) (v := .ref (qq 2)) hx hb hts hi_X12_drop_X12 hown hK hP 1 rfl rfl 2 (by decide) (hts (.fieldLink RX12 16 "BothWaysModel" "goTo" "[I") (by decide +kernel)) (fun _ h => h) rfl dX12_drop_22 ?_
            refine lv_iload_n hx hb dX12_drop_25 rfl (lv_at hl 1 rfl) ?_
            refine lv_iload_n hx hb dX12_drop_26 rfl (lv_at hl 2 rfl) ?_
            refine lv_iload_n hx hb dX12_drop_27 rfl (lv_at hl 3 rfl) ?_
            refine cp_i (va_runS (As := [.int 1, .int 0, .int 3]) (rest := [.ref (qq 2)]) ⟨hx, hb, hml, hown, hts⟩ (c_M_at0 l g cT H.size 1 0 3) (va_cwS 3 hts gX12_drop_X12_at0 rfl rfl rfl yd_X12_at0.2 ⟨(Nat.le_of_ble_eq_true rfl), (Nat.le_of_ble_eq_true rfl)⟩) (preS (ws := []) (wc := []) rfl (fun _ _ h => by simp at h) (va_D_nil (A := A)) hK hN hZ hS hA [] rfl rfl) rfl rfl hl.1 rfl (lv_room (Nat.le_of_ble_eq_true rfl)) dX12_drop_28 ⟨(Nat.le_of_ble_eq_true rfl), (Nat.le_of_ble_eq_true rfl)⟩) hP hS hA (fun r_29 u H locs h_30 hP hS => ?_)
            subst h_30
            refine tI 28 (by decide) ?_
            refine w_iald (v := (-1)) hx hb hK hP 0 rfl dX12_drop_31 (inC (by decide)) rfl ?_
            refine lv_iconst (v := (-1)) hx hb dX12_drop_32 (by decide) ?_
            refine icmp_ne_f hx hb dX12_drop_33 39 (by decide) (by decide) ?_
            refine lv_bipush (v := (-2)) hx hb dX12_drop_36 (by decide) ?_
            exact rt_i hx hb hr hlocks hQ hP hD hS () [] dX12_drop_38 rfl (Nat.le_of_ble_eq_true rfl) (Nat.le_of_ble_eq_true rfl) rfl (by decide) rfl
          · skip
            refine if_eq_f hx hb dX12_drop_18 36 (by decide) (by decide) ?_
            refine lv_aload_n hx hb dX12_drop_21 rfl (lv_at hl 0 rfl) ?_
            refine va_get (C := RX12) (T := TX12) (N := 43) (v := .ref (qq 2)) hx hb hts hi_X12_drop_X12 hown hK hP 1 rfl rfl 2 (by decide) (hts (.fieldLink RX12 16 "BothWaysModel" "goTo" "[I") (by decide +kernel)) (fun _ h => h) rfl dX12_drop_22 ?_
            refine lv_iload_n hx hb dX12_drop_25 rfl (lv_at hl 1 rfl) ?_
            refine lv_iload_n hx hb dX12_drop_26 rfl (lv_at hl 2 rfl) ?_
            refine lv_iload_n hx hb dX12_drop_27 rfl (lv_at hl 3 rfl) ?_
            refine cp_i (va_runS (As := [.int 1, .int 0, .int 4]) (rest := [.ref (qq 2)]) ⟨hx, hb, hml, hown, hts⟩ (c_M_at0 l g cT H.size 1 0 4) (va_cwS 3 hts gX12_drop_X12_at0 rfl rfl rfl yd_X12_at0.2 ⟨(Nat.le_of_ble_eq_true rfl), (Nat.le_of_ble_eq_true rfl)⟩) (preS (ws := []) (wc := []) rfl (fun _ _ h => by simp at h) (va_D_nil (A := A)) hK hN hZ hS hA [] rfl rfl) rfl rfl hl.1 rfl (lv_room (Nat.le_of_ble_eq_true rfl)) dX12_drop_28 ⟨(Nat.le_of_ble_eq_true rfl), (Nat.le_of_ble_eq_true rfl)⟩) hP hS hA (fun r_31 u H locs h_32 hP hS => ?_)
            subst h_32
            refine tI 29 (by decide) ?_
            refine w_iald (v := (-1)) hx hb hK hP 0 rfl dX12_drop_31 (inC (by decide)) rfl ?_
            refine lv_iconst (v := (-1)) hx hb dX12_drop_32 (by decide) ?_
            refine icmp_ne_f hx hb dX12_drop_33 39 (by decide) (by decide) ?_
            refine lv_bipush (v := (-2)) hx hb dX12_drop_36 (by decide) ?_
            exact rt_i hx hb hr hlocks hQ hP hD hS () [] dX12_drop_38 rfl (Nat.le_of_ble_eq_true rfl) (Nat.le_of_ble_eq_true rfl) rfl (by decide) rfl
        · skip
          refine if_eq_t hx hb 36 dX12_drop_18 (by decide) (by decide) ?_
          refine lv_bipush (v := (-2)) hx hb dX12_drop_36 (by decide) ?_
          exact rt_i hx hb hr hlocks hQ hP hD hS () [] dX12_drop_38 rfl (Nat.le_of_ble_eq_true rfl) (Nat.le_of_ble_eq_true rfl) rfl (by decide) rfl
    · skip
      refine if_eq_t hx hb 36 dX12_drop_6 (by decide) (by decide) ?_
      refine lv_bipush (v := (-2)) hx hb dX12_drop_36 (by decide) ?_
      exact rt_i hx hb hr hlocks hQ hP hD hS () [] dX12_drop_38 rfl (Nat.le_of_ble_eq_true rfl) (Nat.le_of_ble_eq_true rfl) rfl (by decide) rfl
  rw [hH, hlo] at hgo
  exact hgo
theorem hi_X12_letter_X12 : ∀ w ∈ wsX120, w ∈ wsX12_letter := fun _ h => List.mem_cons_of_mem _ (List.mem_append_right _ h)
abbrev rm_c_M_letter : Room := { frames := 1, cells := 0, slots := 0, locals := 25 }
theorem lf_c_M_letter_0 (z : Int32) (h_3 : 0 ≤ z.toInt64 ∧ z.toInt64 ≤ 2) : (1 : Int32) = sp_letter z := by (unfold sp_letter; rw [if_pos] <;> (simp only [true_or, or_true, false_or, or_false, true_and, and_true, false_and, and_false, not_true_eq_false, not_false_eq_true, i_lt, i_le, i_eq, j_lt, j_le, j_eq, Int32.toInt_toInt64, li_0, lj_0, li_1, lj_1, li_2, lj_2, li_3, lj_3, li_4, lj_4, li_5, lj_5, li_6, lj_6, li_7, lj_7, li_8, lj_8, li_10, lj_10, li_11, lj_11, li_12, lj_12, li_24, lj_24, li_25, lj_25, li_50, lj_50, li_130, lj_130, li_160, lj_160, li_800, lj_800, li_4000, lj_4000, li_10000, lj_10000, li_16384, lj_16384, li_26, lj_26, li_32, lj_32, li_48, lj_48, li_57, lj_57, li_59, lj_59, li_97, lj_97, li_99, lj_99, li_122, lj_122, li_m1, lj_m1, li_m2, lj_m2, li_m3, lj_m3, li_m4, lj_m4, li_m5, lj_m5, li_m6, lj_m6] at * <;> omega))
theorem lf_c_M_letter_1 (z : Int32) (h_4 : ¬ (0 ≤ z.toInt64 ∧ z.toInt64 ≤ 2)) : ((-2) : Int32) = sp_letter z := by (unfold sp_letter; rw [if_neg] <;> (simp only [true_or, or_true, false_or, or_false, true_and, and_true, false_and, and_false, not_true_eq_false, not_false_eq_true, i_lt, i_le, i_eq, j_lt, j_le, j_eq, Int32.toInt_toInt64, li_0, lj_0, li_1, lj_1, li_2, lj_2, li_3, lj_3, li_4, lj_4, li_5, lj_5, li_6, lj_6, li_7, lj_7, li_8, lj_8, li_10, lj_10, li_11, lj_11, li_12, lj_12, li_24, lj_24, li_25, lj_25, li_50, lj_50, li_130, lj_130, li_160, lj_160, li_800, lj_800, li_4000, lj_4000, li_10000, lj_10000, li_16384, lj_16384, li_26, lj_26, li_32, lj_32, li_48, lj_48, li_57, lj_57, li_59, lj_59, li_97, lj_97, li_99, lj_99, li_122, lj_122, li_m1, lj_m1, li_m2, lj_m2, li_m3, lj_m3, li_m4, lj_m4, li_m5, lj_m5, li_m6, lj_m6] at * <;> omega))
set_option maxHeartbeats 4000000 in
set_option maxRecDepth 100000 in
theorem c_M_letter (l : Launch) (g : va_G) (cT : Nat → ClassId) (sz : Nat) (y : Nat) (qq : Nat → Nat) (z6 : Int32) (z12 : Int32) (z15 : Int32) (z16 : Int32) (z17 : Int32) (z19 : Int32) (z21 : Int32) (z22 : Int32) (z23 : Int32) (z24 : Int32) (z26 : Int32) (z30 : Int32) (z : Int32)  : Ctr l g cT sz yX12_letter wsX12_letter rm_c_M_letter [.ref y, .int z] [(y, .inr (12, [.ref (qq 0), .ref (qq 1), .ref (qq 2), .ref (qq 3), .ref (qq 4), .ref (qq 5), .int z6, .ref (qq 7), .ref (qq 8), .ref (qq 9), .ref (qq 10), .ref (qq 11), .int z12, .ref (qq 13), .int 0, .int z15, .int z16, .int z17, .ref (qq 18), .int z19, .ref (qq 20), .int z21, .int z22, .int z23, .int z24, .ref (qq 25), .int z26, .ref (qq 27), .ref (qq 28), .ref (qq 29), .int z30, .ref (qq 31), .ref (qq 32), .ref (qq 33), .ref (qq 34), .ref (qq 35), .ref (qq 36), .ref (qq 37), .ref (qq 38), .ref (qq 39), .ref (qq 40), .ref (qq 41), .ref (qq 42)])), ((qq 13), .inl (cT 0, 24, .inl (fun _ => 0)))] (QI g (fun (r : Int32) (u : Unit) => r = sp_letter z) (fun (u : Unit) => [])) 0 0 := by
  refine mk_ctr (cc := cX12_letter) (maxL := 2) (ret := (some .int)) (by decide) rfl (Nat.le_of_ble_eq_true rfl) ?_
  intro p e s m args below meth c A Q hx hb hr hts hown hlocks hin hml hP hK hD hN hZ hA hS hQ ls hl
  have hl : lv_has ls 2 [(0, .ref y), (1, .int z)] := hl
  obtain ⟨H, hH⟩ : ∃ H : Heap, H = s.heap := ⟨_, rfl⟩
  obtain ⟨locs, hlo⟩ : ∃ x : List Loc, x = [] := ⟨_, rfl⟩
  rw [← hH] at hP
  have hS : va_S A s.heap H locs := by rw [hH, hlo]; exact hS
  have hgo : W p l e rm_c_M_letter s m args below meth c H locs 0 0 Q (F0 m 0 ls []) := by
    clear hH hlo
    refine lv_iload_n hx hb dX12_letter_0 rfl (lv_at hl 1 rfl) ?_
    refine lv_i2l (v := z.toInt64) hx hb dX12_letter_1 rfl ?_
    refine lv_lconst (v := 0) hx hb dX12_letter_2 (by decide) ?_
    refine lv_ldc2 (v := 2) hx hb hown (hts (.constantLong RX12 176 (2)) (by decide +kernel)) dX12_letter_3 ?_
    refine cp_i (va_runS (As := [.long z.toInt64, .long 0, .long 2]) (rest := []) ⟨hx, hb, hml, hown, hts⟩ (c_M_in l g cT H.size z.toInt64 0 2) (va_cwS 3 hts gX12_letter_X12_in rfl rfl rfl yd_X12_in.2 ⟨(Nat.le_of_ble_eq_true rfl), (Nat.le_of_ble_eq_true rfl)⟩) (preS (ws := []) (wc := []) rfl (fun _ _ h => by simp at h) (va_D_nil (A := A)) hK hN hZ hS hA [] rfl rfl) rfl rfl hl.1 rfl (lv_room (Nat.le_of_ble_eq_true rfl)) dX12_letter_6 ⟨(Nat.le_of_ble_eq_true rfl), (Nat.le_of_ble_eq_true rfl)⟩) hP hS hA (fun r_1 u H locs h_2 hP hS => ?_)
    rcases h_2 with ⟨rfl, h_3⟩ | ⟨rfl, h_4⟩
    · skip
      refine if_ne_t hx hb 15 dX12_letter_9 (by decide) (by decide) ?_
      refine lv_aload_n hx hb dX12_letter_15 rfl (lv_at hl 0 rfl) ?_
      refine va_get (C := RX12) (T := TX12) (N := 43) (v := .int 0) hx hb hts hi_X12_letter_X12 hown hK hP 0 rfl rfl 14 (by decide) (hts (.fieldLink RX12 178 "BothWaysModel" "letters" "I") (by decide +kernel)) (fun _ h => h) rfl dX12_letter_16 ?_
      refine lv_bipush (v := 24) hx hb dX12_letter_19 (by decide) ?_
      refine icmp_ne_t hx hb 27 dX12_letter_21 (by decide) (by decide) ?_
      refine lv_aload_n hx hb dX12_letter_27 rfl (lv_at hl 0 rfl) ?_
      refine va_get (C := RX12) (T := TX12) (N := 43) (v := .ref (qq 13)) hx hb hts hi_X12_letter_X12 hown hK hP 0 rfl rfl 13 (by decide) (hts (.fieldLink RX12 43 "BothWaysModel" "row" "[I") (by decide +kernel)) (fun _ h => h) rfl dX12_letter_28 ?_
      refine lv_aload_n hx hb dX12_letter_31 rfl (lv_at hl 0 rfl) ?_
      refine va_get (C := RX12) (T := TX12) (N := 43) (v := .int 0) hx hb hts hi_X12_letter_X12 hown hK hP 0 rfl rfl 14 (by decide) (hts (.fieldLink RX12 178 "BothWaysModel" "letters" "I") (by decide +kernel)) (fun _ h => h) rfl dX12_letter_32 ?_
      refine lv_iload_n hx hb dX12_letter_35 rfl (lv_at hl 1 rfl) ?_
      refine w_iast (f' := (upd (fun _ => 0) 0 z)) hx hb hK hP hD hS 1 rfl dX12_letter_36 (inC (by decide)) rfl (fun H locs hP hD hS => ?_)
      have hP : va_P g vwCl [(y, .inr (12, [.ref (qq 0), .ref (qq 1), .ref (qq 2), .ref (qq 3), .ref (qq 4), .ref (qq 5), .int z6, .ref (qq 7), .ref (qq 8), .ref (qq 9), .ref (qq 10), .ref (qq 11), .int z12, .ref (qq 13), .int 0, .int z15, .int z16, .int z17, .ref (qq 18), .int z19, .ref (qq 20), .int z21, .int z22, .int z23, .int z24, .ref (qq 25), .int z26, .ref (qq 27), .ref (qq 28), .ref (qq 29), .int z30, .ref (qq 31), .ref (qq 32), .ref (qq 33), .ref (qq 34), .ref (qq 35), .ref (qq 36), .ref (qq 37), .ref (qq 38), .ref (qq 39), .ref (qq 40), .ref (qq 41), .ref (qq 42)])), ((qq 13), .inl (cT 0, 24, .inl (upd (fun _ => 0) 0 z)))] H := hP
      have hD : va_D A [(y, .inr (12, [.ref (qq 0), .ref (qq 1), .ref (qq 2), .ref (qq 3), .ref (qq 4), .ref (qq 5), .int z6, .ref (qq 7), .ref (qq 8), .ref (qq 9), .ref (qq 10), .ref (qq 11), .int z12, .ref (qq 13), .int 0, .int z15, .int z16, .int z17, .ref (qq 18), .int z19, .ref (qq 20), .int z21, .int z22, .int z23, .int z24, .ref (qq 25), .int z26, .ref (qq 27), .ref (qq 28), .ref (qq 29), .int z30, .ref (qq 31), .ref (qq 32), .ref (qq 33), .ref (qq 34), .ref (qq 35), .ref (qq 36), .ref (qq 37), .ref (qq 38), .ref (qq 39), .ref (qq 40), .ref (qq 41), .ref (qq 42)])), ((qq 13), .inl (cT 0, 24, .inl (upd (fun _ => 0) 0 z)))] := hD
      refine lv_aload_n hx hb dX12_letter_37 rfl (lv_at hl 0 rfl) ?_
      refine lv_dup hx hb dX12_letter_38 rfl ?_
      refine va_get (C := RX12) (T := TX12) (N := 43) (v := .int 0) hx hb hts hi_X12_letter_X12 hown hK hP 0 rfl rfl 14 (by decide) (hts (.fieldLink RX12 178 "BothWaysModel" "letters" "I") (by decide +kernel)) (fun _ h => h) rfl dX12_letter_39 ?_
      refine lv_iconst (v := 1) hx hb dX12_letter_42 (by decide) ?_
      refine w_iadd (v := 1) hx hb dX12_letter_43 (by decide) ?_
      refine va_put (C := RX12) (T := TX12) (N := 43) (v := .int 1) (ty := .int) hx hb hts hi_X12_letter_X12 tyX12 tyX12_ok nmX12 hown hK hP hD hS 0 rfl rfl 14 (by decide) (hts (.fieldLink RX12 178 "BothWaysModel" "letters" "I") (by decide +kernel)) (fun _ h => h) rfl (by decide +kernel) rfl rfl (Nat.le_of_ble_eq_true rfl) dX12_letter_44 (fun H locs hP hD hS => ?_)
      have hP : va_P g vwCl [(y, .inr (12, [.ref (qq 0), .ref (qq 1), .ref (qq 2), .ref (qq 3), .ref (qq 4), .ref (qq 5), .int z6, .ref (qq 7), .ref (qq 8), .ref (qq 9), .ref (qq 10), .ref (qq 11), .int z12, .ref (qq 13), .int 1, .int z15, .int z16, .int z17, .ref (qq 18), .int z19, .ref (qq 20), .int z21, .int z22, .int z23, .int z24, .ref (qq 25), .int z26, .ref (qq 27), .ref (qq 28), .ref (qq 29), .int z30, .ref (qq 31), .ref (qq 32), .ref (qq 33), .ref (qq 34), .ref (qq 35), .ref (qq 36), .ref (qq 37), .ref (qq 38), .ref (qq 39), .ref (qq 40), .ref (qq 41), .ref (qq 42)])), ((qq 13), .inl (cT 0, 24, .inl (upd (fun _ => 0) 0 z)))] H := hP
      have hD : va_D A [(y, .inr (12, [.ref (qq 0), .ref (qq 1), .ref (qq 2), .ref (qq 3), .ref (qq 4), .ref (qq 5), .int z6, .ref (qq 7), .ref (qq 8), .ref (qq 9), .ref (qq 10), .ref (qq 11), .int z12, .ref (qq 13), .int 1, .int z15, .int z16, .int z17, .ref (qq 18), .int z19, .ref (qq 20), .int z21, .int z22, .int z23, .int z24, .ref (qq 25), .int z26, .ref (qq 27), .ref (qq 28), .ref (qq 29), .int z30, .ref (qq 31), .ref (qq 32), .ref (qq 33), .ref (qq 34), .ref (qq 35), .ref (qq 36), .ref (qq 37), .ref (qq 38), .ref (qq 39), .ref (qq 40), .ref (qq 41), .ref (qq 42)])), ((qq 13), .inl (cT 0, 24, .inl (upd (fun _ => 0) 0 z)))] := hD
      refine lv_aload_n hx hb dX12_letter_47 rfl (lv_at hl 0 rfl) ?_
      refine va_get (C := RX12) (T := TX12) (N := 43) (v := .int 1) hx hb hts hi_X12_letter_X12 hown hK hP 0 rfl rfl 14 (by decide) (hts (.fieldLink RX12 178 "BothWaysModel" "letters" "I") (by decide +kernel)) (fun _ h => h) rfl dX12_letter_48 ?_
      exact rt_i hx hb hr hlocks hQ hP hD hS () [] dX12_letter_51 rfl (Nat.le_of_ble_eq_true rfl) (Nat.le_of_ble_eq_true rfl) rfl (by decide) (lf_c_M_letter_0 z h_3)
    · skip
      refine if_ne_f hx hb dX12_letter_9 15 (by decide) (by decide) ?_
      refine lv_bipush (v := (-2)) hx hb dX12_letter_12 (by decide) ?_
      exact rt_i hx hb hr hlocks hQ hP hD hS () [] dX12_letter_14 rfl (Nat.le_of_ble_eq_true rfl) (Nat.le_of_ble_eq_true rfl) rfl (by decide) (lf_c_M_letter_1 z h_4)
  rw [hH, hlo] at hgo
  exact hgo
theorem hi_X12_row_X12 : ∀ w ∈ wsX120, w ∈ wsX12_row := fun _ h => List.mem_cons_of_mem _ (List.mem_append_right _ h)
abbrev rm_c_M_row : Room := { frames := 1, cells := 0, slots := 0, locals := 25 }
theorem lf_c_M_row_0 (n : Int32) (h_3 : 0 ≤ n.toInt64 ∧ n.toInt64 ≤ 24) : ¬ n < 0 := by (simp only [true_or, or_true, false_or, or_false, true_and, and_true, false_and, and_false, not_true_eq_false, not_false_eq_true, i_lt, i_le, i_eq, j_lt, j_le, j_eq, Int32.toInt_toInt64, li_0, lj_0, li_1, lj_1, li_2, lj_2, li_3, lj_3, li_4, lj_4, li_5, lj_5, li_6, lj_6, li_7, lj_7, li_8, lj_8, li_10, lj_10, li_11, lj_11, li_12, lj_12, li_24, lj_24, li_25, lj_25, li_50, lj_50, li_130, lj_130, li_160, lj_160, li_800, lj_800, li_4000, lj_4000, li_10000, lj_10000, li_16384, lj_16384, li_26, lj_26, li_32, lj_32, li_48, lj_48, li_57, lj_57, li_59, lj_59, li_97, lj_97, li_99, lj_99, li_122, lj_122, li_m1, lj_m1, li_m2, lj_m2, li_m3, lj_m3, li_m4, lj_m4, li_m5, lj_m5, li_m6, lj_m6] at * <;> omega)
theorem lf_c_M_row_1 (n : Int32) (h_3 : 0 ≤ n.toInt64 ∧ n.toInt64 ≤ 24) : n ≤ 24 := by (simp only [true_or, or_true, false_or, or_false, true_and, and_true, false_and, and_false, not_true_eq_false, not_false_eq_true, i_lt, i_le, i_eq, j_lt, j_le, j_eq, Int32.toInt_toInt64, li_0, lj_0, li_1, lj_1, li_2, lj_2, li_3, lj_3, li_4, lj_4, li_5, lj_5, li_6, lj_6, li_7, lj_7, li_8, lj_8, li_10, lj_10, li_11, lj_11, li_12, lj_12, li_24, lj_24, li_25, lj_25, li_50, lj_50, li_130, lj_130, li_160, lj_160, li_800, lj_800, li_4000, lj_4000, li_10000, lj_10000, li_16384, lj_16384, li_26, lj_26, li_32, lj_32, li_48, lj_48, li_57, lj_57, li_59, lj_59, li_97, lj_97, li_99, lj_99, li_122, lj_122, li_m1, lj_m1, li_m2, lj_m2, li_m3, lj_m3, li_m4, lj_m4, li_m5, lj_m5, li_m6, lj_m6] at * <;> omega)
theorem lf_c_M_row_2 (b : Int64) (n : Int32) (h_4 : ¬ (0 ≤ n.toInt64 ∧ n.toInt64 ≤ 24)) : (-3 : Int32) = sp_row b n := by (unfold sp_row; rw [if_pos (show n < 0 ∨ 24 < n from by (simp only [true_or, or_true, false_or, or_false, true_and, and_true, false_and, and_false, not_true_eq_false, not_false_eq_true, i_lt, i_le, i_eq, j_lt, j_le, j_eq, Int32.toInt_toInt64, li_0, lj_0, li_1, lj_1, li_2, lj_2, li_3, lj_3, li_4, lj_4, li_5, lj_5, li_6, lj_6, li_7, lj_7, li_8, lj_8, li_10, lj_10, li_11, lj_11, li_12, lj_12, li_24, lj_24, li_25, lj_25, li_50, lj_50, li_130, lj_130, li_160, lj_160, li_800, lj_800, li_4000, lj_4000, li_10000, lj_10000, li_16384, lj_16384, li_26, lj_26, li_32, lj_32, li_48, lj_48, li_57, lj_57, li_59, lj_59, li_97, lj_97, li_99, lj_99, li_122, lj_122, li_m1, lj_m1, li_m2, lj_m2, li_m3, lj_m3, li_m4, lj_m4, li_m5, lj_m5, li_m6, lj_m6] at * <;> omega))])
set_option maxHeartbeats 4000000 in
set_option maxRecDepth 100000 in
theorem c_M_row (l : Launch) (g : va_G) (cT : Nat → ClassId) (sz : Nat) (y : Nat) (qq : Nat → Nat) (z6 : Int32) (z12 : Int32) (z14 : Int32) (z15 : Int32) (z16 : Int32) (z17 : Int32) (z19 : Int32) (z21 : Int32) (z22 : Int32) (z23 : Int32) (z24 : Int32) (z26 : Int32) (z30 : Int32) (b : Int64) (n : Int32)  : Ctr l g cT sz yX12_row wsX12_row rm_c_M_row [.ref y, .long b, .int n] [(y, .inr (12, [.ref (qq 0), .ref (qq 1), .ref (qq 2), .ref (qq 3), .ref (qq 4), .ref (qq 5), .int z6, .ref (qq 7), .ref (qq 8), .ref (qq 9), .ref (qq 10), .ref (qq 11), .int z12, .ref (qq 13), .int z14, .int z15, .int z16, .int z17, .ref (qq 18), .int z19, .ref (qq 20), .int z21, .int z22, .int z23, .int z24, .ref (qq 25), .int z26, .ref (qq 27), .ref (qq 28), .ref (qq 29), .int z30, .ref (qq 31), .ref (qq 32), .ref (qq 33), .ref (qq 34), .ref (qq 35), .ref (qq 36), .ref (qq 37), .ref (qq 38), .ref (qq 39), .ref (qq 40), .ref (qq 41), .ref (qq 42)])), ((qq 13), .inl (cT 0, 24, .inl (fun _ => 0)))] (QI g (fun (r : Int32) (u : Unit) => r = sp_row b n) (fun (u : Unit) => [])) 0 0 := by
  refine mk_ctr (cc := cX12_row) (maxL := 5) (ret := (some .int)) (by decide) rfl (Nat.le_of_ble_eq_true rfl) ?_
  intro p e s m args below meth c A Q hx hb hr hts hown hlocks hin hml hP hK hD hN hZ hA hS hQ ls hl
  have hl : lv_has ls 5 [(0, .ref y), (1, .long b), (3, .int n)] := hl
  obtain ⟨H, hH⟩ : ∃ H : Heap, H = s.heap := ⟨_, rfl⟩
  obtain ⟨locs, hlo⟩ : ∃ x : List Loc, x = [] := ⟨_, rfl⟩
  rw [← hH] at hP
  have hS : va_S A s.heap H locs := by rw [hH, hlo]; exact hS
  have hgo : W p l e rm_c_M_row s m args below meth c H locs 0 0 Q (F0 m 0 ls []) := by
    clear hH hlo
    refine lv_iload_n hx hb dX12_row_0 rfl (lv_at hl 2 rfl) ?_
    refine lv_i2l (v := n.toInt64) hx hb dX12_row_1 rfl ?_
    refine lv_lconst (v := 0) hx hb dX12_row_2 (by decide) ?_
    refine lv_ldc2 (v := 24) hx hb hown (hts (.constantLong RX12 181 (24)) (by decide +kernel)) dX12_row_3 ?_
    refine cp_i (va_runS (As := [.long n.toInt64, .long 0, .long 24]) (rest := []) ⟨hx, hb, hml, hown, hts⟩ (c_M_in l g cT H.size n.toInt64 0 24) (va_cwS 3 hts gX12_row_X12_in rfl rfl rfl yd_X12_in.2 ⟨(Nat.le_of_ble_eq_true rfl), (Nat.le_of_ble_eq_true rfl)⟩) (preS (ws := []) (wc := []) rfl (fun _ _ h => by simp at h) (va_D_nil (A := A)) hK hN hZ hS hA [] rfl rfl) rfl rfl hl.1 rfl (lv_room (Nat.le_of_ble_eq_true rfl)) dX12_row_6 ⟨(Nat.le_of_ble_eq_true rfl), (Nat.le_of_ble_eq_true rfl)⟩) hP hS hA (fun r_1 u H locs h_2 hP hS => ?_)
    rcases h_2 with ⟨rfl, h_3⟩ | ⟨rfl, h_4⟩
    · skip
      obtain ⟨N, hM, rfl⟩ := nI_of2 (x := n) (M := 24) (n := 24) (by decide) (lf_c_M_row_0 n h_3) (lf_c_M_row_1 n h_3)
      refine if_ne_t hx hb 15 dX12_row_9 (by decide) (by decide) ?_
      refine lv_iconst (v := 0) hx hb dX12_row_15 (by decide) ?_
      refine lv_istore (lv' := [(4, .int 0), (0, .ref y), (1, .long b), (3, .int (nI N))]) hx hb dX12_row_16 hl (by decide) rfl (fun ls hl => ?_)
      have loop_5 : ∀ (fuel : Nat) (j : Nat), j ≤ N → (∀ i, i < j → ¬ (b >>> (((2 : Int32) * nI i).toInt64 &&& 63)) &&& (3 : Int64) = 3) → N - j < fuel → ∀ (H : Heap) (locs : List Loc), va_P g vwCl [(y, .inr (12, [.ref (qq 0), .ref (qq 1), .ref (qq 2), .ref (qq 3), .ref (qq 4), .ref (qq 5), .int z6, .ref (qq 7), .ref (qq 8), .ref (qq 9), .ref (qq 10), .ref (qq 11), .int z12, .ref (qq 13), .int z14, .int z15, .int z16, .int z17, .ref (qq 18), .int z19, .ref (qq 20), .int z21, .int z22, .int z23, .int z24, .ref (qq 25), .int z26, .ref (qq 27), .ref (qq 28), .ref (qq 29), .int z30, .ref (qq 31), .ref (qq 32), .ref (qq 33), .ref (qq 34), .ref (qq 35), .ref (qq 36), .ref (qq 37), .ref (qq 38), .ref (qq 39), .ref (qq 40), .ref (qq 41), .ref (qq 42)])), ((qq 13), .inl (cT 0, 24, .inl (fun _ => 0)))] H → va_D A [(y, .inr (12, [.ref (qq 0), .ref (qq 1), .ref (qq 2), .ref (qq 3), .ref (qq 4), .ref (qq 5), .int z6, .ref (qq 7), .ref (qq 8), .ref (qq 9), .ref (qq 10), .ref (qq 11), .int z12, .ref (qq 13), .int z14, .int z15, .int z16, .int z17, .ref (qq 18), .int z19, .ref (qq 20), .int z21, .int z22, .int z23, .int z24, .ref (qq 25), .int z26, .ref (qq 27), .ref (qq 28), .ref (qq 29), .int z30, .ref (qq 31), .ref (qq 32), .ref (qq 33), .ref (qq 34), .ref (qq 35), .ref (qq 36), .ref (qq 37), .ref (qq 38), .ref (qq 39), .ref (qq 40), .ref (qq 41), .ref (qq 42)])), ((qq 13), .inl (cT 0, 24, .inl (fun _ => 0)))] → va_S A s.heap H locs → ∀ ls : Array Slot, lv_has ls 5 [(4, .int (nI j)), (0, .ref y), (1, .long b), (3, .int (nI N))] → W p l e rm_c_M_row s m args below meth c H locs 0 0 Q (F0 m 18 ls []) := by
        intro fuel
        induction fuel with
        | zero => intro j hj hok1 hfu; omega
        | succ fuel ih_loop_5 =>
          intro j hj hok1 hfu H locs hP hD hS ls hl
          refine lv_iload hx hb dX12_row_18 (lv_at hl 0 rfl) ?_
          refine lv_iload_n hx hb dX12_row_20 rfl (lv_at hl 3 rfl) ?_
          refine lv_icmp_ge (tgt := 50) hx hb dX12_row_21 (by decide) (fun c_6 => ?_) (fun c_6 => ?_)
          · skip
            have hok : ∀ i, i < N → ¬ (b >>> (((2 : Int32) * nI i).toInt64 &&& 63)) &&& (3 : Int64) = 3 := fun i hi => hok1 i (Nat.lt_of_lt_of_le hi ((nI_leI (by omega) (by omega)).mp c_6))
            refine lv_iconst (v := 0) hx hb dX12_row_50 (by decide) ?_
            refine lv_istore (lv' := [(4, .int 0), (0, .ref y), (1, .long b), (3, .int (nI N))]) hx hb dX12_row_51 hl (by decide) rfl (fun ls hl => ?_)
            have loop_7 : ∀ (fuel : Nat) (j3 : Nat) (f2 : Nat → Int32), j3 ≤ N → N - j3 < fuel → ∀ (H : Heap) (locs : List Loc), va_P g vwCl [(y, .inr (12, [.ref (qq 0), .ref (qq 1), .ref (qq 2), .ref (qq 3), .ref (qq 4), .ref (qq 5), .int z6, .ref (qq 7), .ref (qq 8), .ref (qq 9), .ref (qq 10), .ref (qq 11), .int z12, .ref (qq 13), .int z14, .int z15, .int z16, .int z17, .ref (qq 18), .int z19, .ref (qq 20), .int z21, .int z22, .int z23, .int z24, .ref (qq 25), .int z26, .ref (qq 27), .ref (qq 28), .ref (qq 29), .int z30, .ref (qq 31), .ref (qq 32), .ref (qq 33), .ref (qq 34), .ref (qq 35), .ref (qq 36), .ref (qq 37), .ref (qq 38), .ref (qq 39), .ref (qq 40), .ref (qq 41), .ref (qq 42)])), ((qq 13), .inl (cT 0, 24, .inl f2))] H → va_D A [(y, .inr (12, [.ref (qq 0), .ref (qq 1), .ref (qq 2), .ref (qq 3), .ref (qq 4), .ref (qq 5), .int z6, .ref (qq 7), .ref (qq 8), .ref (qq 9), .ref (qq 10), .ref (qq 11), .int z12, .ref (qq 13), .int z14, .int z15, .int z16, .int z17, .ref (qq 18), .int z19, .ref (qq 20), .int z21, .int z22, .int z23, .int z24, .ref (qq 25), .int z26, .ref (qq 27), .ref (qq 28), .ref (qq 29), .int z30, .ref (qq 31), .ref (qq 32), .ref (qq 33), .ref (qq 34), .ref (qq 35), .ref (qq 36), .ref (qq 37), .ref (qq 38), .ref (qq 39), .ref (qq 40), .ref (qq 41), .ref (qq 42)])), ((qq 13), .inl (cT 0, 24, .inl f2))] → va_S A s.heap H locs → ∀ ls : Array Slot, lv_has ls 5 [(4, .int (nI j3)), (0, .ref y), (1, .long b), (3, .int (nI N))] → W p l e rm_c_M_row s m args below meth c H locs 0 0 Q (F0 m 53 ls []) := by
              intro fuel
              induction fuel with
              | zero => intro j3 f2 hj3 hfu; omega
              | succ fuel ih_loop_7 =>
                intro j3 f2 hj3 hfu H locs hP hD hS ls hl
                refine lv_iload hx hb dX12_row_53 (lv_at hl 0 rfl) ?_
                refine lv_iload_n hx hb dX12_row_55 rfl (lv_at hl 3 rfl) ?_
                refine lv_icmp_ge (tgt := 83) hx hb dX12_row_56 (by decide) (fun c_8 => ?_) (fun c_8 => ?_)
                · skip
                  refine lv_aload_n hx hb dX12_row_83 rfl (lv_at hl 1 rfl) ?_
                  refine lv_iload_n hx hb dX12_row_84 rfl (lv_at hl 3 rfl) ?_
                  refine va_put (C := RX12) (T := TX12) (N := 43) (v := .int (nI N)) (ty := .int) hx hb hts hi_X12_row_X12 tyX12 tyX12_ok nmX12 hown hK hP hD hS 0 rfl rfl 14 (by decide) (hts (.fieldLink RX12 178 "BothWaysModel" "letters" "I") (by decide +kernel)) (fun _ h => h) rfl (by decide +kernel) rfl rfl (Nat.le_of_ble_eq_true rfl) dX12_row_85 (fun H locs hP hD hS => ?_)
                  have hP : va_P g vwCl [(y, .inr (12, [.ref (qq 0), .ref (qq 1), .ref (qq 2), .ref (qq 3), .ref (qq 4), .ref (qq 5), .int z6, .ref (qq 7), .ref (qq 8), .ref (qq 9), .ref (qq 10), .ref (qq 11), .int z12, .ref (qq 13), .int (nI N), .int z15, .int z16, .int z17, .ref (qq 18), .int z19, .ref (qq 20), .int z21, .int z22, .int z23, .int z24, .ref (qq 25), .int z26, .ref (qq 27), .ref (qq 28), .ref (qq 29), .int z30, .ref (qq 31), .ref (qq 32), .ref (qq 33), .ref (qq 34), .ref (qq 35), .ref (qq 36), .ref (qq 37), .ref (qq 38), .ref (qq 39), .ref (qq 40), .ref (qq 41), .ref (qq 42)])), ((qq 13), .inl (cT 0, 24, .inl f2))] H := hP
                  have hD : va_D A [(y, .inr (12, [.ref (qq 0), .ref (qq 1), .ref (qq 2), .ref (qq 3), .ref (qq 4), .ref (qq 5), .int z6, .ref (qq 7), .ref (qq 8), .ref (qq 9), .ref (qq 10), .ref (qq 11), .int z12, .ref (qq 13), .int (nI N), .int z15, .int z16, .int z17, .ref (qq 18), .int z19, .ref (qq 20), .int z21, .int z22, .int z23, .int z24, .ref (qq 25), .int z26, .ref (qq 27), .ref (qq 28), .ref (qq 29), .int z30, .ref (qq 31), .ref (qq 32), .ref (qq 33), .ref (qq 34), .ref (qq 35), .ref (qq 36), .ref (qq 37), .ref (qq 38), .ref (qq 39), .ref (qq 40), .ref (qq 41), .ref (qq 42)])), ((qq 13), .inl (cT 0, 24, .inl f2))] := hD
                  refine lv_iconst (v := 1) hx hb dX12_row_88 (by decide) ?_
                  exact rt_i hx hb hr hlocks hQ hP hD hS () [] dX12_row_89 rfl (Nat.le_of_ble_eq_true rfl) (Nat.le_of_ble_eq_true rfl) rfl (by decide) (rp_ok N b hM hok)
                · skip
                  have hlt3 : j3 < N := Nat.lt_of_not_le (fun h => c_8 (nI_le h (by omega)))
                  refine lv_aload_n hx hb dX12_row_59 rfl (lv_at hl 1 rfl) ?_
                  refine va_get (C := RX12) (T := TX12) (N := 43) (v := .ref (qq 13)) hx hb hts hi_X12_row_X12 hown hK hP 0 rfl rfl 13 (by decide) (hts (.fieldLink RX12 43 "BothWaysModel" "row" "[I") (by decide +kernel)) (fun _ h => h) rfl dX12_row_60 ?_
                  refine lv_iload hx hb dX12_row_63 (lv_at hl 0 rfl) ?_
                  refine lv_lload_n hx hb dX12_row_65 rfl (lv_at hl 2 rfl) ?_
                  refine lv_iconst (v := 2) hx hb dX12_row_66 (by decide) ?_
                  refine lv_iload hx hb dX12_row_67 (lv_at hl 0 rfl) ?_
                  refine w_imul (v := (2 : Int32) * (nI j3)) hx hb dX12_row_69 rfl ?_
                  refine lv_lshr (v := b >>> (((2 : Int32) * (nI j3)).toInt64 &&& 63)) hx hb dX12_row_70 rfl ?_
                  refine lv_ldc2 (v := 3) hx hb hown (hts (.constantLong RX12 183 (3)) (by decide +kernel)) dX12_row_71 ?_
                  refine w_land (v := (b >>> (((2 : Int32) * (nI j3)).toInt64 &&& 63)) &&& (3 : Int64)) hx hb dX12_row_74 rfl ?_
                  refine lv_l2i (v := ((b >>> (((2 : Int32) * (nI j3)).toInt64 &&& 63)) &&& (3 : Int64)).toInt32) hx hb dX12_row_75 rfl ?_
                  obtain ⟨f_9, ef_9⟩ : ∃ z, z = upd f2 (nI j3).toNatClampNeg (((b >>> (((2 : Int32) * (nI j3)).toInt64 &&& 63)) &&& (3 : Int64)).toInt32) := ⟨_, rfl⟩
                  refine w_iast (f' := f_9) hx hb hK hP hD hS 1 rfl dX12_row_76 (vp_in_nI (show j3 < 24 by omega) (by decide)) ef_9.symm (fun H locs hP hD hS => ?_)
                  have hP : va_P g vwCl [(y, .inr (12, [.ref (qq 0), .ref (qq 1), .ref (qq 2), .ref (qq 3), .ref (qq 4), .ref (qq 5), .int z6, .ref (qq 7), .ref (qq 8), .ref (qq 9), .ref (qq 10), .ref (qq 11), .int z12, .ref (qq 13), .int z14, .int z15, .int z16, .int z17, .ref (qq 18), .int z19, .ref (qq 20), .int z21, .int z22, .int z23, .int z24, .ref (qq 25), .int z26, .ref (qq 27), .ref (qq 28), .ref (qq 29), .int z30, .ref (qq 31), .ref (qq 32), .ref (qq 33), .ref (qq 34), .ref (qq 35), .ref (qq 36), .ref (qq 37), .ref (qq 38), .ref (qq 39), .ref (qq 40), .ref (qq 41), .ref (qq 42)])), ((qq 13), .inl (cT 0, 24, .inl f_9))] H := hP
                  have hD : va_D A [(y, .inr (12, [.ref (qq 0), .ref (qq 1), .ref (qq 2), .ref (qq 3), .ref (qq 4), .ref (qq 5), .int z6, .ref (qq 7), .ref (qq 8), .ref (qq 9), .ref (qq 10), .ref (qq 11), .int z12, .ref (qq 13), .int z14, .int z15, .int z16, .int z17, .ref (qq 18), .int z19, .ref (qq 20), .int z21, .int z22, .int z23, .int z24, .ref (qq 25), .int z26, .ref (qq 27), .ref (qq 28), .ref (qq 29), .int z30, .ref (qq 31), .ref (qq 32), .ref (qq 33), .ref (qq 34), .ref (qq 35), .ref (qq 36), .ref (qq 37), .ref (qq 38), .ref (qq 39), .ref (qq 40), .ref (qq 41), .ref (qq 42)])), ((qq 13), .inl (cT 0, 24, .inl f_9))] := hD
                  refine lv_iinc (v := (nI (j3 + 1))) (lv' := [(4, .int (nI (j3 + 1))), (0, .ref y), (1, .long b), (3, .int (nI N))]) hx hb dX12_row_77 hl (k := 0) rfl (nI_1 j3) (by decide) rfl (fun ls hl => ?_)
                  refine lv_goto (tgt := 53) hx hb dX12_row_80 (by decide) ?_
                  exact ih_loop_7 (j3 + 1) f_9 (by omega) (by omega) _ _ (hP.sub [0, 1] rfl) (hD.sub [0, 1] (by decide) rfl) hS ls (lv_sub hl [0, 1, 2, 3] rfl)
            exact loop_7 _ 0 (fun _ => 0) (Nat.zero_le _) (Nat.lt_succ_self _) _ _ (hP.sub [0, 1] rfl) (hD.sub [0, 1] (by decide) rfl) hS ls (lv_sub hl [0, 1, 2, 3] rfl)
          · skip
            have hlt : j < N := Nat.lt_of_not_le (fun h => c_6 (nI_le h (by omega)))
            refine lv_lload_n hx hb dX12_row_24 rfl (lv_at hl 2 rfl) ?_
            refine lv_iconst (v := 2) hx hb dX12_row_25 (by decide) ?_
            refine lv_iload hx hb dX12_row_26 (lv_at hl 0 rfl) ?_
            refine w_imul (v := (2 : Int32) * (nI j)) hx hb dX12_row_28 rfl ?_
            refine lv_lshr (v := b >>> (((2 : Int32) * (nI j)).toInt64 &&& 63)) hx hb dX12_row_29 rfl ?_
            refine lv_ldc2 (v := 3) hx hb hown (hts (.constantLong RX12 183 (3)) (by decide +kernel)) dX12_row_30 ?_
            refine w_land (v := (b >>> (((2 : Int32) * (nI j)).toInt64 &&& 63)) &&& (3 : Int64)) hx hb dX12_row_33 rfl ?_
            refine lv_ldc2 (v := 3) hx hb hown (hts (.constantLong RX12 183 (3)) (by decide +kernel)) dX12_row_34 ?_
            refine w_lcmp (v := lg_cmp ((b >>> (((2 : Int32) * (nI j)).toInt64 &&& 63)) &&& (3 : Int64)) 3) hx hb dX12_row_37 rfl ?_
            refine lv_if_ne (tgt := 44) hx hb dX12_row_38 (by decide) (fun c_10 => ?_) (fun c_10 => ?_)
            · skip
              have hgd : ¬ (b >>> (((2 : Int32) * nI j).toInt64 &&& 63)) &&& (3 : Int64) = 3 := fun q => c_10 (cmp_eq.mpr q)
              refine lv_iinc (v := (nI (j + 1))) (lv' := [(4, .int (nI (j + 1))), (0, .ref y), (1, .long b), (3, .int (nI N))]) hx hb dX12_row_44 hl (k := 0) rfl (nI_1 j) (by decide) rfl (fun ls hl => ?_)
              refine lv_goto (tgt := 18) hx hb dX12_row_47 (by decide) ?_
              exact ih_loop_5 (j + 1) (by omega) (lt_s hok1 hgd) (by omega) _ _ (hP.sub [0, 1] rfl) (hD.sub [0, 1] (by decide) rfl) hS ls (lv_sub hl [0, 1, 2, 3] rfl)
            · skip
              have hbd : (b >>> (((2 : Int32) * nI j).toInt64 &&& 63)) &&& (3 : Int64) = 3 := cmp_eq.mp c_10
              refine lv_bipush (v := (-2)) hx hb dX12_row_41 (by decide) ?_
              exact rt_i hx hb hr hlocks hQ hP hD hS () [] dX12_row_43 rfl (Nat.le_of_ble_eq_true rfl) (Nat.le_of_ble_eq_true rfl) rfl (by decide) (rp_bad N b hM j (by omega) hbd)
      exact loop_5 _ 0 (Nat.zero_le _) (fun i hi => absurd hi (Nat.not_lt_zero i)) (Nat.lt_succ_self _) _ _ (hP.sub [0, 1] rfl) (hD.sub [0, 1] (by decide) rfl) hS ls (lv_sub hl [0, 1, 2, 3] rfl)
    · skip
      refine if_ne_f hx hb dX12_row_9 15 (by decide) (by decide) ?_
      refine lv_bipush (v := (-3)) hx hb dX12_row_12 (by decide) ?_
      exact rt_i hx hb hr hlocks hQ hP hD hS () [] dX12_row_14 rfl (Nat.le_of_ble_eq_true rfl) (Nat.le_of_ble_eq_true rfl) rfl (by decide) (lf_c_M_row_2 b n h_4)
  rw [hH, hlo] at hgo
  exact hgo
