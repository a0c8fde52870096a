theorem hi_X11_reader_X11 : ∀ w ∈ wsX110, w ∈ wsX11_reader := fun _ h => List.mem_cons_of_mem _ (List.mem_append_left _ (List.mem_append_right _ h))
theorem yd_X11_isReader : yX11_isReader.cls = RX11 ∧ yX11_isReader.cls ≠ "java/lang/invoke/MethodHandle" ∧ yX11_isReader.cls ≠ "java/lang/invoke/VarHandle" ∧ (parseMethodDescriptor yX11_isReader.desc).map (fun d => d.parameters.length) = some 1 := by decide +kernel
theorem yd_X6_become : yX6_become.cls = RX6 ∧ yX6_become.cls ≠ "java/lang/invoke/MethodHandle" ∧ yX6_become.cls ≠ "java/lang/invoke/VarHandle" ∧ (parseMethodDescriptor yX6_become.desc).map (fun d => d.parameters.length) = some 2 := by decide +kernel
abbrev rm_c_reader : Room := { frames := 2, cells := 0, slots := 0, locals := 45 }
theorem lf_c_reader_0 (n : Int32) (t : Int32) (c_5 : n < 1) : ((-3) : Int32) = sp_reader 0 n t := by (unfold sp_reader; rw [if_pos, if_pos] <;> (simp only [true_or, or_true, false_or, or_false, true_and, and_true, false_and, and_false, not_true_eq_false, not_false_eq_true, i_lt, i_le, i_eq, j_lt, j_le, j_eq, Int32.toInt_toInt64, li_0, lj_0, li_1, lj_1, li_2, lj_2, li_3, lj_3, li_4, lj_4, li_5, lj_5, li_6, lj_6, li_7, lj_7, li_8, lj_8, li_10, lj_10, li_11, lj_11, li_12, lj_12, li_24, lj_24, li_25, lj_25, li_50, lj_50, li_130, lj_130, li_160, lj_160, li_800, lj_800, li_4000, lj_4000, li_10000, lj_10000, li_16384, lj_16384, li_26, lj_26, li_32, lj_32, li_48, lj_48, li_57, lj_57, li_59, lj_59, li_97, lj_97, li_99, lj_99, li_122, lj_122, li_m1, lj_m1, li_m2, lj_m2, li_m3, lj_m3, li_m4, lj_m4, li_m5, lj_m5, li_m6, lj_m6] at * <;> omega))
theorem lf_c_reader_1 (n : Int32) (t : Int32) (c_5 : ¬ n < 1) (c_6 : 5 < n) : ((-3) : Int32) = sp_reader 0 n t := by (unfold sp_reader; rw [if_pos, if_pos] <;> (simp only [true_or, or_true, false_or, or_false, true_and, and_true, false_and, and_false, not_true_eq_false, not_false_eq_true, i_lt, i_le, i_eq, j_lt, j_le, j_eq, Int32.toInt_toInt64, li_0, lj_0, li_1, lj_1, li_2, lj_2, li_3, lj_3, li_4, lj_4, li_5, lj_5, li_6, lj_6, li_7, lj_7, li_8, lj_8, li_10, lj_10, li_11, lj_11, li_12, lj_12, li_24, lj_24, li_25, lj_25, li_50, lj_50, li_130, lj_130, li_160, lj_160, li_800, lj_800, li_4000, lj_4000, li_10000, lj_10000, li_16384, lj_16384, li_26, lj_26, li_32, lj_32, li_48, lj_48, li_57, lj_57, li_59, lj_59, li_97, lj_97, li_99, lj_99, li_122, lj_122, li_m1, lj_m1, li_m2, lj_m2, li_m3, lj_m3, li_m4, lj_m4, li_m5, lj_m5, li_m6, lj_m6] at * <;> omega))
theorem lf_c_reader_2 (n : Int32) (t : Int32) (c_5 : ¬ n < 1) (c_6 : ¬ 5 < n) (c_7 : t < 0) : ((-3) : Int32) = sp_reader 0 n t := by (unfold sp_reader; rw [if_pos, if_pos] <;> (simp only [true_or, or_true, false_or, or_false, true_and, and_true, false_and, and_false, not_true_eq_false, not_false_eq_true, i_lt, i_le, i_eq, j_lt, j_le, j_eq, Int32.toInt_toInt64, li_0, lj_0, li_1, lj_1, li_2, lj_2, li_3, lj_3, li_4, lj_4, li_5, lj_5, li_6, lj_6, li_7, lj_7, li_8, lj_8, li_10, lj_10, li_11, lj_11, li_12, lj_12, li_24, lj_24, li_25, lj_25, li_50, lj_50, li_130, lj_130, li_160, lj_160, li_800, lj_800, li_4000, lj_4000, li_10000, lj_10000, li_16384, lj_16384, li_26, lj_26, li_32, lj_32, li_48, lj_48, li_57, lj_57, li_59, lj_59, li_97, lj_97, li_99, lj_99, li_122, lj_122, li_m1, lj_m1, li_m2, lj_m2, li_m3, lj_m3, li_m4, lj_m4, li_m5, lj_m5, li_m6, lj_m6] at * <;> omega))
theorem lf_c_reader_3 (n : Int32) (t : Int32) (c_5 : ¬ n < 1) (c_6 : ¬ 5 < n) (c_7 : ¬ t < 0) (c_8 : (t >>> (n &&& 31)) = 0) : (1 : Int32) = sp_reader 0 n t := by (unfold sp_reader; rw [if_pos, if_neg] <;> (simp only [true_or, or_true, false_or, or_false, true_and, and_true, false_and, and_false, not_true_eq_false, not_false_eq_true, i_lt, i_le, i_eq, j_lt, j_le, j_eq, Int32.toInt_toInt64, li_0, lj_0, li_1, lj_1, li_2, lj_2, li_3, lj_3, li_4, lj_4, li_5, lj_5, li_6, lj_6, li_7, lj_7, li_8, lj_8, li_10, lj_10, li_11, lj_11, li_12, lj_12, li_24, lj_24, li_25, lj_25, li_50, lj_50, li_130, lj_130, li_160, lj_160, li_800, lj_800, li_4000, lj_4000, li_10000, lj_10000, li_16384, lj_16384, li_26, lj_26, li_32, lj_32, li_48, lj_48, li_57, lj_57, li_59, lj_59, li_97, lj_97, li_99, lj_99, li_122, lj_122, li_m1, lj_m1, li_m2, lj_m2, li_m3, lj_m3, li_m4, lj_m4, li_m5, lj_m5, li_m6, lj_m6] at * <;> omega))
theorem lf_c_reader_4 (n : Int32) (t : Int32) (c_5 : ¬ n < 1) (c_6 : ¬ 5 < n) (c_7 : ¬ t < 0) (c_8 : ¬ (t >>> (n &&& 31)) = 0) : ((-3) : Int32) = sp_reader 0 n t := by (unfold sp_reader; rw [if_pos, if_pos] <;> (simp only [true_or, or_true, false_or, or_false, true_and, and_true, false_and, and_false, not_true_eq_false, not_false_eq_true, i_lt, i_le, i_eq, j_lt, j_le, j_eq, Int32.toInt_toInt64, li_0, lj_0, li_1, lj_1, li_2, lj_2, li_3, lj_3, li_4, lj_4, li_5, lj_5, li_6, lj_6, li_7, lj_7, li_8, lj_8, li_10, lj_10, li_11, lj_11, li_12, lj_12, li_24, lj_24, li_25, lj_25, li_50, lj_50, li_130, lj_130, li_160, lj_160, li_800, lj_800, li_4000, lj_4000, li_10000, lj_10000, li_16384, lj_16384, li_26, lj_26, li_32, lj_32, li_48, lj_48, li_57, lj_57, li_59, lj_59, li_97, lj_97, li_99, lj_99, li_122, lj_122, li_m1, lj_m1, li_m2, lj_m2, li_m3, lj_m3, li_m4, lj_m4, li_m5, lj_m5, li_m6, lj_m6] at * <;> omega))
theorem lf_c_reader_5 (n : Int32) (t : Int32) (c_11 : n < 1) : ((-3) : Int32) = sp_reader 1 n t := by (unfold sp_reader; rw [if_pos, if_pos] <;> (simp only [true_or, or_true, false_or, or_false, true_and, and_true, false_and, and_false, not_true_eq_false, not_false_eq_true, i_lt, i_le, i_eq, j_lt, j_le, j_eq, Int32.toInt_toInt64, li_0, lj_0, li_1, lj_1, li_2, lj_2, li_3, lj_3, li_4, lj_4, li_5, lj_5, li_6, lj_6, li_7, lj_7, li_8, lj_8, li_10, lj_10, li_11, lj_11, li_12, lj_12, li_24, lj_24, li_25, lj_25, li_50, lj_50, li_130, lj_130, li_160, lj_160, li_800, lj_800, li_4000, lj_4000, li_10000, lj_10000, li_16384, lj_16384, li_26, lj_26, li_32, lj_32, li_48, lj_48, li_57, lj_57, li_59, lj_59, li_97, lj_97, li_99, lj_99, li_122, lj_122, li_m1, lj_m1, li_m2, lj_m2, li_m3, lj_m3, li_m4, lj_m4, li_m5, lj_m5, li_m6, lj_m6] at * <;> omega))
theorem lf_c_reader_6 (n : Int32) (t : Int32) (c_11 : ¬ n < 1) (c_12 : 5 < n) : ((-3) : Int32) = sp_reader 1 n t := by (unfold sp_reader; rw [if_pos, if_pos] <;> (simp only [true_or, or_true, false_or, or_false, true_and, and_true, false_and, and_false, not_true_eq_false, not_false_eq_true, i_lt, i_le, i_eq, j_lt, j_le, j_eq, Int32.toInt_toInt64, li_0, lj_0, li_1, lj_1, li_2, lj_2, li_3, lj_3, li_4, lj_4, li_5, lj_5, li_6, lj_6, li_7, lj_7, li_8, lj_8, li_10, lj_10, li_11, lj_11, li_12, lj_12, li_24, lj_24, li_25, lj_25, li_50, lj_50, li_130, lj_130, li_160, lj_160, li_800, lj_800, li_4000, lj_4000, li_10000, lj_10000, li_16384, lj_16384, li_26, lj_26, li_32, lj_32, li_48, lj_48, li_57, lj_57, li_59, lj_59, li_97, lj_97, li_99, lj_99, li_122, lj_122, li_m1, lj_m1, li_m2, lj_m2, li_m3, lj_m3, li_m4, lj_m4, li_m5, lj_m5, li_m6, lj_m6] at * <;> omega))
theorem lf_c_reader_7 (n : Int32) (t : Int32) (c_11 : ¬ n < 1) (c_12 : ¬ 5 < n) (c_13 : t < 0) : ((-3) : Int32) = sp_reader 1 n t := by (unfold sp_reader; rw [if_pos, if_pos] <;> (simp only [true_or, or_true, false_or, or_false, true_and, and_true, false_and, and_false, not_true_eq_false, not_false_eq_true, i_lt, i_le, i_eq, j_lt, j_le, j_eq, Int32.toInt_toInt64, li_0, lj_0, li_1, lj_1, li_2, lj_2, li_3, lj_3, li_4, lj_4, li_5, lj_5, li_6, lj_6, li_7, lj_7, li_8, lj_8, li_10, lj_10, li_11, lj_11, li_12, lj_12, li_24, lj_24, li_25, lj_25, li_50, lj_50, li_130, lj_130, li_160, lj_160, li_800, lj_800, li_4000, lj_4000, li_10000, lj_10000, li_16384, lj_16384, li_26, lj_26, li_32, lj_32, li_48, lj_48, li_57, lj_57, li_59, lj_59, li_97, lj_97, li_99, lj_99, li_122, lj_122, li_m1, lj_m1, li_m2, lj_m2, li_m3, lj_m3, li_m4, lj_m4, li_m5, lj_m5, li_m6, lj_m6] at * <;> omega))
theorem lf_c_reader_8 (n : Int32) (t : Int32) (c_11 : ¬ n < 1) (c_12 : ¬ 5 < n) (c_13 : ¬ t < 0) (c_14 : (t >>> (n &&& 31)) = 0) : (1 : Int32) = sp_reader 1 n t := by (unfold sp_reader; rw [if_pos, if_neg] <;> (simp only [true_or, or_true, false_or, or_false, true_and, and_true, false_and, and_false, not_true_eq_false, not_false_eq_true, i_lt, i_le, i_eq, j_lt, j_le, j_eq, Int32.toInt_toInt64, li_0, lj_0, li_1, lj_1, li_2, lj_2, li_3, lj_3, li_4, lj_4, li_5, lj_5, li_6, lj_6, li_7, lj_7, li_8, lj_8, li_10, lj_10, li_11, lj_11, li_12, lj_12, li_24, lj_24, li_25, lj_25, li_50, lj_50, li_130, lj_130, li_160, lj_160, li_800, lj_800, li_4000, lj_4000, li_10000, lj_10000, li_16384, lj_16384, li_26, lj_26, li_32, lj_32, li_48, lj_48, li_57, lj_57, li_59, lj_59, li_97, lj_97, li_99, lj_99, li_122, lj_122, li_m1, lj_m1, li_m2, lj_m2, li_m3, lj_m3, li_m4, lj_m4, li_m5, lj_m5, li_m6, lj_m6] at * <;> omega))
theorem lf_c_reader_9 (n : Int32) (t : Int32) (c_11 : ¬ n < 1) (c_12 : ¬ 5 < n) (c_13 : ¬ t < 0) (c_14 : ¬ (t >>> (n &&& 31)) = 0) : ((-3) : Int32) = sp_reader 1 n t := by (unfold sp_reader; rw [if_pos, if_pos] <;> (simp only [true_or, or_true, false_or, or_false, true_and, and_true, false_and, and_false, not_true_eq_false, not_false_eq_true, i_lt, i_le, i_eq, j_lt, j_le, j_eq, Int32.toInt_toInt64, li_0, lj_0, li_1, lj_1, li_2, lj_2, li_3, lj_3, li_4, lj_4, li_5, lj_5, li_6, lj_6, li_7, lj_7, li_8, lj_8, li_10, lj_10, li_11, lj_11, li_12, lj_12, li_24, lj_24, li_25, lj_25, li_50, lj_50, li_130, lj_130, li_160, lj_160, li_800, lj_800, li_4000, lj_4000, li_10000, lj_10000, li_16384, lj_16384, li_26, lj_26, li_32, lj_32, li_48, lj_48, li_57, lj_57, li_59, lj_59, li_97, lj_97, li_99, lj_99, li_122, lj_122, li_m1, lj_m1, li_m2, lj_m2, li_m3, lj_m3, li_m4, lj_m4, li_m5, lj_m5, li_m6, lj_m6] at * <;> omega))
theorem lf_c_reader_10 (x : Int32) (n : Int32) (t : Int32) (h_4 : ¬ (x = 0 ∨ x = 1)) : ((-2) : Int32) = sp_reader x n t := by (unfold sp_reader; rw [if_neg] <;> (simp only [true_or, or_true, false_or, or_false, true_and, and_true, false_and, and_false, not_true_eq_false, not_false_eq_true, i_lt, i_le, i_eq, j_lt, j_le, j_eq, Int32.toInt_toInt64, li_0, lj_0, li_1, lj_1, li_2, lj_2, li_3, lj_3, li_4, lj_4, li_5, lj_5, li_6, lj_6, li_7, lj_7, li_8, lj_8, li_10, lj_10, li_11, lj_11, li_12, lj_12, li_24, lj_24, li_25, lj_25, li_50, lj_50, li_130, lj_130, li_160, lj_160, li_800, lj_800, li_4000, lj_4000, li_10000, lj_10000, li_16384, lj_16384, li_26, lj_26, li_32, lj_32, li_48, lj_48, li_57, lj_57, li_59, lj_59, li_97, lj_97, li_99, lj_99, li_122, lj_122, li_m1, lj_m1, li_m2, lj_m2, li_m3, lj_m3, li_m4, lj_m4, li_m5, lj_m5, li_m6, lj_m6] at * <;> omega))
set_option maxHeartbeats 4000000 in
set_option maxRecDepth 100000 in
theorem c_reader (l : Launch) (g : va_G) (cT : Nat → ClassId) (sz : Nat) (o : Nat) (ra : Nat) (tx : Nat) (lt : Nat) (wl : Nat) (rw : Nat) (kA : Nat) (bA : Nat) (lA : Nat) (r0 : Nat) (r1 : Nat) (a0 : Nat) (a1 : Nat) (x : Int32) (n : Int32) (t : Int32)  : Ctr l g cT sz yX11_reader wsX11_reader rm_c_reader [.ref o, .int x, .int n, .int t] [(o, .inr (11, [.ref ra, .ref tx, .ref lt, .int 0, .ref wl, .ref rw, .ref kA, .ref bA, .ref lA, .null, .null])), (ra, .inl (cT 3, 2, .inr (.inr (.inr (.inr (va_up (va_up (fun _ => none) 0 (some r0)) 1 (some r1))))))), (r0, .inr (6, [.int 1, .int 0, .int 0, .int 0, .ref a0])), (a0, .inl (cT 0, 25, .inl (fun _ => (-1)))), (r1, .inr (6, [.int 1, .int 0, .int 0, .int 0, .ref a1])), (a1, .inl (cT 0, 25, .inl (fun _ => (-1))))] (QI g (fun (r : Int32) (u : Unit) => r = sp_reader x n t) (fun (u : Unit) => [])) 0 0 := by
  refine mk_ctr (cc := cX11_reader) (maxL := 4) (ret := (some .int)) (by decide) rfl (Nat.le_of_ble_eq_true rfl) ?_
  intro p e s m args below meth c A Q hx hb hr hts hown hlocks hin hml hP hK hD hN hZ hA hS hQ ls hl
  have hl : lv_has ls 4 [(0, .ref o), (1, .int x), (2, .int n), (3, .int t)] := hl
  obtain ⟨H, hH⟩ : ∃ H : Heap, H = s.heap := ⟨_, rfl⟩
  obtain ⟨locs, hlo⟩ : ∃ x : List Loc, x = [] := ⟨_, rfl⟩
  rw [← hH] at hP
  have hS : va_S A s.heap H locs := by rw [hH, hlo]; exact hS
  have hgo : W p l e rm_c_reader s m args below meth c H locs 0 0 Q (F0 m 0 ls []) := by
    clear hH hlo
    refine lv_iload_n hx hb dX11_reader_0 rfl (lv_at hl 1 rfl) ?_
    refine cp_i (va_runS (As := [.int x]) (rest := []) ⟨hx, hb, hml, hown, hts⟩ (c_isReader l g cT H.size x) (va_cwS 1 hts gX11_reader_X11_isReader rfl rfl rfl yd_X11_isReader.2 ⟨(Nat.le_of_ble_eq_true rfl), (Nat.le_of_ble_eq_true rfl)⟩) (preS (ws := []) (wc := []) rfl (fun _ _ h => by simp at h) (va_D_nil (A := A)) hK hN hZ hS hA [] rfl rfl) rfl rfl hl.1 rfl (lv_room (Nat.le_of_ble_eq_true rfl)) dX11_reader_1 ⟨(Nat.le_of_ble_eq_true rfl), (Nat.le_of_ble_eq_true rfl)⟩) hP hS hA (fun r_1 u H locs h_2 hP hS => ?_)
    rcases h_2 with ⟨rfl, h_3⟩ | ⟨rfl, h_4⟩
    · skip
      rcases h_3 with rfl | rfl
      · skip
        refine if_ne_t hx hb 10 dX11_reader_4 (by decide) (by decide) ?_
        refine lv_iload_n hx hb dX11_reader_10 rfl (lv_at hl 2 rfl) ?_
        refine lv_iconst (v := 1) hx hb dX11_reader_11 (by decide) ?_
        refine lv_icmp_lt (tgt := 30) hx hb dX11_reader_12 (by decide) (fun c_5 => ?_) (fun c_5 => ?_)
        · skip
          refine lv_bipush (v := (-3)) hx hb dX11_reader_30 (by decide) ?_
          exact rt_i hx hb hr hlocks hQ hP hD hS () [] dX11_reader_32 rfl (Nat.le_of_ble_eq_true rfl) (Nat.le_of_ble_eq_true rfl) rfl (by decide) (lf_c_reader_0 n t c_5)
        · skip
          refine lv_iload_n hx hb dX11_reader_15 rfl (lv_at hl 2 rfl) ?_
          refine lv_iconst (v := 5) hx hb dX11_reader_16 (by decide) ?_
          refine lv_icmp_gt (tgt := 30) hx hb dX11_reader_17 (by decide) (fun c_6 => ?_) (fun c_6 => ?_)
          · skip
            refine lv_bipush (v := (-3)) hx hb dX11_reader_30 (by decide) ?_
            exact rt_i hx hb hr hlocks hQ hP hD hS () [] dX11_reader_32 rfl (Nat.le_of_ble_eq_true rfl) (Nat.le_of_ble_eq_true rfl) rfl (by decide) (lf_c_reader_1 n t c_5 c_6)
          · skip
            refine lv_iload_n hx hb dX11_reader_20 rfl (lv_at hl 3 rfl) ?_
            refine lv_if_lt (tgt := 30) hx hb dX11_reader_21 (by decide) (fun c_7 => ?_) (fun c_7 => ?_)
            · skip
              refine lv_bipush (v := (-3)) hx hb dX11_reader_30 (by decide) ?_
              exact rt_i hx hb hr hlocks hQ hP hD hS () [] dX11_reader_32 rfl (Nat.le_of_ble_eq_true rfl) (Nat.le_of_ble_eq_true rfl) rfl (by decide) (lf_c_reader_2 n t c_5 c_6 c_7)
            · skip
              refine lv_iload_n hx hb dX11_reader_24 rfl (lv_at hl 3 rfl) ?_
              refine lv_iload_n hx hb dX11_reader_25 rfl (lv_at hl 2 rfl) ?_
              refine w_ishr (v := t >>> (n &&& 31)) hx hb dX11_reader_26 rfl ?_
              refine lv_if_eq (tgt := 33) hx hb dX11_reader_27 (by decide) (fun c_8 => ?_) (fun c_8 => ?_)
              · skip
                refine lv_aload_n hx hb dX11_reader_33 rfl (lv_at hl 0 rfl) ?_
                refine va_get (C := RX11) (T := TX11) (N := 11) (v := .ref ra) hx hb hts hi_X11_reader_X11 hown hK hP 0 rfl rfl 0 (by decide) (hts (.fieldLink RX11 11 "BothWays" "readers" "[LBothWays$Reader;") (by decide +kernel)) (fun _ h => h) rfl dX11_reader_34 ?_
                refine lv_iload_n hx hb dX11_reader_37 rfl (lv_at hl 1 rfl) ?_
                refine w_aald (v := .ref r0) hx hb hK hP 1 3 rfl rfl dX11_reader_38 (inC (by decide)) rfl ?_
                refine lv_iload_n hx hb dX11_reader_39 rfl (lv_at hl 2 rfl) ?_
                refine lv_iload_n hx hb dX11_reader_40 rfl (lv_at hl 3 rfl) ?_
                refine cj_v 0 0 (wr := [(o, .inr (11, [.ref ra, .ref tx, .ref lt, .int 0, .ref wl, .ref rw, .ref kA, .ref bA, .ref lA, .null, .null])), (ra, .inl (cT 3, 2, .inr (.inr (.inr (.inr (va_up (va_up (fun _ => none) 0 (some r0)) 1 (some r1))))))), (r1, .inr (6, [.int 1, .int 0, .int 0, .int 0, .ref a1])), (a1, .inl (cT 0, 25, .inl (fun _ => (-1))))]) (va_runV (As := [.int n, .int t]) (rest := []) ⟨hx, hb, hml, hown, hts⟩ (c_R_become l g cT H.size r0 a0 0 n t) (cwV 2 hts gX11_reader_X6_become rfl rfl rfl yd_X6_become ⟨(Nat.le_of_ble_eq_true rfl), (Nat.le_of_ble_eq_true rfl)⟩) (preV (wc := [(r0, .inr (6, [.int 1, .int 0, .int 0, .int 0, .ref a0])), (a0, .inl (cT 0, 25, .inl (fun _ => (-1))))]) rfl hP hD hK hN hZ hS hA [2, 3] rfl (by decide) (ci := 6) (q0 := 2) rfl rfl) rfl rfl hl.1 rfl (lv_room (Nat.le_of_ble_eq_true rfl)) dX11_reader_41 ⟨(Nat.le_of_ble_eq_true rfl), (Nat.le_of_ble_eq_true rfl)⟩) hP hD hS hA [2, 3] [0, 1, 4, 5] rfl rfl (by decide) (by decide) (Nat.le_of_ble_eq_true rfl) (Nat.le_of_ble_eq_true rfl) (fun u H locs h_10 hP hD hS => ?_)
                have hP : va_P g vwCl [(o, .inr (11, [.ref ra, .ref tx, .ref lt, .int 0, .ref wl, .ref rw, .ref kA, .ref bA, .ref lA, .null, .null])), (ra, .inl (cT 3, 2, .inr (.inr (.inr (.inr (va_up (va_up (fun _ => none) 0 (some r0)) 1 (some r1))))))), (r1, .inr (6, [.int 1, .int 0, .int 0, .int 0, .ref a1])), (a1, .inl (cT 0, 25, .inl (fun _ => (-1))))] H := hP
                have hD : va_D A [(o, .inr (11, [.ref ra, .ref tx, .ref lt, .int 0, .ref wl, .ref rw, .ref kA, .ref bA, .ref lA, .null, .null])), (ra, .inl (cT 3, 2, .inr (.inr (.inr (.inr (va_up (va_up (fun _ => none) 0 (some r0)) 1 (some r1))))))), (r1, .inr (6, [.int 1, .int 0, .int 0, .int 0, .ref a1])), (a1, .inl (cT 0, 25, .inl (fun _ => (-1))))] := hD
                refine lv_iconst (v := 1) hx hb dX11_reader_44 (by decide) ?_
                exact rt_i hx hb hr hlocks hQ hP hD hS () [] dX11_reader_45 rfl (Nat.le_of_ble_eq_true rfl) (Nat.le_of_ble_eq_true rfl) rfl (by decide) (lf_c_reader_3 n t c_5 c_6 c_7 c_8)
              · skip
                refine lv_bipush (v := (-3)) hx hb dX11_reader_30 (by decide) ?_
                exact rt_i hx hb hr hlocks hQ hP hD hS () [] dX11_reader_32 rfl (Nat.le_of_ble_eq_true rfl) (Nat.le_of_ble_eq_true rfl) rfl (by decide) (lf_c_reader_4 n t c_5 c_6 c_7 c_8)
      · skip
        refine if_ne_t hx hb 10 dX11_reader_4 (by decide) (by decide) ?_
        refine lv_iload_n hx hb dX11_reader_10 rfl (lv_at hl 2 rfl) ?_
        refine lv_iconst (v := 1) hx hb dX11_reader_11 (by decide) ?_
        refine lv_icmp_lt (tgt := 30) hx hb dX11_reader_12 (by decide) (fun c_11 => ?_) (fun c_11 => ?_)
        · skip
          refine lv_bipush (v := (-3)) hx hb dX11_reader_30 (by decide) ?_
          exact rt_i hx hb hr hlocks hQ hP hD hS () [] dX11_reader_32 rfl (Nat.le_of_ble_eq_true rfl) (Nat.le_of_ble_eq_true rfl) rfl (by decide) (lf_c_reader_5 n t c_11)
        · skip
          refine lv_iload_n hx hb dX11_reader_15 rfl (lv_at hl 2 rfl) ?_
          refine lv_iconst (v := 5) hx hb dX11_reader_16 (by decide) ?_
          refine lv_icmp_gt (tgt := 30) hx hb dX11_reader_17 (by decide) (fun c_12 => ?_) (fun c_12 => ?_)
          · skip
            refine lv_bipush (v := (-3)) hx hb dX11_reader_30 (by decide) ?_
            exact rt_i hx hb hr hlocks hQ hP hD hS () [] dX11_reader_32 rfl (Nat.le_of_ble_eq_true rfl) (Nat.le_of_ble_eq_true rfl) rfl (by decide) (lf_c_reader_6 n t c_11 c_12)
          · skip
            refine lv_iload_n hx hb dX11_reader_20 rfl (lv_at hl 3 rfl) ?_
            refine lv_if_lt (tgt := 30) hx hb dX11_reader_21 (by decide) (fun c_13 => ?_) (fun c_13 => ?_)
            · skip
              refine lv_bipush (v := (-3)) hx hb dX11_reader_30 (by decide) ?_
              exact rt_i hx hb hr hlocks hQ hP hD hS () [] dX11_reader_32 rfl (Nat.le_of_ble_eq_true rfl) (Nat.le_of_ble_eq_true rfl) rfl (by decide) (lf_c_reader_7 n t c_11 c_12 c_13)
            · skip
              refine lv_iload_n hx hb dX11_reader_24 rfl (lv_at hl 3 rfl) ?_
              refine lv_iload_n hx hb dX11_reader_25 rfl (lv_at hl 2 rfl) ?_
              refine w_ishr (v := t >>> (n &&& 31)) hx hb dX11_reader_26 rfl ?_
              refine lv_if_eq (tgt := 33) hx hb dX11_reader_27 (by decide) (fun c_14 => ?_) (fun c_14 => ?_)
              · skip
                refine lv_aload_n hx hb dX11_reader_33 rfl (lv_at hl 0 rfl) ?_
                refine va_get (C := RX11) (T := TX11) (N := 11) (v := .ref ra) hx hb hts hi_X11_reader_X11 hown hK hP 0 rfl rfl 0 (by decide) (hts (.fieldLink RX11 11 "BothWays" "readers" "[LBothWays$Reader;") (by decide +kernel)) (fun _ h => h) rfl dX11_reader_34 ?_
                refine lv_iload_n hx hb dX11_reader_37 rfl (lv_at hl 1 rfl) ?_
                refine w_aald (v := .ref r1) hx hb hK hP 1 3 rfl rfl dX11_reader_38 (inC (by decide)) rfl ?_
                refine lv_iload_n hx hb dX11_reader_39 rfl (lv_at hl 2 rfl) ?_
                refine lv_iload_n hx hb dX11_reader_40 rfl (lv_at hl 3 rfl) ?_
                refine cj_v 0 0 (wr := [(o, .inr (11, [.ref ra, .ref tx, .ref lt, .int 0, .ref wl, .ref rw, .ref kA, .ref bA, .ref lA, .null, .null])), (ra, .inl (cT 3, 2, .inr (.inr (.inr (.inr (va_up (va_up (fun _ => none) 0 (some r0)) 1 (some r1))))))), (r0, .inr (6, [.int 1, .int 0, .int 0, .int 0, .ref a0])), (a0, .inl (cT 0, 25, .inl (fun _ => (-1))))]) (va_runV (As := [.int n, .int t]) (rest := []) ⟨hx, hb, hml, hown, hts⟩ (c_R_become l g cT H.size r1 a1 0 n t) (cwV 2 hts gX11_reader_X6_become rfl rfl rfl yd_X6_become ⟨(Nat.le_of_ble_eq_true rfl), (Nat.le_of_ble_eq_true rfl)⟩) (preV (wc := [(r1, .inr (6, [.int 1, .int 0, .int 0, .int 0, .ref a1])), (a1, .inl (cT 0, 25, .inl (fun _ => (-1))))]) rfl hP hD hK hN hZ hS hA [4, 5] rfl (by decide) (ci := 6) (q0 := 4) rfl rfl) rfl rfl hl.1 rfl (lv_room (Nat.le_of_ble_eq_true rfl)) dX11_reader_41 ⟨(Nat.le_of_ble_eq_true rfl), (Nat.le_of_ble_eq_true rfl)⟩) hP hD hS hA [4, 5] [0, 1, 2, 3] rfl rfl (by decide) (by decide) (Nat.le_of_ble_eq_true rfl) (Nat.le_of_ble_eq_true rfl) (fun u H locs h_16 hP hD hS => ?_)
                have hP : va_P g vwCl [(o, .inr (11, [.ref ra, .ref tx, .ref lt, .int 0, .ref wl, .ref rw, .ref kA, .ref bA, .ref lA, .null, .null])), (ra, .inl (cT 3, 2, .inr (.inr (.inr (.inr (va_up (va_up (fun _ => none) 0 (some r0)) 1 (some r1))))))), (r0, .inr (6, [.int 1, .int 0, .int 0, .int 0, .ref a0])), (a0, .inl (cT 0, 25, .inl (fun _ => (-1))))] H := hP
                have hD : va_D A [(o, .inr (11, [.ref ra, .ref tx, .ref lt, .int 0, .ref wl, .ref rw, .ref kA, .ref bA, .ref lA, .null, .null])), (ra, .inl (cT 3, 2, .inr (.inr (.inr (.inr (va_up (va_up (fun _ => none) 0 (some r0)) 1 (some r1))))))), (r0, .inr (6, [.int 1, .int 0, .int 0, .int 0, .ref a0])), (a0, .inl (cT 0, 25, .inl (fun _ => (-1))))] := hD
                refine lv_iconst (v := 1) hx hb dX11_reader_44 (by decide) ?_
                exact rt_i hx hb hr hlocks hQ hP hD hS () [] dX11_reader_45 rfl (Nat.le_of_ble_eq_true rfl) (Nat.le_of_ble_eq_true rfl) rfl (by decide) (lf_c_reader_8 n t c_11 c_12 c_13 c_14)
              · skip
                refine lv_bipush (v := (-3)) hx hb dX11_reader_30 (by decide) ?_
                exact rt_i hx hb hr hlocks hQ hP hD hS () [] dX11_reader_32 rfl (Nat.le_of_ble_eq_true rfl) (Nat.le_of_ble_eq_true rfl) rfl (by decide) (lf_c_reader_9 n t c_11 c_12 c_13 c_14)
    · skip
      refine if_ne_f hx hb dX11_reader_4 10 (by decide) (by decide) ?_
      refine lv_bipush (v := (-2)) hx hb dX11_reader_7 (by decide) ?_
      exact rt_i hx hb hr hlocks hQ hP hD hS () [] dX11_reader_9 rfl (Nat.le_of_ble_eq_true rfl) (Nat.le_of_ble_eq_true rfl) rfl (by decide) (lf_c_reader_10 x n t h_4)
  rw [hH, hlo] at hgo
  exact hgo
theorem hi_X11_write_X11 : ∀ w ∈ wsX110, w ∈ wsX11_write := fun _ h => List.mem_cons_of_mem _ (List.mem_append_left _ (List.mem_append_right _ h))
theorem hi_X11_write_X9 : ∀ w ∈ wsX90, w ∈ wsX11_write := fun _ h => List.mem_cons_of_mem _ (List.mem_append_right _ h)
theorem yd_X9_append : yX9_append.cls = RX9 ∧ yX9_append.cls ≠ "java/lang/invoke/MethodHandle" ∧ yX9_append.cls ≠ "java/lang/invoke/VarHandle" ∧ (parseMethodDescriptor yX9_append.desc).map (fun d => d.parameters.length) = some 2 := by decide +kernel
abbrev rm_c_write : Room := { frames := 1, cells := 0, slots := 0, locals := 24 }
theorem lf_c_write_0 (b : Int64) (n : Int32) (c_1 : n < 1) : ((-3) : Int32) = sp_write b n := by (unfold sp_write; rw [if_pos] <;> (simp only [true_or, or_true, false_or, or_false, true_and, and_true, false_and, and_false, not_true_eq_false, not_false_eq_true, i_lt, i_le, i_eq, j_lt, j_le, j_eq, Int32.toInt_toInt64, li_0, lj_0, li_1, lj_1, li_2, lj_2, li_3, lj_3, li_4, lj_4, li_5, lj_5, li_6, lj_6, li_7, lj_7, li_8, lj_8, li_10, lj_10, li_11, lj_11, li_12, lj_12, li_24, lj_24, li_25, lj_25, li_50, lj_50, li_130, lj_130, li_160, lj_160, li_800, lj_800, li_4000, lj_4000, li_10000, lj_10000, li_16384, lj_16384, li_26, lj_26, li_32, lj_32, li_48, lj_48, li_57, lj_57, li_59, lj_59, li_97, lj_97, li_99, lj_99, li_122, lj_122, li_m1, lj_m1, li_m2, lj_m2, li_m3, lj_m3, li_m4, lj_m4, li_m5, lj_m5, li_m6, lj_m6] at * <;> omega))
theorem lf_c_write_1 (n : Int32) (c_1 : ¬ n < 1) (c_2 : n ≤ 8) : ¬ n < 0 := by (simp only [true_or, or_true, false_or, or_false, true_and, and_true, false_and, and_false, not_true_eq_false, not_false_eq_true, i_lt, i_le, i_eq, j_lt, j_le, j_eq, Int32.toInt_toInt64, li_0, lj_0, li_1, lj_1, li_2, lj_2, li_3, lj_3, li_4, lj_4, li_5, lj_5, li_6, lj_6, li_7, lj_7, li_8, lj_8, li_10, lj_10, li_11, lj_11, li_12, lj_12, li_24, lj_24, li_25, lj_25, li_50, lj_50, li_130, lj_130, li_160, lj_160, li_800, lj_800, li_4000, lj_4000, li_10000, lj_10000, li_16384, lj_16384, li_26, lj_26, li_32, lj_32, li_48, lj_48, li_57, lj_57, li_59, lj_59, li_97, lj_97, li_99, lj_99, li_122, lj_122, li_m1, lj_m1, li_m2, lj_m2, li_m3, lj_m3, li_m4, lj_m4, li_m5, lj_m5, li_m6, lj_m6] at * <;> omega)
theorem lf_c_write_2 (n : Int32) (c_1 : ¬ n < 1) (c_2 : n ≤ 8) : n ≤ 8 := by (simp only [true_or, or_true, false_or, or_false, true_and, and_true, false_and, and_false, not_true_eq_false, not_false_eq_true, i_lt, i_le, i_eq, j_lt, j_le, j_eq, Int32.toInt_toInt64, li_0, lj_0, li_1, lj_1, li_2, lj_2, li_3, lj_3, li_4, lj_4, li_5, lj_5, li_6, lj_6, li_7, lj_7, li_8, lj_8, li_10, lj_10, li_11, lj_11, li_12, lj_12, li_24, lj_24, li_25, lj_25, li_50, lj_50, li_130, lj_130, li_160, lj_160, li_800, lj_800, li_4000, lj_4000, li_10000, lj_10000, li_16384, lj_16384, li_26, lj_26, li_32, lj_32, li_48, lj_48, li_57, lj_57, li_59, lj_59, li_97, lj_97, li_99, lj_99, li_122, lj_122, li_m1, lj_m1, li_m2, lj_m2, li_m3, lj_m3, li_m4, lj_m4, li_m5, lj_m5, li_m6, lj_m6] at * <;> omega)
theorem lf_c_write_3 (b : Int64) (N : Nat) (c_1 : ¬ (nI N) < 1) (c_2 : (nI N) ≤ 8) (hM : N ≤ 8) : (nI N) = sp_write b (nI N) := by (unfold sp_write; rw [if_neg] <;> (simp only [true_or, or_true, false_or, or_false, true_and, and_true, false_and, and_false, not_true_eq_false, not_false_eq_true, i_lt, i_le, i_eq, j_lt, j_le, j_eq, Int32.toInt_toInt64, li_0, lj_0, li_1, lj_1, li_2, lj_2, li_3, lj_3, li_4, lj_4, li_5, lj_5, li_6, lj_6, li_7, lj_7, li_8, lj_8, li_10, lj_10, li_11, lj_11, li_12, lj_12, li_24, lj_24, li_25, lj_25, li_50, lj_50, li_130, lj_130, li_160, lj_160, li_800, lj_800, li_4000, lj_4000, li_10000, lj_10000, li_16384, lj_16384, li_26, lj_26, li_32, lj_32, li_48, lj_48, li_57, lj_57, li_59, lj_59, li_97, lj_97, li_99, lj_99, li_122, lj_122, li_m1, lj_m1, li_m2, lj_m2, li_m3, lj_m3, li_m4, lj_m4, li_m5, lj_m5, li_m6, lj_m6] at * <;> omega))
theorem lf_c_write_4 (b : Int64) (n : Int32) (c_1 : ¬ n < 1) (c_2 : ¬ n ≤ 8) : ((-3) : Int32) = sp_write b n := by (unfold sp_write; rw [if_pos] <;> (simp only [true_or, or_true, false_or, or_false, true_and, and_true, false_and, and_false, not_true_eq_false, not_false_eq_true, i_lt, i_le, i_eq, j_lt, j_le, j_eq, Int32.toInt_toInt64, li_0, lj_0, li_1, lj_1, li_2, lj_2, li_3, lj_3, li_4, lj_4, li_5, lj_5, li_6, lj_6, li_7, lj_7, li_8, lj_8, li_10, lj_10, li_11, lj_11, li_12, lj_12, li_24, lj_24, li_25, lj_25, li_50, lj_50, li_130, lj_130, li_160, lj_160, li_800, lj_800, li_4000, lj_4000, li_10000, lj_10000, li_16384, lj_16384, li_26, lj_26, li_32, lj_32, li_48, lj_48, li_57, lj_57, li_59, lj_59, li_97, lj_97, li_99, lj_99, li_122, lj_122, li_m1, lj_m1, li_m2, lj_m2, li_m3, lj_m3, li_m4, lj_m4, li_m5, lj_m5, li_m6, lj_m6] at * <;> omega))
set_option maxHeartbeats 4000000 in
set_option maxRecDepth 100000 in
theorem c_write (l : Launch) (g : va_G) (cT : Nat → ClassId) (sz : Nat) (o : Nat) (ra : Nat) (tx : Nat) (lt : Nat) (wl : Nat) (rw : Nat) (kA : Nat) (bA : Nat) (lA : Nat) (tb : Nat) (b : Int64) (n : Int32)  : Ctr l g cT sz yX11_write wsX11_write rm_c_write [.ref o, .long b, .int n] [(o, .inr (11, [.ref ra, .ref tx, .ref lt, .int 0, .ref wl, .ref rw, .ref kA, .ref bA, .ref lA, .null, .null])), (tx, .inr (9, [.ref tb, .int 0, .int 0, .int 0, .int 0, .int 0, .int 0, .int 0, .int 0])), (tb, .inl (cT 0, 160, .inl (fun _ => 0)))] (QI g (fun (r : Int32) (u : Unit) => r = sp_write b n) (fun (u : Unit) => [])) 0 0 := by
  refine mk_ctr (cc := cX11_write) (maxL := 4) (ret := (some .int)) (by decide) rfl (Nat.le_of_ble_eq_true rfl) ?_
  intro p e s m args below meth c A Q hx hb hr hts hown hlocks hin hml hP hK hD hN hZ hA hS hQ ls hl
  have hl : lv_has ls 4 [(0, .ref o), (1, .long b), (3, .int n)] := hl
  obtain ⟨H, hH⟩ : ∃ H : Heap, H = s.heap := ⟨_, rfl⟩
  obtain ⟨locs, hlo⟩ : ∃ x : List Loc, x = [] := ⟨_, rfl⟩
  rw [← hH] at hP
  have hS : va_S A s.heap H locs := by rw [hH, hlo]; exact hS
  have hgo : W p l e rm_c_write s m args below meth c H locs 0 0 Q (F0 m 0 ls []) := by
    clear hH hlo
    refine lv_iload_n hx hb dX11_write_0 rfl (lv_at hl 2 rfl) ?_
    refine lv_iconst (v := 1) hx hb dX11_write_1 (by decide) ?_
    refine lv_icmp_lt (tgt := 11) hx hb dX11_write_2 (by decide) (fun c_1 => ?_) (fun c_1 => ?_)
    · skip
      refine lv_bipush (v := (-3)) hx hb dX11_write_11 (by decide) ?_
      exact rt_i hx hb hr hlocks hQ hP hD hS () [] dX11_write_13 rfl (Nat.le_of_ble_eq_true rfl) (Nat.le_of_ble_eq_true rfl) rfl (by decide) (lf_c_write_0 b n c_1)
    · skip
      refine lv_iload_n hx hb dX11_write_5 rfl (lv_at hl 2 rfl) ?_
      refine lv_bipush (v := 8) hx hb dX11_write_6 (by decide) ?_
      refine lv_icmp_le (tgt := 14) hx hb dX11_write_8 (by decide) (fun c_2 => ?_) (fun c_2 => ?_)
      · skip
        obtain ⟨N, hM, rfl⟩ := nI_of2 (x := n) (M := 8) (n := 8) (by decide) (lf_c_write_1 n c_1 c_2) (lf_c_write_2 n c_1 c_2)
        refine lv_aload_n hx hb dX11_write_14 rfl (lv_at hl 0 rfl) ?_
        refine va_get (C := RX11) (T := TX11) (N := 11) (v := .ref tx) hx hb hts hi_X11_write_X11 hown hK hP 0 rfl rfl 1 (by decide) (hts (.fieldLink RX11 18 "BothWays" "text" "LBothWays$Text;") (by decide +kernel)) (fun _ h => h) rfl dX11_write_15 ?_
        refine lv_lload_n hx hb dX11_write_18 rfl (lv_at hl 1 rfl) ?_
        refine lv_iload_n hx hb dX11_write_19 rfl (lv_at hl 2 rfl) ?_
        refine cj_i 0 0 (wr := [(o, .inr (11, [.ref ra, .ref tx, .ref lt, .int 0, .ref wl, .ref rw, .ref kA, .ref bA, .ref lA, .null, .null]))]) (va_runV (As := [.long b, .int (nI N)]) (rest := []) ⟨hx, hb, hml, hown, hts⟩ (c_T_append l g cT H.size tx tb b N hM) (cwV 2 hts gX11_write_X9_append rfl rfl rfl yd_X9_append ⟨(Nat.le_of_ble_eq_true rfl), (Nat.le_of_ble_eq_true rfl)⟩) (preV (wc := [(tx, .inr (9, [.ref tb, .int 0, .int 0, .int 0, .int 0, .int 0, .int 0, .int 0, .int 0])), (tb, .inl (cT 0, 160, .inl (fun _ => 0)))]) rfl hP hD hK hN hZ hS hA [1, 2] rfl (by decide) (ci := 9) (q0 := 1) rfl rfl) rfl rfl hl.1 rfl (lv_room (Nat.le_of_ble_eq_true rfl)) dX11_write_20 ⟨(Nat.le_of_ble_eq_true rfl), (Nat.le_of_ble_eq_true rfl)⟩) hP hD hS hA [1, 2] [0] rfl rfl (by decide) (by decide) (Nat.le_of_ble_eq_true rfl) (Nat.le_of_ble_eq_true rfl) (fun r_3 u H locs h_4 hP hD hS => ?_)
        have hP : va_P g vwCl [(o, .inr (11, [.ref ra, .ref tx, .ref lt, .int 0, .ref wl, .ref rw, .ref kA, .ref bA, .ref lA, .null, .null])), (tx, .inr (9, [.ref tb, .int (nI N), .int 0, .int 0, .int 0, .int 0, .int 0, .int 0, .int 0]))] H := hP
        have hD : va_D A [(o, .inr (11, [.ref ra, .ref tx, .ref lt, .int 0, .ref wl, .ref rw, .ref kA, .ref bA, .ref lA, .null, .null])), (tx, .inr (9, [.ref tb, .int (nI N), .int 0, .int 0, .int 0, .int 0, .int 0, .int 0, .int 0]))] := hD
        subst h_4
        refine if_eq_f hx hb dX11_write_23 36 (by decide) (by decide) ?_
        refine lv_aload_n hx hb dX11_write_26 rfl (lv_at hl 0 rfl) ?_
        refine va_get (C := RX11) (T := TX11) (N := 11) (v := .ref tx) hx hb hts hi_X11_write_X11 hown hK hP 0 rfl rfl 1 (by decide) (hts (.fieldLink RX11 18 "BothWays" "text" "LBothWays$Text;") (by decide +kernel)) (fun _ h => h) rfl dX11_write_27 ?_
        refine va_getN (C := RX9) (T := TX9) (N := 9) (v := .int (nI N)) hx hb hts hi_X11_write_X9 hown hK hP 1 rfl rfl 1 (by decide) (nf_0 hN) (fun _ h => h) rfl dX11_write_30 ?_
        refine lv_goto (tgt := 38) hx hb dX11_write_33 (by decide) ?_
        exact rt_i hx hb hr hlocks hQ hP hD hS () [] dX11_write_38 rfl (Nat.le_of_ble_eq_true rfl) (Nat.le_of_ble_eq_true rfl) rfl (by decide) (lf_c_write_3 b N c_1 c_2 hM)
      · skip
        refine lv_bipush (v := (-3)) hx hb dX11_write_11 (by decide) ?_
        exact rt_i hx hb hr hlocks hQ hP hD hS () [] dX11_write_13 rfl (Nat.le_of_ble_eq_true rfl) (Nat.le_of_ble_eq_true rfl) rfl (by decide) (lf_c_write_4 b n c_1 c_2)
  rw [hH, hlo] at hgo
  exact hgo
theorem hi_X11_erase_X11 : ∀ w ∈ wsX110, w ∈ wsX11_erase := fun _ h => List.mem_cons_of_mem _ (List.mem_append_left _ (List.mem_append_right _ h))
theorem hi_X11_erase_X9 : ∀ w ∈ wsX90, w ∈ wsX11_erase := fun _ h => List.mem_cons_of_mem _ (List.mem_append_right _ h)
abbrev rm_c_erase : Room := { frames := 0, cells := 0, slots := 0, locals := 0 }
set_option maxHeartbeats 4000000 in
set_option maxRecDepth 100000 in
theorem c_erase (l : Launch) (g : va_G) (cT : Nat → ClassId) (sz : Nat) (o : Nat) (ra : Nat) (tx : Nat) (lt : Nat) (wl : Nat) (rw : Nat) (kA : Nat) (bA : Nat) (lA : Nat) (tb : Nat)  : Ctr l g cT sz yX11_erase wsX11_erase rm_c_erase [.ref o] [(o, .inr (11, [.ref ra, .ref tx, .ref lt, .int 0, .ref wl, .ref rw, .ref kA, .ref bA, .ref lA, .null, .null])), (tx, .inr (9, [.ref tb, .int 0, .int 0, .int 0, .int 0, .int 0, .int 0, .int 0, .int 0]))] (QI g (fun (r : Int32) (u : Unit) => r = (0 : Int32)) (fun (u : Unit) => [])) 0 0 := by
  refine mk_ctr (cc := cX11_erase) (maxL := 2) (ret := (some .int)) (by decide) rfl (Nat.le_of_ble_eq_true rfl) ?_
  intro p e s m args below meth c A Q hx hb hr hts hown hlocks hin hml hP hK hD hN hZ hA hS hQ ls hl
  have hl : lv_has ls 2 [(0, .ref o)] := hl
  obtain ⟨H, hH⟩ : ∃ H : Heap, H = s.heap := ⟨_, rfl⟩
  obtain ⟨locs, hlo⟩ : ∃ x : List Loc, x = [] := ⟨_, rfl⟩
  rw [← hH] at hP
  have hS : va_S A s.heap H locs := by rw [hH, hlo]; exact hS
  have hgo : W p l e rm_c_erase s m args below meth c H locs 0 0 Q (F0 m 0 ls []) := by
    clear hH hlo
    refine lv_aload_n hx hb dX11_erase_0 rfl (lv_at hl 0 rfl) ?_
    refine va_get (C := RX11) (T := TX11) (N := 11) (v := .ref tx) hx hb hts hi_X11_erase_X11 hown hK hP 0 rfl rfl 1 (by decide) (hts (.fieldLink RX11 18 "BothWays" "text" "LBothWays$Text;") (by decide +kernel)) (fun _ h => h) rfl dX11_erase_1 ?_
    refine va_getN (C := RX9) (T := TX9) (N := 9) (v := .int 0) hx hb hts hi_X11_erase_X9 hown hK hP 1 rfl rfl 1 (by decide) (nf_0 hN) (fun _ h => h) rfl dX11_erase_4 ?_
    refine lv_istore_n (lv' := [(1, .int 0), (0, .ref o)]) hx hb dX11_erase_7 rfl hl (by decide) rfl (fun ls hl => ?_)
    refine lv_aload_n hx hb dX11_erase_8 rfl (lv_at hl 1 rfl) ?_
    refine va_get (C := RX11) (T := TX11) (N := 11) (v := .ref tx) hx hb hts hi_X11_erase_X11 hown hK hP 0 rfl rfl 1 (by decide) (hts (.fieldLink RX11 18 "BothWays" "text" "LBothWays$Text;") (by decide +kernel)) (fun _ h => h) rfl dX11_erase_9 ?_
    refine lv_iconst (v := 0) hx hb dX11_erase_12 (by decide) ?_
    refine va_putN (C := RX9) (T := TX9) (N := 9) (v := .int 0) (ty := .int) hx hb hts hi_X11_erase_X9 tyX9 tyX9_ok nmX9 hown hK hP hD hS 1 rfl rfl 1 (by decide) (nf_0 hN) (fun _ h => h) rfl (by decide +kernel) rfl rfl (Nat.le_of_ble_eq_true rfl) dX11_erase_13 (fun H locs hP hD hS => ?_)
    have hP : va_P g vwCl [(o, .inr (11, [.ref ra, .ref tx, .ref lt, .int 0, .ref wl, .ref rw, .ref kA, .ref bA, .ref lA, .null, .null])), (tx, .inr (9, [.ref tb, .int 0, .int 0, .int 0, .int 0, .int 0, .int 0, .int 0, .int 0]))] H := hP
    have hD : va_D A [(o, .inr (11, [.ref ra, .ref tx, .ref lt, .int 0, .ref wl, .ref rw, .ref kA, .ref bA, .ref lA, .null, .null])), (tx, .inr (9, [.ref tb, .int 0, .int 0, .int 0, .int 0, .int 0, .int 0, .int 0, .int 0]))] := hD
    refine lv_iload_n hx hb dX11_erase_16 rfl (lv_at hl 0 rfl) ?_
    exact rt_i hx hb hr hlocks hQ hP hD hS () [] dX11_erase_17 rfl (Nat.le_of_ble_eq_true rfl) (Nat.le_of_ble_eq_true rfl) rfl (by decide) rfl
  rw [hH, hlo] at hgo
  exact hgo
theorem hi_X11_fault_X11 : ∀ w ∈ wsX110, w ∈ wsX11_fault := fun _ h => List.mem_cons_of_mem _ (List.mem_append_left _ (List.mem_append_left _ (List.mem_append_right _ h)))
theorem yd_X9_parse : yX9_parse.cls = RX9 ∧ yX9_parse.cls ≠ "java/lang/invoke/MethodHandle" ∧ yX9_parse.cls ≠ "java/lang/invoke/VarHandle" ∧ (parseMethodDescriptor yX9_parse.desc).map (fun d => d.parameters.length) = some 2 := by decide +kernel
abbrev rm_c_fault : Room := { frames := 4, cells := 0, slots := 0, locals := 89 }
theorem lf_c_fault_0   : (0 : Int32) = sp_fault 0 := by (unfold sp_fault; rw [if_pos] <;> (simp only [true_or, or_true, false_or, or_false, true_and, and_true, false_and, and_false, not_true_eq_false, not_false_eq_true, i_lt, i_le, i_eq, j_lt, j_le, j_eq, Int32.toInt_toInt64, li_0, lj_0, li_1, lj_1, li_2, lj_2, li_3, lj_3, li_4, lj_4, li_5, lj_5, li_6, lj_6, li_7, lj_7, li_8, lj_8, li_10, lj_10, li_11, lj_11, li_12, lj_12, li_24, lj_24, li_25, lj_25, li_50, lj_50, li_130, lj_130, li_160, lj_160, li_800, lj_800, li_4000, lj_4000, li_10000, lj_10000, li_16384, lj_16384, li_26, lj_26, li_32, lj_32, li_48, lj_48, li_57, lj_57, li_59, lj_59, li_97, lj_97, li_99, lj_99, li_122, lj_122, li_m1, lj_m1, li_m2, lj_m2, li_m3, lj_m3, li_m4, lj_m4, li_m5, lj_m5, li_m6, lj_m6] at * <;> omega))
theorem lf_c_fault_1   : (0 : Int32) = sp_fault 1 := by (unfold sp_fault; rw [if_pos] <;> (simp only [true_or, or_true, false_or, or_false, true_and, and_true, false_and, and_false, not_true_eq_false, not_false_eq_true, i_lt, i_le, i_eq, j_lt, j_le, j_eq, Int32.toInt_toInt64, li_0, lj_0, li_1, lj_1, li_2, lj_2, li_3, lj_3, li_4, lj_4, li_5, lj_5, li_6, lj_6, li_7, lj_7, li_8, lj_8, li_10, lj_10, li_11, lj_11, li_12, lj_12, li_24, lj_24, li_25, lj_25, li_50, lj_50, li_130, lj_130, li_160, lj_160, li_800, lj_800, li_4000, lj_4000, li_10000, lj_10000, li_16384, lj_16384, li_26, lj_26, li_32, lj_32, li_48, lj_48, li_57, lj_57, li_59, lj_59, li_97, lj_97, li_99, lj_99, li_122, lj_122, li_m1, lj_m1, li_m2, lj_m2, li_m3, lj_m3, li_m4, lj_m4, li_m5, lj_m5, li_m6, lj_m6] at * <;> omega))
theorem lf_c_fault_2 (x : Int32) (h_4 : ¬ (x = 0 ∨ x = 1)) : ((-2) : Int32) = sp_fault x := by (unfold sp_fault; rw [if_neg] <;> (simp only [true_or, or_true, false_or, or_false, true_and, and_true, false_and, and_false, not_true_eq_false, not_false_eq_true, i_lt, i_le, i_eq, j_lt, j_le, j_eq, Int32.toInt_toInt64, li_0, lj_0, li_1, lj_1, li_2, lj_2, li_3, lj_3, li_4, lj_4, li_5, lj_5, li_6, lj_6, li_7, lj_7, li_8, lj_8, li_10, lj_10, li_11, lj_11, li_12, lj_12, li_24, lj_24, li_25, lj_25, li_50, lj_50, li_130, lj_130, li_160, lj_160, li_800, lj_800, li_4000, lj_4000, li_10000, lj_10000, li_16384, lj_16384, li_26, lj_26, li_32, lj_32, li_48, lj_48, li_57, lj_57, li_59, lj_59, li_97, lj_97, li_99, lj_99, li_122, lj_122, li_m1, lj_m1, li_m2, lj_m2, li_m3, lj_m3, li_m4, lj_m4, li_m5, lj_m5, li_m6, lj_m6] at * <;> omega))
set_option maxHeartbeats 4000000 in
set_option maxRecDepth 100000 in
theorem c_fault (l : Launch) (g : va_G) (cT : Nat → ClassId) (sz : Nat) (o : Nat) (ra : Nat) (tx : Nat) (lt : Nat) (wl : Nat) (rw : Nat) (kA : Nat) (bA : Nat) (lA : Nat) (r0 : Nat) (r1 : Nat) (a0 : Nat) (a1 : Nat) (tb : Nat) (x : Int32)  : Ctr l g cT sz yX11_fault wsX11_fault rm_c_fault [.ref o, .int x] [(o, .inr (11, [.ref ra, .ref tx, .ref lt, .int 0, .ref wl, .ref rw, .ref kA, .ref bA, .ref lA, .null, .null])), (ra, .inl (cT 3, 2, .inr (.inr (.inr (.inr (va_up (va_up (fun _ => none) 0 (some r0)) 1 (some r1))))))), (r0, .inr (6, [.int 1, .int 0, .int 0, .int 0, .ref a0])), (a0, .inl (cT 0, 25, .inl (fun _ => (-1)))), (r1, .inr (6, [.int 1, .int 0, .int 0, .int 0, .ref a1])), (a1, .inl (cT 0, 25, .inl (fun _ => (-1)))), (tx, .inr (9, [.ref tb, .int 0, .int 0, .int 0, .int 0, .int 0, .int 0, .int 0, .int 0]))] (QI g (fun (r : Int32) (u : Unit) => r = sp_fault x) (fun (u : Unit) => [])) 0 0 := by
  refine mk_ctr (cc := cX11_fault) (maxL := 2) (ret := (some .int)) (by decide) rfl (Nat.le_of_ble_eq_true rfl) ?_
  intro p e s m args below meth c A Q hx hb hr hts hown hlocks hin hml hP hK hD hN hZ hA hS hQ ls hl
  have hl : lv_has ls 2 [(0, .ref o), (1, .int x)] := hl
  obtain ⟨H, hH⟩ : ∃ H : Heap, H = s.heap := ⟨_, rfl⟩
  obtain ⟨locs, hlo⟩ : ∃ x : List Loc, x = [] := ⟨_, rfl⟩
  rw [← hH] at hP
  have hS : va_S A s.heap H locs := by rw [hH, hlo]; exact hS
  have hgo : W p l e rm_c_fault s m args below meth c H locs 0 0 Q (F0 m 0 ls []) := by
    clear hH hlo
    refine lv_iload_n hx hb dX11_fault_0 rfl (lv_at hl 1 rfl) ?_
    refine cp_i (va_runS (As := [.int x]) (rest := []) ⟨hx, hb, hml, hown, hts⟩ (c_isReader l g cT H.size x) (va_cwS 1 hts gX11_fault_X11_isReader rfl rfl rfl yd_X11_isReader.2 ⟨(Nat.le_of_ble_eq_true rfl), (Nat.le_of_ble_eq_true rfl)⟩) (preS (ws := []) (wc := []) rfl (fun _ _ h => by simp at h) (va_D_nil (A := A)) hK hN hZ hS hA [] rfl rfl) rfl rfl hl.1 rfl (lv_room (Nat.le_of_ble_eq_true rfl)) dX11_fault_1 ⟨(Nat.le_of_ble_eq_true rfl), (Nat.le_of_ble_eq_true rfl)⟩) hP hS hA (fun r_1 u H locs h_2 hP hS => ?_)
    rcases h_2 with ⟨rfl, h_3⟩ | ⟨rfl, h_4⟩
    · skip
      rcases h_3 with rfl | rfl
      · skip
        refine if_eq_f hx hb dX11_fault_4 24 (by decide) (by decide) ?_
        refine lv_aload_n hx hb dX11_fault_7 rfl (lv_at hl 0 rfl) ?_
        refine va_get (C := RX11) (T := TX11) (N := 11) (v := .ref tx) hx hb hts hi_X11_fault_X11 hown hK hP 0 rfl rfl 1 (by decide) (hts (.fieldLink RX11 18 "BothWays" "text" "LBothWays$Text;") (by decide +kernel)) (fun _ h => h) rfl dX11_fault_8 ?_
        refine lv_aload_n hx hb dX11_fault_11 rfl (lv_at hl 0 rfl) ?_
        refine va_get (C := RX11) (T := TX11) (N := 11) (v := .ref ra) hx hb hts hi_X11_fault_X11 hown hK hP 0 rfl rfl 0 (by decide) (hts (.fieldLink RX11 11 "BothWays" "readers" "[LBothWays$Reader;") (by decide +kernel)) (fun _ h => h) rfl dX11_fault_12 ?_
        refine lv_iload_n hx hb dX11_fault_15 rfl (lv_at hl 1 rfl) ?_
        refine w_aald (v := .ref r0) hx hb hK hP 1 3 rfl rfl dX11_fault_16 (inC (by decide)) rfl ?_
        refine lv_iconst (v := 0) hx hb dX11_fault_17 (by decide) ?_
        refine cj_i 0 0 (wr := [(o, .inr (11, [.ref ra, .ref tx, .ref lt, .int 0, .ref wl, .ref rw, .ref kA, .ref bA, .ref lA, .null, .null])), (ra, .inl (cT 3, 2, .inr (.inr (.inr (.inr (va_up (va_up (fun _ => none) 0 (some r0)) 1 (some r1))))))), (r0, .inr (6, [.int 1, .int 0, .int 0, .int 0, .ref a0])), (a0, .inl (cT 0, 25, .inl (fun _ => (-1)))), (r1, .inr (6, [.int 1, .int 0, .int 0, .int 0, .ref a1])), (a1, .inl (cT 0, 25, .inl (fun _ => (-1))))]) (va_runV (As := [.ref r0, .int 0]) (rest := []) ⟨hx, hb, hml, hown, hts⟩ (c_T_parse l g cT H.size tx tb r0) (cwV 2 hts gX11_fault_X9_parse rfl rfl rfl yd_X9_parse ⟨(Nat.le_of_ble_eq_true rfl), (Nat.le_of_ble_eq_true rfl)⟩) (preV (wc := [(tx, .inr (9, [.ref tb, .int 0, .int 0, .int 0, .int 0, .int 0, .int 0, .int 0, .int 0]))]) rfl hP hD hK hN hZ hS hA [6] rfl (by decide) (ci := 9) (q0 := 6) rfl rfl) rfl rfl hl.1 rfl (lv_room (Nat.le_of_ble_eq_true rfl)) dX11_fault_18 ⟨(Nat.le_of_ble_eq_true rfl), (Nat.le_of_ble_eq_true rfl)⟩) hP hD hS hA [6] [0, 1, 2, 3, 4, 5] rfl rfl (by decide) (by decide) (Nat.le_of_ble_eq_true rfl) (Nat.le_of_ble_eq_true rfl) (fun r_5 u H locs h_6 hP hD hS => ?_)
        have hP : va_P g vwCl [(o, .inr (11, [.ref ra, .ref tx, .ref lt, .int 0, .ref wl, .ref rw, .ref kA, .ref bA, .ref lA, .null, .null])), (ra, .inl (cT 3, 2, .inr (.inr (.inr (.inr (va_up (va_up (fun _ => none) 0 (some r0)) 1 (some r1))))))), (r0, .inr (6, [.int 1, .int 0, .int 0, .int 0, .ref a0])), (a0, .inl (cT 0, 25, .inl (fun _ => (-1)))), (r1, .inr (6, [.int 1, .int 0, .int 0, .int 0, .ref a1])), (a1, .inl (cT 0, 25, .inl (fun _ => (-1))))] H := hP
        have hD : va_D A [(o, .inr (11, [.ref ra, .ref tx, .ref lt, .int 0, .ref wl, .ref rw, .ref kA, .ref bA, .ref lA, .null, .null])), (ra, .inl (cT 3, 2, .inr (.inr (.inr (.inr (va_up (va_up (fun _ => none) 0 (some r0)) 1 (some r1))))))), (r0, .inr (6, [.int 1, .int 0, .int 0, .int 0, .ref a0])), (a0, .inl (cT 0, 25, .inl (fun _ => (-1)))), (r1, .inr (6, [.int 1, .int 0, .int 0, .int 0, .ref a1])), (a1, .inl (cT 0, 25, .inl (fun _ => (-1))))] := hD
        subst h_6
        refine lv_goto (tgt := 26) hx hb dX11_fault_21 (by decide) ?_
        exact rt_i hx hb hr hlocks hQ hP hD hS () [] dX11_fault_26 rfl (Nat.le_of_ble_eq_true rfl) (Nat.le_of_ble_eq_true rfl) rfl (by decide) lf_c_fault_0
      · skip
        refine if_eq_f hx hb dX11_fault_4 24 (by decide) (by decide) ?_
        refine lv_aload_n hx hb dX11_fault_7 rfl (lv_at hl 0 rfl) ?_
        refine va_get (C := RX11) (T := TX11) (N := 11) (v := .ref tx) hx hb hts hi_X11_fault_X11 hown hK hP 0 rfl rfl 1 (by decide) (hts (.fieldLink RX11 18 "BothWays" "text" "LBothWays$Text;") (by decide +kernel)) (fun _ h => h) rfl dX11_fault_8 ?_
        refine lv_aload_n hx hb dX11_fault_11 rfl (lv_at hl 0 rfl) ?_
        refine va_get (C := RX11) (T := TX11) (N := 11) (v := .ref ra) hx hb hts hi_X11_fault_X11 hown hK hP 0 rfl rfl 0 (by decide) (hts (.fieldLink RX11 11 "BothWays" "readers" "[LBothWays$Reader;") (by decide +kernel)) (fun _ h => h) rfl dX11_fault_12 ?_
        refine lv_iload_n hx hb dX11_fault_15 rfl (lv_at hl 1 rfl) ?_
        refine w_aald (v := .ref r1) hx hb hK hP 1 3 rfl rfl dX11_fault_16 (inC (by decide)) rfl ?_
        refine lv_iconst (v := 0) hx hb dX11_fault_17 (by decide) ?_
        refine cj_i 0 0 (wr := [(o, .inr (11, [.ref ra, .ref tx, .ref lt, .int 0, .ref wl, .ref rw, .ref kA, .ref bA, .ref lA, .null, .null])), (ra, .inl (cT 3, 2, .inr (.inr (.inr (.inr (va_up (va_up (fun _ => none) 0 (some r0)) 1 (some r1))))))), (r0, .inr (6, [.int 1, .int 0, .int 0, .int 0, .ref a0])), (a0, .inl (cT 0, 25, .inl (fun _ => (-1)))), (r1, .inr (6, [.int 1, .int 0, .int 0, .int 0, .ref a1])), (a1, .inl (cT 0, 25, .inl (fun _ => (-1))))]) (va_runV (As := [.ref r1, .int 0]) (rest := []) ⟨hx, hb, hml, hown, hts⟩ (c_T_parse l g cT H.size tx tb r1) (cwV 2 hts gX11_fault_X9_parse rfl rfl rfl yd_X9_parse ⟨(Nat.le_of_ble_eq_true rfl), (Nat.le_of_ble_eq_true rfl)⟩) (preV (wc := [(tx, .inr (9, [.ref tb, .int 0, .int 0, .int 0, .int 0, .int 0, .int 0, .int 0, .int 0]))]) rfl hP hD hK hN hZ hS hA [6] rfl (by decide) (ci := 9) (q0 := 6) rfl rfl) rfl rfl hl.1 rfl (lv_room (Nat.le_of_ble_eq_true rfl)) dX11_fault_18 ⟨(Nat.le_of_ble_eq_true rfl), (Nat.le_of_ble_eq_true rfl)⟩) hP hD hS hA [6] [0, 1, 2, 3, 4, 5] rfl rfl (by decide) (by decide) (Nat.le_of_ble_eq_true rfl) (Nat.le_of_ble_eq_true rfl) (fun r_7 u H locs h_8 hP hD hS => ?_)
        have hP : va_P g vwCl [(o, .inr (11, [.ref ra, .ref tx, .ref lt, .int 0, .ref wl, .ref rw, .ref kA, .ref bA, .ref lA, .null, .null])), (ra, .inl (cT 3, 2, .inr (.inr (.inr (.inr (va_up (va_up (fun _ => none) 0 (some r0)) 1 (some r1))))))), (r0, .inr (6, [.int 1, .int 0, .int 0, .int 0, .ref a0])), (a0, .inl (cT 0, 25, .inl (fun _ => (-1)))), (r1, .inr (6, [.int 1, .int 0, .int 0, .int 0, .ref a1])), (a1, .inl (cT 0, 25, .inl (fun _ => (-1))))] H := hP
        have hD : va_D A [(o, .inr (11, [.ref ra, .ref tx, .ref lt, .int 0, .ref wl, .ref rw, .ref kA, .ref bA, .ref lA, .null, .null])), (ra, .inl (cT 3, 2, .inr (.inr (.inr (.inr (va_up (va_up (fun _ => none) 0 (some r0)) 1 (some r1))))))), (r0, .inr (6, [.int 1, .int 0, .int 0, .int 0, .ref a0])), (a0, .inl (cT 0, 25, .inl (fun _ => (-1)))), (r1, .inr (6, [.int 1, .int 0, .int 0, .int 0, .ref a1])), (a1, .inl (cT 0, 25, .inl (fun _ => (-1))))] := hD
        subst h_8
        refine lv_goto (tgt := 26) hx hb dX11_fault_21 (by decide) ?_
        exact rt_i hx hb hr hlocks hQ hP hD hS () [] dX11_fault_26 rfl (Nat.le_of_ble_eq_true rfl) (Nat.le_of_ble_eq_true rfl) rfl (by decide) lf_c_fault_1
    · skip
      refine if_eq_t hx hb 24 dX11_fault_4 (by decide) (by decide) ?_
      refine lv_bipush (v := (-2)) hx hb dX11_fault_24 (by decide) ?_
      exact rt_i hx hb hr hlocks hQ hP hD hS () [] dX11_fault_26 rfl (Nat.le_of_ble_eq_true rfl) (Nat.le_of_ble_eq_true rfl) rfl (by decide) (lf_c_fault_2 x h_4)
  rw [hH, hlo] at hgo
  exact hgo
theorem hi_X11_moves_X11 : ∀ w ∈ wsX110, w ∈ wsX11_moves := fun _ h => List.mem_cons_of_mem _ (List.mem_append_left _ (List.mem_append_left _ (List.mem_append_right _ h)))
abbrev rm_c_moves : Room := { frames := 4, cells := 0, slots := 0, locals := 89 }
theorem lf_c_moves_0   : ((-4) : Int32) = sp_moves 0 := by (unfold sp_moves; rw [if_pos] <;> (simp only [true_or, or_true, false_or, or_false, true_and, and_true, false_and, and_false, not_true_eq_false, not_false_eq_true, i_lt, i_le, i_eq, j_lt, j_le, j_eq, Int32.toInt_toInt64, li_0, lj_0, li_1, lj_1, li_2, lj_2, li_3, lj_3, li_4, lj_4, li_5, lj_5, li_6, lj_6, li_7, lj_7, li_8, lj_8, li_10, lj_10, li_11, lj_11, li_12, lj_12, li_24, lj_24, li_25, lj_25, li_50, lj_50, li_130, lj_130, li_160, lj_160, li_800, lj_800, li_4000, lj_4000, li_10000, lj_10000, li_16384, lj_16384, li_26, lj_26, li_32, lj_32, li_48, lj_48, li_57, lj_57, li_59, lj_59, li_97, lj_97, li_99, lj_99, li_122, lj_122, li_m1, lj_m1, li_m2, lj_m2, li_m3, lj_m3, li_m4, lj_m4, li_m5, lj_m5, li_m6, lj_m6] at * <;> omega))
theorem lf_c_moves_1   : ((-4) : Int32) = sp_moves 1 := by (unfold sp_moves; rw [if_pos] <;> (simp only [true_or, or_true, false_or, or_false, true_and, and_true, false_and, and_false, not_true_eq_false, not_false_eq_true, i_lt, i_le, i_eq, j_lt, j_le, j_eq, Int32.toInt_toInt64, li_0, lj_0, li_1, lj_1, li_2, lj_2, li_3, lj_3, li_4, lj_4, li_5, lj_5, li_6, lj_6, li_7, lj_7, li_8, lj_8, li_10, lj_10, li_11, lj_11, li_12, lj_12, li_24, lj_24, li_25, lj_25, li_50, lj_50, li_130, lj_130, li_160, lj_160, li_800, lj_800, li_4000, lj_4000, li_10000, lj_10000, li_16384, lj_16384, li_26, lj_26, li_32, lj_32, li_48, lj_48, li_57, lj_57, li_59, lj_59, li_97, lj_97, li_99, lj_99, li_122, lj_122, li_m1, lj_m1, li_m2, lj_m2, li_m3, lj_m3, li_m4, lj_m4, li_m5, lj_m5, li_m6, lj_m6] at * <;> omega))
theorem lf_c_moves_2 (x : Int32) (h_4 : ¬ (x = 0 ∨ x = 1)) : ((-2) : Int32) = sp_moves x := by (unfold sp_moves; rw [if_neg] <;> (simp only [true_or, or_true, false_or, or_false, true_and, and_true, false_and, and_false, not_true_eq_false, not_false_eq_true, i_lt, i_le, i_eq, j_lt, j_le, j_eq, Int32.toInt_toInt64, li_0, lj_0, li_1, lj_1, li_2, lj_2, li_3, lj_3, li_4, lj_4, li_5, lj_5, li_6, lj_6, li_7, lj_7, li_8, lj_8, li_10, lj_10, li_11, lj_11, li_12, lj_12, li_24, lj_24, li_25, lj_25, li_50, lj_50, li_130, lj_130, li_160, lj_160, li_800, lj_800, li_4000, lj_4000, li_10000, lj_10000, li_16384, lj_16384, li_26, lj_26, li_32, lj_32, li_48, lj_48, li_57, lj_57, li_59, lj_59, li_97, lj_97, li_99, lj_99, li_122, lj_122, li_m1, lj_m1, li_m2, lj_m2, li_m3, lj_m3, li_m4, lj_m4, li_m5, lj_m5, li_m6, lj_m6] at * <;> omega))
set_option maxHeartbeats 4000000 in
set_option maxRecDepth 100000 in
theorem c_moves (l : Launch) (g : va_G) (cT : Nat → ClassId) (sz : Nat) (o : Nat) (ra : Nat) (tx : Nat) (lt : Nat) (wl : Nat) (rw : Nat) (kA : Nat) (bA : Nat) (lA : Nat) (r0 : Nat) (r1 : Nat) (a0 : Nat) (a1 : Nat) (tb : Nat) (x : Int32)  : Ctr l g cT sz yX11_moves wsX11_moves rm_c_moves [.ref o, .int x] [(o, .inr (11, [.ref ra, .ref tx, .ref lt, .int 0, .ref wl, .ref rw, .ref kA, .ref bA, .ref lA, .null, .null])), (ra, .inl (cT 3, 2, .inr (.inr (.inr (.inr (va_up (va_up (fun _ => none) 0 (some r0)) 1 (some r1))))))), (r0, .inr (6, [.int 1, .int 0, .int 0, .int 0, .ref a0])), (a0, .inl (cT 0, 25, .inl (fun _ => (-1)))), (r1, .inr (6, [.int 1, .int 0, .int 0, .int 0, .ref a1])), (a1, .inl (cT 0, 25, .inl (fun _ => (-1)))), (tx, .inr (9, [.ref tb, .int 0, .int 0, .int 0, .int 0, .int 0, .int 0, .int 0, .int 0]))] (QI g (fun (r : Int32) (u : Unit) => r = sp_moves x) (fun (u : Unit) => [])) 0 0 := by
  refine mk_ctr (cc := cX11_moves) (maxL := 2) (ret := (some .int)) (by decide) rfl (Nat.le_of_ble_eq_true rfl) ?_
  intro p e s m args below meth c A Q hx hb hr hts hown hlocks hin hml hP hK hD hN hZ hA hS hQ ls hl
  have hl : lv_has ls 2 [(0, .ref o), (1, .int x)] := hl
  obtain ⟨H, hH⟩ : ∃ H : Heap, H = s.heap := ⟨_, rfl⟩
  obtain ⟨locs, hlo⟩ : ∃ x : List Loc, x = [] := ⟨_, rfl⟩
  rw [← hH] at hP
  have hS : va_S A s.heap H locs := by rw [hH, hlo]; exact hS
  have hgo : W p l e rm_c_moves s m args below meth c H locs 0 0 Q (F0 m 0 ls []) := by
    clear hH hlo
    refine lv_iload_n hx hb dX11_moves_0 rfl (lv_at hl 1 rfl) ?_
    refine cp_i (va_runS (As := [.int x]) (rest := []) ⟨hx, hb, hml, hown, hts⟩ (c_isReader l g cT H.size x) (va_cwS 1 hts gX11_moves_X11_isReader rfl rfl rfl yd_X11_isReader.2 ⟨(Nat.le_of_ble_eq_true rfl), (Nat.le_of_ble_eq_true rfl)⟩) (preS (ws := []) (wc := []) rfl (fun _ _ h => by simp at h) (va_D_nil (A := A)) hK hN hZ hS hA [] rfl rfl) rfl rfl hl.1 rfl (lv_room (Nat.le_of_ble_eq_true rfl)) dX11_moves_1 ⟨(Nat.le_of_ble_eq_true rfl), (Nat.le_of_ble_eq_true rfl)⟩) hP hS hA (fun r_1 u H locs h_2 hP hS => ?_)
    rcases h_2 with ⟨rfl, h_3⟩ | ⟨rfl, h_4⟩
    · skip
      rcases h_3 with rfl | rfl
      · skip
        refine if_ne_t hx hb 10 dX11_moves_4 (by decide) (by decide) ?_
        refine lv_aload_n hx hb dX11_moves_10 rfl (lv_at hl 0 rfl) ?_
        refine va_get (C := RX11) (T := TX11) (N := 11) (v := .ref tx) hx hb hts hi_X11_moves_X11 hown hK hP 0 rfl rfl 1 (by decide) (hts (.fieldLink RX11 18 "BothWays" "text" "LBothWays$Text;") (by decide +kernel)) (fun _ h => h) rfl dX11_moves_11 ?_
        refine lv_aload_n hx hb dX11_moves_14 rfl (lv_at hl 0 rfl) ?_
        refine va_get (C := RX11) (T := TX11) (N := 11) (v := .ref ra) hx hb hts hi_X11_moves_X11 hown hK hP 0 rfl rfl 0 (by decide) (hts (.fieldLink RX11 11 "BothWays" "readers" "[LBothWays$Reader;") (by decide +kernel)) (fun _ h => h) rfl dX11_moves_15 ?_
        refine lv_iload_n hx hb dX11_moves_18 rfl (lv_at hl 1 rfl) ?_
        refine w_aald (v := .ref r0) hx hb hK hP 1 3 rfl rfl dX11_moves_19 (inC (by decide)) rfl ?_
        refine lv_iconst (v := 0) hx hb dX11_moves_20 (by decide) ?_
        refine cj_i 0 0 (wr := [(o, .inr (11, [.ref ra, .ref tx, .ref lt, .int 0, .ref wl, .ref rw, .ref kA, .ref bA, .ref lA, .null, .null])), (ra, .inl (cT 3, 2, .inr (.inr (.inr (.inr (va_up (va_up (fun _ => none) 0 (some r0)) 1 (some r1))))))), (r0, .inr (6, [.int 1, .int 0, .int 0, .int 0, .ref a0])), (a0, .inl (cT 0, 25, .inl (fun _ => (-1)))), (r1, .inr (6, [.int 1, .int 0, .int 0, .int 0, .ref a1])), (a1, .inl (cT 0, 25, .inl (fun _ => (-1))))]) (va_runV (As := [.ref r0, .int 0]) (rest := []) ⟨hx, hb, hml, hown, hts⟩ (c_T_parse l g cT H.size tx tb r0) (cwV 2 hts gX11_moves_X9_parse rfl rfl rfl yd_X9_parse ⟨(Nat.le_of_ble_eq_true rfl), (Nat.le_of_ble_eq_true rfl)⟩) (preV (wc := [(tx, .inr (9, [.ref tb, .int 0, .int 0, .int 0, .int 0, .int 0, .int 0, .int 0, .int 0]))]) rfl hP hD hK hN hZ hS hA [6] rfl (by decide) (ci := 9) (q0 := 6) rfl rfl) rfl rfl hl.1 rfl (lv_room (Nat.le_of_ble_eq_true rfl)) dX11_moves_21 ⟨(Nat.le_of_ble_eq_true rfl), (Nat.le_of_ble_eq_true rfl)⟩) hP hD hS hA [6] [0, 1, 2, 3, 4, 5] rfl rfl (by decide) (by decide) (Nat.le_of_ble_eq_true rfl) (Nat.le_of_ble_eq_true rfl) (fun r_5 u H locs h_6 hP hD hS => ?_)
        have hP : va_P g vwCl [(o, .inr (11, [.ref ra, .ref tx, .ref lt, .int 0, .ref wl, .ref rw, .ref kA, .ref bA, .ref lA, .null, .null])), (ra, .inl (cT 3, 2, .inr (.inr (.inr (.inr (va_up (va_up (fun _ => none) 0 (some r0)) 1 (some r1))))))), (r0, .inr (6, [.int 1, .int 0, .int 0, .int 0, .ref a0])), (a0, .inl (cT 0, 25, .inl (fun _ => (-1)))), (r1, .inr (6, [.int 1, .int 0, .int 0, .int 0, .ref a1])), (a1, .inl (cT 0, 25, .inl (fun _ => (-1))))] H := hP
        have hD : va_D A [(o, .inr (11, [.ref ra, .ref tx, .ref lt, .int 0, .ref wl, .ref rw, .ref kA, .ref bA, .ref lA, .null, .null])), (ra, .inl (cT 3, 2, .inr (.inr (.inr (.inr (va_up (va_up (fun _ => none) 0 (some r0)) 1 (some r1))))))), (r0, .inr (6, [.int 1, .int 0, .int 0, .int 0, .ref a0])), (a0, .inl (cT 0, 25, .inl (fun _ => (-1)))), (r1, .inr (6, [.int 1, .int 0, .int 0, .int 0, .ref a1])), (a1, .inl (cT 0, 25, .inl (fun _ => (-1))))] := hD
        subst h_6
        refine lv_iconst (v := (-1)) hx hb dX11_moves_24 (by decide) ?_
        refine icmp_eq_f hx hb dX11_moves_25 31 (by decide) (by decide) ?_
        refine lv_bipush (v := (-4)) hx hb dX11_moves_28 (by decide) ?_
        exact rt_i hx hb hr hlocks hQ hP hD hS () [] dX11_moves_30 rfl (Nat.le_of_ble_eq_true rfl) (Nat.le_of_ble_eq_true rfl) rfl (by decide) lf_c_moves_0
      · skip
        refine if_ne_t hx hb 10 dX11_moves_4 (by decide) (by decide) ?_
        refine lv_aload_n hx hb dX11_moves_10 rfl (lv_at hl 0 rfl) ?_
        refine va_get (C := RX11) (T := TX11) (N := 11) (v := .ref tx) hx hb hts hi_X11_moves_X11 hown hK hP 0 rfl rfl 1 (by decide) (hts (.fieldLink RX11 18 "BothWays" "text" "LBothWays$Text;") (by decide +kernel)) (fun _ h => h) rfl dX11_moves_11 ?_
        refine lv_aload_n hx hb dX11_moves_14 rfl (lv_at hl 0 rfl) ?_
        refine va_get (C := RX11) (T := TX11) (N := 11) (v := .ref ra) hx hb hts hi_X11_moves_X11 hown hK hP 0 rfl rfl 0 (by decide) (hts (.fieldLink RX11 11 "BothWays" "readers" "[LBothWays$Reader;") (by decide +kernel)) (fun _ h => h) rfl dX11_moves_15 ?_
        refine lv_iload_n hx hb dX11_moves_18 rfl (lv_at hl 1 rfl) ?_
        refine w_aald (v := .ref r1) hx hb hK hP 1 3 rfl rfl dX11_moves_19 (inC (by decide)) rfl ?_
        refine lv_iconst (v := 0) hx hb dX11_moves_20 (by decide) ?_
        refine cj_i 0 0 (wr := [(o, .inr (11, [.ref ra, .ref tx, .ref lt, .int 0, .ref wl, .ref rw, .ref kA, .ref bA, .ref lA, .null, .null])), (ra, .inl (cT 3, 2, .inr (.inr (.inr (.inr (va_up (va_up (fun _ => none) 0 (some r0)) 1 (some r1))))))), (r0, .inr (6, [.int 1, .int 0, .int 0, .int 0, .ref a0])), (a0, .inl (cT 0, 25, .inl (fun _ => (-1)))), (r1, .inr (6, [.int 1, .int 0, .int 0, .int 0, .ref a1])), (a1, .inl (cT 0, 25, .inl (fun _ => (-1))))]) (va_runV (As := [.ref r1, .int 0]) (rest := []) ⟨hx, hb, hml, hown, hts⟩ (c_T_parse l g cT H.size tx tb r1) (cwV 2 hts gX11_moves_X9_parse rfl rfl rfl yd_X9_parse ⟨(Nat.le_of_ble_eq_true rfl), (Nat.le_of_ble_eq_true rfl)⟩) (preV (wc := [(tx, .inr (9, [.ref tb, .int 0, .int 0, .int 0, .int 0, .int 0, .int 0, .int 0, .int 0]))]) rfl hP hD hK hN hZ hS hA [6] rfl (by decide) (ci := 9) (q0 := 6) rfl rfl) rfl rfl hl.1 rfl (lv_room (Nat.le_of_ble_eq_true rfl)) dX11_moves_21 ⟨(Nat.le_of_ble_eq_true rfl), (Nat.le_of_ble_eq_true rfl)⟩) hP hD hS hA [6] [0, 1, 2, 3, 4, 5] rfl rfl (by decide) (by decide) (Nat.le_of_ble_eq_true rfl) (Nat.le_of_ble_eq_true rfl) (fun r_7 u H locs h_8 hP hD hS => ?_)
        have hP : va_P g vwCl [(o, .inr (11, [.ref ra, .ref tx, .ref lt, .int 0, .ref wl, .ref rw, .ref kA, .ref bA, .ref lA, .null, .null])), (ra, .inl (cT 3, 2, .inr (.inr (.inr (.inr (va_up (va_up (fun _ => none) 0 (some r0)) 1 (some r1))))))), (r0, .inr (6, [.int 1, .int 0, .int 0, .int 0, .ref a0])), (a0, .inl (cT 0, 25, .inl (fun _ => (-1)))), (r1, .inr (6, [.int 1, .int 0, .int 0, .int 0, .ref a1])), (a1, .inl (cT 0, 25, .inl (fun _ => (-1))))] H := hP
        have hD : va_D A [(o, .inr (11, [.ref ra, .ref tx, .ref lt, .int 0, .ref wl, .ref rw, .ref kA, .ref bA, .ref lA, .null, .null])), (ra, .inl (cT 3, 2, .inr (.inr (.inr (.inr (va_up (va_up (fun _ => none) 0 (some r0)) 1 (some r1))))))), (r0, .inr (6, [.int 1, .int 0, .int 0, .int 0, .ref a0])), (a0, .inl (cT 0, 25, .inl (fun _ => (-1)))), (r1, .inr (6, [.int 1, .int 0, .int 0, .int 0, .ref a1])), (a1, .inl (cT 0, 25, .inl (fun _ => (-1))))] := hD
        subst h_8
        refine lv_iconst (v := (-1)) hx hb dX11_moves_24 (by decide) ?_
        refine icmp_eq_f hx hb dX11_moves_25 31 (by decide) (by decide) ?_
        refine lv_bipush (v := (-4)) hx hb dX11_moves_28 (by decide) ?_
        exact rt_i hx hb hr hlocks hQ hP hD hS () [] dX11_moves_30 rfl (Nat.le_of_ble_eq_true rfl) (Nat.le_of_ble_eq_true rfl) rfl (by decide) lf_c_moves_1
    · skip
      refine if_ne_f hx hb dX11_moves_4 10 (by decide) (by decide) ?_
      refine lv_bipush (v := (-2)) hx hb dX11_moves_7 (by decide) ?_
      exact rt_i hx hb hr hlocks hQ hP hD hS () [] dX11_moves_9 rfl (Nat.le_of_ble_eq_true rfl) (Nat.le_of_ble_eq_true rfl) rfl (by decide) (lf_c_moves_2 x h_4)
  rw [hH, hlo] at hgo
  exact hgo
theorem hi_X11_move_X11 : ∀ w ∈ wsX110, w ∈ wsX11_move := fun _ h => List.mem_cons_of_mem _ (List.mem_append_left _ (List.mem_append_right _ h))
theorem yd_X6_hasState : yX6_hasState.cls = RX6 ∧ yX6_hasState.cls ≠ "java/lang/invoke/MethodHandle" ∧ yX6_hasState.cls ≠ "java/lang/invoke/VarHandle" ∧ (parseMethodDescriptor yX6_hasState.desc).map (fun d => d.parameters.length) = some 1 := by decide +kernel
theorem yd_X11_isSign : yX11_isSign.cls = RX11 ∧ yX11_isSign.cls ≠ "java/lang/invoke/MethodHandle" ∧ yX11_isSign.cls ≠ "java/lang/invoke/VarHandle" ∧ (parseMethodDescriptor yX11_isSign.desc).map (fun d => d.parameters.length) = some 1 := by decide +kernel
abbrev rm_c_move : Room := { frames := 1, cells := 0, slots := 0, locals := 23 }
theorem lf_c_move_0 (z : Int32) (w : Int32) (h_11 : 0 ≤ z ∧ z ≤ 4) (c_13 : w < 0) : ((-3) : Int32) = sp_move 0 0 z w := by (unfold sp_move; rw [if_pos, if_pos] <;> (simp only [true_or, or_true, false_or, or_false, true_and, and_true, false_and, and_false, not_true_eq_false, not_false_eq_true, i_lt, i_le, i_eq, j_lt, j_le, j_eq, Int32.toInt_toInt64, li_0, lj_0, li_1, lj_1, li_2, lj_2, li_3, lj_3, li_4, lj_4, li_5, lj_5, li_6, lj_6, li_7, lj_7, li_8, lj_8, li_10, lj_10, li_11, lj_11, li_12, lj_12, li_24, lj_24, li_25, lj_25, li_50, lj_50, li_130, lj_130, li_160, lj_160, li_800, lj_800, li_4000, lj_4000, li_10000, lj_10000, li_16384, lj_16384, li_26, lj_26, li_32, lj_32, li_48, lj_48, li_57, lj_57, li_59, lj_59, li_97, lj_97, li_99, lj_99, li_122, lj_122, li_m1, lj_m1, li_m2, lj_m2, li_m3, lj_m3, li_m4, lj_m4, li_m5, lj_m5, li_m6, lj_m6] at * <;> omega))
theorem lf_c_move_1 (z : Int32) (w : Int32) (h_11 : 0 ≤ z ∧ z ≤ 4) (c_13 : ¬ w < 0) (c_14 : w ≤ 2) : ((-1) : Int32) = sp_move 0 0 z w := by (unfold sp_move; rw [if_pos, if_neg] <;> (simp only [true_or, or_true, false_or, or_false, true_and, and_true, false_and, and_false, not_true_eq_false, not_false_eq_true, i_lt, i_le, i_eq, j_lt, j_le, j_eq, Int32.toInt_toInt64, li_0, lj_0, li_1, lj_1, li_2, lj_2, li_3, lj_3, li_4, lj_4, li_5, lj_5, li_6, lj_6, li_7, lj_7, li_8, lj_8, li_10, lj_10, li_11, lj_11, li_12, lj_12, li_24, lj_24, li_25, lj_25, li_50, lj_50, li_130, lj_130, li_160, lj_160, li_800, lj_800, li_4000, lj_4000, li_10000, lj_10000, li_16384, lj_16384, li_26, lj_26, li_32, lj_32, li_48, lj_48, li_57, lj_57, li_59, lj_59, li_97, lj_97, li_99, lj_99, li_122, lj_122, li_m1, lj_m1, li_m2, lj_m2, li_m3, lj_m3, li_m4, lj_m4, li_m5, lj_m5, li_m6, lj_m6] at * <;> omega))
theorem lf_c_move_2 (z : Int32) (w : Int32) (h_11 : 0 ≤ z ∧ z ≤ 4) (c_13 : ¬ w < 0) (c_14 : ¬ w ≤ 2) : ((-3) : Int32) = sp_move 0 0 z w := by (unfold sp_move; rw [if_pos, if_pos] <;> (simp only [true_or, or_true, false_or, or_false, true_and, and_true, false_and, and_false, not_true_eq_false, not_false_eq_true, i_lt, i_le, i_eq, j_lt, j_le, j_eq, Int32.toInt_toInt64, li_0, lj_0, li_1, lj_1, li_2, lj_2, li_3, lj_3, li_4, lj_4, li_5, lj_5, li_6, lj_6, li_7, lj_7, li_8, lj_8, li_10, lj_10, li_11, lj_11, li_12, lj_12, li_24, lj_24, li_25, lj_25, li_50, lj_50, li_130, lj_130, li_160, lj_160, li_800, lj_800, li_4000, lj_4000, li_10000, lj_10000, li_16384, lj_16384, li_26, lj_26, li_32, lj_32, li_48, lj_48, li_57, lj_57, li_59, lj_59, li_97, lj_97, li_99, lj_99, li_122, lj_122, li_m1, lj_m1, li_m2, lj_m2, li_m3, lj_m3, li_m4, lj_m4, li_m5, lj_m5, li_m6, lj_m6] at * <;> omega))
theorem lf_c_move_3 (z : Int32) (w : Int32) (h_12 : ¬ (0 ≤ z ∧ z ≤ 4)) : ((-2) : Int32) = sp_move 0 0 z w := by (unfold sp_move; rw [if_neg] <;> (simp only [true_or, or_true, false_or, or_false, true_and, and_true, false_and, and_false, not_true_eq_false, not_false_eq_true, i_lt, i_le, i_eq, j_lt, j_le, j_eq, Int32.toInt_toInt64, li_0, lj_0, li_1, lj_1, li_2, lj_2, li_3, lj_3, li_4, lj_4, li_5, lj_5, li_6, lj_6, li_7, lj_7, li_8, lj_8, li_10, lj_10, li_11, lj_11, li_12, lj_12, li_24, lj_24, li_25, lj_25, li_50, lj_50, li_130, lj_130, li_160, lj_160, li_800, lj_800, li_4000, lj_4000, li_10000, lj_10000, li_16384, lj_16384, li_26, lj_26, li_32, lj_32, li_48, lj_48, li_57, lj_57, li_59, lj_59, li_97, lj_97, li_99, lj_99, li_122, lj_122, li_m1, lj_m1, li_m2, lj_m2, li_m3, lj_m3, li_m4, lj_m4, li_m5, lj_m5, li_m6, lj_m6] at * <;> omega))
theorem lf_c_move_4 (q : Int32) (z : Int32) (w : Int32) (h_8 : ¬ q = 0) : ((-2) : Int32) = sp_move 0 q z w := by (unfold sp_move; rw [if_neg] <;> (simp only [true_or, or_true, false_or, or_false, true_and, and_true, false_and, and_false, not_true_eq_false, not_false_eq_true, i_lt, i_le, i_eq, j_lt, j_le, j_eq, Int32.toInt_toInt64, li_0, lj_0, li_1, lj_1, li_2, lj_2, li_3, lj_3, li_4, lj_4, li_5, lj_5, li_6, lj_6, li_7, lj_7, li_8, lj_8, li_10, lj_10, li_11, lj_11, li_12, lj_12, li_24, lj_24, li_25, lj_25, li_50, lj_50, li_130, lj_130, li_160, lj_160, li_800, lj_800, li_4000, lj_4000, li_10000, lj_10000, li_16384, lj_16384, li_26, lj_26, li_32, lj_32, li_48, lj_48, li_57, lj_57, li_59, lj_59, li_97, lj_97, li_99, lj_99, li_122, lj_122, li_m1, lj_m1, li_m2, lj_m2, li_m3, lj_m3, li_m4, lj_m4, li_m5, lj_m5, li_m6, lj_m6] at * <;> omega))
theorem lf_c_move_5 (z : Int32) (w : Int32) (h_23 : 0 ≤ z ∧ z ≤ 4) (c_25 : w < 0) : ((-3) : Int32) = sp_move 1 0 z w := by (unfold sp_move; rw [if_pos, if_pos] <;> (simp only [true_or, or_true, false_or, or_false, true_and, and_true, false_and, and_false, not_true_eq_false, not_false_eq_true, i_lt, i_le, i_eq, j_lt, j_le, j_eq, Int32.toInt_toInt64, li_0, lj_0, li_1, lj_1, li_2, lj_2, li_3, lj_3, li_4, lj_4, li_5, lj_5, li_6, lj_6, li_7, lj_7, li_8, lj_8, li_10, lj_10, li_11, lj_11, li_12, lj_12, li_24, lj_24, li_25, lj_25, li_50, lj_50, li_130, lj_130, li_160, lj_160, li_800, lj_800, li_4000, lj_4000, li_10000, lj_10000, li_16384, lj_16384, li_26, lj_26, li_32, lj_32, li_48, lj_48, li_57, lj_57, li_59, lj_59, li_97, lj_97, li_99, lj_99, li_122, lj_122, li_m1, lj_m1, li_m2, lj_m2, li_m3, lj_m3, li_m4, lj_m4, li_m5, lj_m5, li_m6, lj_m6] at * <;> omega))
theorem lf_c_move_6 (z : Int32) (w : Int32) (h_23 : 0 ≤ z ∧ z ≤ 4) (c_25 : ¬ w < 0) (c_26 : w ≤ 2) : ((-1) : Int32) = sp_move 1 0 z w := by (unfold sp_move; rw [if_pos, if_neg] <;> (simp only [true_or, or_true, false_or, or_false, true_and, and_true, false_and, and_false, not_true_eq_false, not_false_eq_true, i_lt, i_le, i_eq, j_lt, j_le, j_eq, Int32.toInt_toInt64, li_0, lj_0, li_1, lj_1, li_2, lj_2, li_3, lj_3, li_4, lj_4, li_5, lj_5, li_6, lj_6, li_7, lj_7, li_8, lj_8, li_10, lj_10, li_11, lj_11, li_12, lj_12, li_24, lj_24, li_25, lj_25, li_50, lj_50, li_130, lj_130, li_160, lj_160, li_800, lj_800, li_4000, lj_4000, li_10000, lj_10000, li_16384, lj_16384, li_26, lj_26, li_32, lj_32, li_48, lj_48, li_57, lj_57, li_59, lj_59, li_97, lj_97, li_99, lj_99, li_122, lj_122, li_m1, lj_m1, li_m2, lj_m2, li_m3, lj_m3, li_m4, lj_m4, li_m5, lj_m5, li_m6, lj_m6] at * <;> omega))
theorem lf_c_move_7 (z : Int32) (w : Int32) (h_23 : 0 ≤ z ∧ z ≤ 4) (c_25 : ¬ w < 0) (c_26 : ¬ w ≤ 2) : ((-3) : Int32) = sp_move 1 0 z w := by (unfold sp_move; rw [if_pos, if_pos] <;> (simp only [true_or, or_true, false_or, or_false, true_and, and_true, false_and, and_false, not_true_eq_false, not_false_eq_true, i_lt, i_le, i_eq, j_lt, j_le, j_eq, Int32.toInt_toInt64, li_0, lj_0, li_1, lj_1, li_2, lj_2, li_3, lj_3, li_4, lj_4, li_5, lj_5, li_6, lj_6, li_7, lj_7, li_8, lj_8, li_10, lj_10, li_11, lj_11, li_12, lj_12, li_24, lj_24, li_25, lj_25, li_50, lj_50, li_130, lj_130, li_160, lj_160, li_800, lj_800, li_4000, lj_4000, li_10000, lj_10000, li_16384, lj_16384, li_26, lj_26, li_32, lj_32, li_48, lj_48, li_57, lj_57, li_59, lj_59, li_97, lj_97, li_99, lj_99, li_122, lj_122, li_m1, lj_m1, li_m2, lj_m2, li_m3, lj_m3, li_m4, lj_m4, li_m5, lj_m5, li_m6, lj_m6] at * <;> omega))
theorem lf_c_move_8 (z : Int32) (w : Int32) (h_24 : ¬ (0 ≤ z ∧ z ≤ 4)) : ((-2) : Int32) = sp_move 1 0 z w := by (unfold sp_move; rw [if_neg] <;> (simp only [true_or, or_true, false_or, or_false, true_and, and_true, false_and, and_false, not_true_eq_false, not_false_eq_true, i_lt, i_le, i_eq, j_lt, j_le, j_eq, Int32.toInt_toInt64, li_0, lj_0, li_1, lj_1, li_2, lj_2, li_3, lj_3, li_4, lj_4, li_5, lj_5, li_6, lj_6, li_7, lj_7, li_8, lj_8, li_10, lj_10, li_11, lj_11, li_12, lj_12, li_24, lj_24, li_25, lj_25, li_50, lj_50, li_130, lj_130, li_160, lj_160, li_800, lj_800, li_4000, lj_4000, li_10000, lj_10000, li_16384, lj_16384, li_26, lj_26, li_32, lj_32, li_48, lj_48, li_57, lj_57, li_59, lj_59, li_97, lj_97, li_99, lj_99, li_122, lj_122, li_m1, lj_m1, li_m2, lj_m2, li_m3, lj_m3, li_m4, lj_m4, li_m5, lj_m5, li_m6, lj_m6] at * <;> omega))
theorem lf_c_move_9 (q : Int32) (z : Int32) (w : Int32) (h_20 : ¬ q = 0) : ((-2) : Int32) = sp_move 1 q z w := by (unfold sp_move; rw [if_neg] <;> (simp only [true_or, or_true, false_or, or_false, true_and, and_true, false_and, and_false, not_true_eq_false, not_false_eq_true, i_lt, i_le, i_eq, j_lt, j_le, j_eq, Int32.toInt_toInt64, li_0, lj_0, li_1, lj_1, li_2, lj_2, li_3, lj_3, li_4, lj_4, li_5, lj_5, li_6, lj_6, li_7, lj_7, li_8, lj_8, li_10, lj_10, li_11, lj_11, li_12, lj_12, li_24, lj_24, li_25, lj_25, li_50, lj_50, li_130, lj_130, li_160, lj_160, li_800, lj_800, li_4000, lj_4000, li_10000, lj_10000, li_16384, lj_16384, li_26, lj_26, li_32, lj_32, li_48, lj_48, li_57, lj_57, li_59, lj_59, li_97, lj_97, li_99, lj_99, li_122, lj_122, li_m1, lj_m1, li_m2, lj_m2, li_m3, lj_m3, li_m4, lj_m4, li_m5, lj_m5, li_m6, lj_m6] at * <;> omega))
theorem lf_c_move_10 (x : Int32) (q : Int32) (z : Int32) (w : Int32) (h_4 : ¬ (x = 0 ∨ x = 1)) : ((-2) : Int32) = sp_move x q z w := by (unfold sp_move; rw [if_neg] <;> (simp only [true_or, or_true, false_or, or_false, true_and, and_true, false_and, and_false, not_true_eq_false, not_false_eq_true, i_lt, i_le, i_eq, j_lt, j_le, j_eq, Int32.toInt_toInt64, li_0, lj_0, li_1, lj_1, li_2, lj_2, li_3, lj_3, li_4, lj_4, li_5, lj_5, li_6, lj_6, li_7, lj_7, li_8, lj_8, li_10, lj_10, li_11, lj_11, li_12, lj_12, li_24, lj_24, li_25, lj_25, li_50, lj_50, li_130, lj_130, li_160, lj_160, li_800, lj_800, li_4000, lj_4000, li_10000, lj_10000, li_16384, lj_16384, li_26, lj_26, li_32, lj_32, li_48, lj_48, li_57, lj_57, li_59, lj_59, li_97, lj_97, li_99, lj_99, li_122, lj_122, li_m1, lj_m1, li_m2, lj_m2, li_m3, lj_m3, li_m4, lj_m4, li_m5, lj_m5, li_m6, lj_m6] at * <;> omega))
set_option maxHeartbeats 4000000 in
set_option maxRecDepth 100000 in
theorem c_move (l : Launch) (g : va_G) (cT : Nat → ClassId) (sz : Nat) (o : Nat) (ra : Nat) (tx : Nat) (lt : Nat) (wl : Nat) (rw : Nat) (kA : Nat) (bA : Nat) (lA : Nat) (r0 : Nat) (r1 : Nat) (a0 : Nat) (a1 : Nat) (x : Int32) (q : Int32) (z : Int32) (w : Int32)  : Ctr l g cT sz yX11_move wsX11_move rm_c_move [.ref o, .int x, .int q, .int z, .int w] [(o, .inr (11, [.ref ra, .ref tx, .ref lt, .int 0, .ref wl, .ref rw, .ref kA, .ref bA, .ref lA, .null, .null])), (ra, .inl (cT 3, 2, .inr (.inr (.inr (.inr (va_up (va_up (fun _ => none) 0 (some r0)) 1 (some r1))))))), (r0, .inr (6, [.int 1, .int 0, .int 0, .int 0, .ref a0])), (a0, .inl (cT 0, 25, .inl (fun _ => (-1)))), (r1, .inr (6, [.int 1, .int 0, .int 0, .int 0, .ref a1])), (a1, .inl (cT 0, 25, .inl (fun _ => (-1))))] (QI g (fun (r : Int32) (u : Unit) => r = sp_move x q z w) (fun (u : Unit) => [])) 0 0 := by
  refine mk_ctr (cc := cX11_move) (maxL := 6) (ret := (some .int)) (by decide) rfl (Nat.le_of_ble_eq_true rfl) ?_
  intro p e s m args below meth c A Q hx hb hr hts hown hlocks hin hml hP hK hD hN hZ hA hS hQ ls hl
  have hl : lv_has ls 6 [(0, .ref o), (1, .int x), (2, .int q), (3, .int z), (4, .int w)] := hl
  obtain ⟨H, hH⟩ : ∃ H : Heap, H = s.heap := ⟨_, rfl⟩
  obtain ⟨locs, hlo⟩ : ∃ x : List Loc, x = [] := ⟨_, rfl⟩
  rw [← hH] at hP
  have hS : va_S A s.heap H locs := by rw [hH, hlo]; exact hS
  have hgo : W p l e rm_c_move s m args below meth c H locs 0 0 Q (F0 m 0 ls []) := by
    clear hH hlo
    refine lv_iload_n hx hb dX11_move_0 rfl (lv_at hl 1 rfl) ?_
    refine cp_i (va_runS (As := [.int x]) (rest := []) ⟨hx, hb, hml, hown, hts⟩ (c_isReader l g cT H.size x) (va_cwS 1 hts gX11_move_X11_isReader rfl rfl rfl yd_X11_isReader.2 ⟨(Nat.le_of_ble_eq_true rfl), (Nat.le_of_ble_eq_true rfl)⟩) (preS (ws := []) (wc := []) rfl (fun _ _ h => by simp at h) (va_D_nil (A := A)) hK hN hZ hS hA [] rfl rfl) rfl rfl hl.1 rfl (lv_room (Nat.le_of_ble_eq_true rfl)) dX11_move_1 ⟨(Nat.le_of_ble_eq_true rfl), (Nat.le_of_ble_eq_true rfl)⟩) hP hS hA (fun r_1 u H locs h_2 hP hS => ?_)
    rcases h_2 with ⟨rfl, h_3⟩ | ⟨rfl, h_4⟩
    · skip
      rcases h_3 with rfl | rfl
      · skip
        refine if_eq_f hx hb dX11_move_4 27 (by decide) (by decide) ?_
        refine lv_aload_n hx hb dX11_move_7 rfl (lv_at hl 0 rfl) ?_
        refine va_get (C := RX11) (T := TX11) (N := 11) (v := .ref ra) hx hb hts hi_X11_move_X11 hown hK hP 0 rfl rfl 0 (by decide) (hts (.fieldLink RX11 11 "BothWays" "readers" "[LBothWays$Reader;") (by decide +kernel)) (fun _ h => h) rfl dX11_move_8 ?_
        refine lv_iload_n hx hb dX11_move_11 rfl (lv_at hl 1 rfl) ?_
        refine w_aald (v := .ref r0) hx hb hK hP 1 3 rfl rfl dX11_move_12 (inC (by decide)) rfl ?_
        refine lv_iload_n hx hb dX11_move_13 rfl (lv_at hl 2 rfl) ?_
        refine cj_i 0 0 (wr := [(o, .inr (11, [.ref ra, .ref tx, .ref lt, .int 0, .ref wl, .ref rw, .ref kA, .ref bA, .ref lA, .null, .null])), (ra, .inl (cT 3, 2, .inr (.inr (.inr (.inr (va_up (va_up (fun _ => none) 0 (some r0)) 1 (some r1))))))), (a0, .inl (cT 0, 25, .inl (fun _ => (-1)))), (r1, .inr (6, [.int 1, .int 0, .int 0, .int 0, .ref a1])), (a1, .inl (cT 0, 25, .inl (fun _ => (-1))))]) (va_runV (As := [.int q]) (rest := []) ⟨hx, hb, hml, hown, hts⟩ (c_R_hasState l g cT H.size r0 a0 0 q) (cwV 1 hts gX11_move_X6_hasState rfl rfl rfl yd_X6_hasState ⟨(Nat.le_of_ble_eq_true rfl), (Nat.le_of_ble_eq_true rfl)⟩) (preV (wc := [(r0, .inr (6, [.int 1, .int 0, .int 0, .int 0, .ref a0]))]) rfl hP hD hK hN hZ hS hA [2] rfl (by decide) (ci := 6) (q0 := 2) rfl rfl) rfl rfl hl.1 rfl (lv_room (Nat.le_of_ble_eq_true rfl)) dX11_move_14 ⟨(Nat.le_of_ble_eq_true rfl), (Nat.le_of_ble_eq_true rfl)⟩) hP hD hS hA [2] [0, 1, 3, 4, 5] rfl rfl (by decide) (by decide) (Nat.le_of_ble_eq_true rfl) (Nat.le_of_ble_eq_true rfl) (fun r_5 u H locs h_6 hP hD hS => ?_)
        have hP : va_P g vwCl [(o, .inr (11, [.ref ra, .ref tx, .ref lt, .int 0, .ref wl, .ref rw, .ref kA, .ref bA, .ref lA, .null, .null])), (ra, .inl (cT 3, 2, .inr (.inr (.inr (.inr (va_up (va_up (fun _ => none) 0 (some r0)) 1 (some r1))))))), (a0, .inl (cT 0, 25, .inl (fun _ => (-1)))), (r1, .inr (6, [.int 1, .int 0, .int 0, .int 0, .ref a1])), (a1, .inl (cT 0, 25, .inl (fun _ => (-1)))), (r0, .inr (6, [.int 1, .int 0, .int 0, .int 0, .ref a0]))] H := hP
        have hD : va_D A [(o, .inr (11, [.ref ra, .ref tx, .ref lt, .int 0, .ref wl, .ref rw, .ref kA, .ref bA, .ref lA, .null, .null])), (ra, .inl (cT 3, 2, .inr (.inr (.inr (.inr (va_up (va_up (fun _ => none) 0 (some r0)) 1 (some r1))))))), (a0, .inl (cT 0, 25, .inl (fun _ => (-1)))), (r1, .inr (6, [.int 1, .int 0, .int 0, .int 0, .ref a1])), (a1, .inl (cT 0, 25, .inl (fun _ => (-1)))), (r0, .inr (6, [.int 1, .int 0, .int 0, .int 0, .ref a0]))] := hD
        rcases h_6 with ⟨rfl, h_7⟩ | ⟨rfl, h_8⟩
        · skip
          obtain rfl := h_7
          refine if_eq_f hx hb dX11_move_17 27 (by decide) (by decide) ?_
          refine lv_iload_n hx hb dX11_move_20 rfl (lv_at hl 3 rfl) ?_
          refine cp_i (va_runS (As := [.int z]) (rest := []) ⟨hx, hb, hml, hown, hts⟩ (c_isSign l g cT H.size z) (va_cwS 1 hts gX11_move_X11_isSign rfl rfl rfl yd_X11_isSign.2 ⟨(Nat.le_of_ble_eq_true rfl), (Nat.le_of_ble_eq_true rfl)⟩) (preS (ws := []) (wc := []) rfl (fun _ _ h => by simp at h) (va_D_nil (A := A)) hK hN hZ hS hA [] rfl rfl) rfl rfl hl.1 rfl (lv_room (Nat.le_of_ble_eq_true rfl)) dX11_move_21 ⟨(Nat.le_of_ble_eq_true rfl), (Nat.le_of_ble_eq_true rfl)⟩) hP hS hA (fun r_9 u H locs h_10 hP hS => ?_)
          rcases h_10 with ⟨rfl, h_11⟩ | ⟨rfl, h_12⟩
          · skip
            refine if_ne_t hx hb 30 dX11_move_24 (by decide) (by decide) ?_
            refine lv_iload hx hb dX11_move_30 (lv_at hl 4 rfl) ?_
            refine lv_if_lt (tgt := 41) hx hb dX11_move_32 (by decide) (fun c_13 => ?_) (fun c_13 => ?_)
            · skip
              refine lv_bipush (v := (-3)) hx hb dX11_move_41 (by decide) ?_
              exact rt_i hx hb hr hlocks hQ hP hD hS () [] dX11_move_43 rfl (Nat.le_of_ble_eq_true rfl) (Nat.le_of_ble_eq_true rfl) rfl (by decide) (lf_c_move_0 z w h_11 c_13)
            · skip
              refine lv_iload hx hb dX11_move_35 (lv_at hl 4 rfl) ?_
              refine lv_iconst (v := 2) hx hb dX11_move_37 (by decide) ?_
              refine lv_icmp_le (tgt := 44) hx hb dX11_move_38 (by decide) (fun c_14 => ?_) (fun c_14 => ?_)
              · skip
                refine lv_aload_n hx hb dX11_move_44 rfl (lv_at hl 0 rfl) ?_
                refine va_get (C := RX11) (T := TX11) (N := 11) (v := .ref ra) hx hb hts hi_X11_move_X11 hown hK hP 0 rfl rfl 0 (by decide) (hts (.fieldLink RX11 11 "BothWays" "readers" "[LBothWays$Reader;") (by decide +kernel)) (fun _ h => h) rfl dX11_move_45 ?_
                refine lv_iload_n hx hb dX11_move_48 rfl (lv_at hl 1 rfl) ?_
                refine w_aald (v := .ref r0) hx hb hK hP 1 3 rfl rfl dX11_move_49 (inC (by decide)) rfl ?_
                refine lv_iload_n hx hb dX11_move_50 rfl (lv_at hl 2 rfl) ?_
                refine lv_iload_n hx hb dX11_move_51 rfl (lv_at hl 3 rfl) ?_
                refine cj_i 0 0 (wr := [(o, .inr (11, [.ref ra, .ref tx, .ref lt, .int 0, .ref wl, .ref rw, .ref kA, .ref bA, .ref lA, .null, .null])), (ra, .inl (cT 3, 2, .inr (.inr (.inr (.inr (va_up (va_up (fun _ => none) 0 (some r0)) 1 (some r1))))))), (r1, .inr (6, [.int 1, .int 0, .int 0, .int 0, .ref a1])), (a1, .inl (cT 0, 25, .inl (fun _ => (-1))))]) (va_runV (As := [.int 0, .int z]) (rest := []) ⟨hx, hb, hml, hown, hts⟩ (c_R_moveOf l g cT H.size r0 a0 0 0 z) (cwV 2 hts gX11_move_X6_moveOf rfl rfl rfl yd_X6_moveOf ⟨(Nat.le_of_ble_eq_true rfl), (Nat.le_of_ble_eq_true rfl)⟩) (preV (wc := [(r0, .inr (6, [.int 1, .int 0, .int 0, .int 0, .ref a0])), (a0, .inl (cT 0, 25, .inl (fun _ => (-1))))]) rfl hP hD hK hN hZ hS hA [5, 2] rfl (by decide) (ci := 6) (q0 := 5) rfl rfl) rfl rfl hl.1 rfl (lv_room (Nat.le_of_ble_eq_true rfl)) dX11_move_52 ⟨(Nat.le_of_ble_eq_true rfl), (Nat.le_of_ble_eq_true rfl)⟩) hP hD hS hA [5, 2] [0, 1, 3, 4] rfl rfl (by decide) (by decide) (Nat.le_of_ble_eq_true rfl) (Nat.le_of_ble_eq_true rfl) (fun r_15 u H locs h_16 hP hD hS => ?_)
                have hP : va_P g vwCl [(o, .inr (11, [.ref ra, .ref tx, .ref lt, .int 0, .ref wl, .ref rw, .ref kA, .ref bA, .ref lA, .null, .null])), (ra, .inl (cT 3, 2, .inr (.inr (.inr (.inr (va_up (va_up (fun _ => none) 0 (some r0)) 1 (some r1))))))), (r1, .inr (6, [.int 1, .int 0, .int 0, .int 0, .ref a1])), (a1, .inl (cT 0, 25, .inl (fun _ => (-1)))), (r0, .inr (6, [.int 1, .int 0, .int 0, .int 0, .ref a0])), (a0, .inl (cT 0, 25, .inl (fun _ => (-1))))] H := hP
                have hD : va_D A [(o, .inr (11, [.ref ra, .ref tx, .ref lt, .int 0, .ref wl, .ref rw, .ref kA, .ref bA, .ref lA, .null, .null])), (ra, .inl (cT 3, 2, .inr (.inr (.inr (.inr (va_up (va_up (fun _ => none) 0 (some r0)) 1 (some r1))))))), (r1, .inr (6, [.int 1, .int 0, .int 0, .int 0, .ref a1])), (a1, .inl (cT 0, 25, .inl (fun _ => (-1)))), (r0, .inr (6, [.int 1, .int 0, .int 0, .int 0, .ref a0])), (a0, .inl (cT 0, 25, .inl (fun _ => (-1))))] := hD
                subst h_16
                refine lv_istore (lv' := [(5, .int (-1)), (0, .ref o), (1, .int 0), (2, .int 0), (3, .int z), (4, .int w)]) hx hb dX11_move_55 hl (by decide) rfl (fun ls hl => ?_)
                refine lv_iload hx hb dX11_move_57 (lv_at hl 0 rfl) ?_
                refine lv_iconst (v := (-1)) hx hb dX11_move_59 (by decide) ?_
                refine icmp_ne_f hx hb dX11_move_60 65 (by decide) (by decide) ?_
                refine lv_iconst (v := (-1)) hx hb dX11_move_63 (by decide) ?_
                exact rt_i hx hb hr hlocks hQ hP hD hS () [] dX11_move_64 rfl (Nat.le_of_ble_eq_true rfl) (Nat.le_of_ble_eq_true rfl) rfl (by decide) (lf_c_move_1 z w h_11 c_13 c_14)
              · skip
                refine lv_bipush (v := (-3)) hx hb dX11_move_41 (by decide) ?_
                exact rt_i hx hb hr hlocks hQ hP hD hS () [] dX11_move_43 rfl (Nat.le_of_ble_eq_true rfl) (Nat.le_of_ble_eq_true rfl) rfl (by decide) (lf_c_move_2 z w h_11 c_13 c_14)
          · skip
            refine if_ne_f hx hb dX11_move_24 30 (by decide) (by decide) ?_
            refine lv_bipush (v := (-2)) hx hb dX11_move_27 (by decide) ?_
            exact rt_i hx hb hr hlocks hQ hP hD hS () [] dX11_move_29 rfl (Nat.le_of_ble_eq_true rfl) (Nat.le_of_ble_eq_true rfl) rfl (by decide) (lf_c_move_3 z w h_12)
        · skip
          refine if_eq_t hx hb 27 dX11_move_17 (by decide) (by decide) ?_
          refine lv_bipush (v := (-2)) hx hb dX11_move_27 (by decide) ?_
          exact rt_i hx hb hr hlocks hQ hP hD hS () [] dX11_move_29 rfl (Nat.le_of_ble_eq_true rfl) (Nat.le_of_ble_eq_true rfl) rfl (by decide) (lf_c_move_4 q z w h_8)
      · skip
        refine if_eq_f hx hb dX11_move_4 27 (by decide) (by decide) ?_
        refine lv_aload_n hx hb dX11_move_7 rfl (lv_at hl 0 rfl) ?_
        refine va_get (C := RX11) (T := TX11) (N := 11) (v := .ref ra) hx hb hts hi_X11_move_X11 hown hK hP 0 rfl rfl 0 (by decide) (hts (.fieldLink RX11 11 "BothWays" "readers" "[LBothWays$Reader;") (by decide +kernel)) (fun _ h => h) rfl dX11_move_8 ?_
        refine lv_iload_n hx hb dX11_move_11 rfl (lv_at hl 1 rfl) ?_
        refine w_aald (v := .ref r1) hx hb hK hP 1 3 rfl rfl dX11_move_12 (inC (by decide)) rfl ?_
        refine lv_iload_n hx hb dX11_move_13 rfl (lv_at hl 2 rfl) ?_
        refine cj_i 0 0 (wr := [(o, .inr (11, [.ref ra, .ref tx, .ref lt, .int 0, .ref wl, .ref rw, .ref kA, .ref bA, .ref lA, .null, .null])), (ra, .inl (cT 3, 2, .inr (.inr (.inr (.inr (va_up (va_up (fun _ => none) 0 (some r0)) 1 (some r1))))))), (r0, .inr (6, [.int 1, .int 0, .int 0, .int 0, .ref a0])), (a0, .inl (cT 0, 25, .inl (fun _ => (-1)))), (a1, .inl (cT 0, 25, .inl (fun _ => (-1))))]) (va_runV (As := [.int q]) (rest := []) ⟨hx, hb, hml, hown, hts⟩ (c_R_hasState l g cT H.size r1 a1 0 q) (cwV 1 hts gX11_move_X6_hasState rfl rfl rfl yd_X6_hasState ⟨(Nat.le_of_ble_eq_true rfl), (Nat.le_of_ble_eq_true rfl)⟩) (preV (wc := [(r1, .inr (6, [.int 1, .int 0, .int 0, .int 0, .ref a1]))]) rfl hP hD hK hN hZ hS hA [4] rfl (by decide) (ci := 6) (q0 := 4) rfl rfl) rfl rfl hl.1 rfl (lv_room (Nat.le_of_ble_eq_true rfl)) dX11_move_14 ⟨(Nat.le_of_ble_eq_true rfl), (Nat.le_of_ble_eq_true rfl)⟩) hP hD hS hA [4] [0, 1, 2, 3, 5] rfl rfl (by decide) (by decide) (Nat.le_of_ble_eq_true rfl) (Nat.le_of_ble_eq_true rfl) (fun r_17 u H locs h_18 hP hD hS => ?_)
        have hP : va_P g vwCl [(o, .inr (11, [.ref ra, .ref tx, .ref lt, .int 0, .ref wl, .ref rw, .ref kA, .ref bA, .ref lA, .null, .null])), (ra, .inl (cT 3, 2, .inr (.inr (.inr (.inr (va_up (va_up (fun _ => none) 0 (some r0)) 1 (some r1))))))), (r0, .inr (6, [.int 1, .int 0, .int 0, .int 0, .ref a0])), (a0, .inl (cT 0, 25, .inl (fun _ => (-1)))), (a1, .inl (cT 0, 25, .inl (fun _ => (-1)))), (r1, .inr (6, [.int 1, .int 0, .int 0, .int 0, .ref a1]))] H := hP
        have hD : va_D A [(o, .inr (11, [.ref ra, .ref tx, .ref lt, .int 0, .ref wl, .ref rw, .ref kA, .ref bA, .ref lA, .null, .null])), (ra, .inl (cT 3, 2, .inr (.inr (.inr (.inr (va_up (va_up (fun _ => none) 0 (some r0)) 1 (some r1))))))), (r0, .inr (6, [.int 1, .int 0, .int 0, .int 0, .ref a0])), (a0, .inl (cT 0, 25, .inl (fun _ => (-1)))), (a1, .inl (cT 0, 25, .inl (fun _ => (-1)))), (r1, .inr (6, [.int 1, .int 0, .int 0, .int 0, .ref a1]))] := hD
        rcases h_18 with ⟨rfl, h_19⟩ | ⟨rfl, h_20⟩
        · skip
          obtain rfl := h_19
          refine if_eq_f hx hb dX11_move_17 27 (by decide) (by decide) ?_
          refine lv_iload_n hx hb dX11_move_20 rfl (lv_at hl 3 rfl) ?_
          refine cp_i (va_runS (As := [.int z]) (rest := []) ⟨hx, hb, hml, hown, hts⟩ (c_isSign l g cT H.size z) (va_cwS 1 hts gX11_move_X11_isSign rfl rfl rfl yd_X11_isSign.2 ⟨(Nat.le_of_ble_eq_true rfl), (Nat.le_of_ble_eq_true rfl)⟩) (preS (ws := []) (wc := []) rfl (fun _ _ h => by simp at h) (va_D_nil (A := A)) hK hN hZ hS hA [] rfl rfl) rfl rfl hl.1 rfl (lv_room (Nat.le_of_ble_eq_true rfl)) dX11_move_21 ⟨(Nat.le_of_ble_eq_true rfl), (Nat.le_of_ble_eq_true rfl)⟩) hP hS hA (fun r_21 u H locs h_22 hP hS => ?_)
          rcases h_22 with ⟨rfl, h_23⟩ | ⟨rfl, h_24⟩
          · skip
            refine if_ne_t hx hb 30 dX11_move_24 (by decide) (by decide) ?_
            refine lv_iload hx hb dX11_move_30 (lv_at hl 4 rfl) ?_
            refine lv_if_lt (tgt := 41) hx hb dX11_move_32 (by decide) (fun c_25 => ?_) (fun c_25 => ?_)
            · skip
              refine lv_bipush (v := (-3)) hx hb dX11_move_41 (by decide) ?_
              exact rt_i hx hb hr hlocks hQ hP hD hS () [] dX11_move_43 rfl (Nat.le_of_ble_eq_true rfl) (Nat.le_of_ble_eq_true rfl) rfl (by decide) (lf_c_move_5 z w h_23 c_25)
            · skip
              refine lv_iload hx hb dX11_move_35 (lv_at hl 4 rfl) ?_
              refine lv_iconst (v := 2) hx hb dX11_move_37 (by decide) ?_
              refine lv_icmp_le (tgt := 44) hx hb dX11_move_38 (by decide) (fun c_26 => ?_) (fun c_26 => ?_)
              · skip
                refine lv_aload_n hx hb dX11_move_44 rfl (lv_at hl 0 rfl) ?_
                refine va_get (C := RX11) (T := TX11) (N := 11) (v := .ref ra) hx hb hts hi_X11_move_X11 hown hK hP 0 rfl rfl 0 (by decide) (hts (.fieldLink RX11 11 "BothWays" "readers" "[LBothWays$Reader;") (by decide +kernel)) (fun _ h => h) rfl dX11_move_45 ?_
                refine lv_iload_n hx hb dX11_move_48 rfl (lv_at hl 1 rfl) ?_
                refine w_aald (v := .ref r1) hx hb hK hP 1 3 rfl rfl dX11_move_49 (inC (by decide)) rfl ?_
                refine lv_iload_n hx hb dX11_move_50 rfl (lv_at hl 2 rfl) ?_
                refine lv_iload_n hx hb dX11_move_51 rfl (lv_at hl 3 rfl) ?_
                refine cj_i 0 0 (wr := [(o, .inr (11, [.ref ra, .ref tx, .ref lt, .int 0, .ref wl, .ref rw, .ref kA, .ref bA, .ref lA, .null, .null])), (ra, .inl (cT 3, 2, .inr (.inr (.inr (.inr (va_up (va_up (fun _ => none) 0 (some r0)) 1 (some r1))))))), (r0, .inr (6, [.int 1, .int 0, .int 0, .int 0, .ref a0])), (a0, .inl (cT 0, 25, .inl (fun _ => (-1))))]) (va_runV (As := [.int 0, .int z]) (rest := []) ⟨hx, hb, hml, hown, hts⟩ (c_R_moveOf l g cT H.size r1 a1 0 0 z) (cwV 2 hts gX11_move_X6_moveOf rfl rfl rfl yd_X6_moveOf ⟨(Nat.le_of_ble_eq_true rfl), (Nat.le_of_ble_eq_true rfl)⟩) (preV (wc := [(r1, .inr (6, [.int 1, .int 0, .int 0, .int 0, .ref a1])), (a1, .inl (cT 0, 25, .inl (fun _ => (-1))))]) rfl hP hD hK hN hZ hS hA [5, 4] rfl (by decide) (ci := 6) (q0 := 5) rfl rfl) rfl rfl hl.1 rfl (lv_room (Nat.le_of_ble_eq_true rfl)) dX11_move_52 ⟨(Nat.le_of_ble_eq_true rfl), (Nat.le_of_ble_eq_true rfl)⟩) hP hD hS hA [5, 4] [0, 1, 2, 3] rfl rfl (by decide) (by decide) (Nat.le_of_ble_eq_true rfl) (Nat.le_of_ble_eq_true rfl) (fun r_27 u H locs h_28 hP hD hS => ?_)
                have hP : va_P g vwCl [(o, .inr (11, [.ref ra, .ref tx, .ref lt, .int 0, .ref wl, .ref rw, .ref kA, .ref bA, .ref lA, .null, .null])), (ra, .inl (cT 3, 2, .inr (.inr (.inr (.inr (va_up (va_up (fun _ => none) 0 (some r0)) 1 (some r1))))))), (r0, .inr (6, [.int 1, .int 0, .int 0, .int 0, .ref a0])), (a0, .inl (cT 0, 25, .inl (fun _ => (-1)))), (r1, .inr (6, [.int 1, .int 0, .int 0, .int 0, .ref a1])), (a1, .inl (cT 0, 25, .inl (fun _ => (-1))))] H := hP
                have hD : va_D A [(o, .inr (11, [.ref ra, .ref tx, .ref lt, .int 0, .ref wl, .ref rw, .ref kA, .ref bA, .ref lA, .null, .null])), (ra, .inl (cT 3, 2, .inr (.inr (.inr (.inr (va_up (va_up (fun _ => none) 0 (some r0)) 1 (some r1))))))), (r0, .inr (6, [.int 1, .int 0, .int 0, .int 0, .ref a0])), (a0, .inl (cT 0, 25, .inl (fun _ => (-1)))), (r1, .inr (6, [.int 1, .int 0, .int 0, .int 0, .ref a1])), (a1, .inl (cT 0, 25, .inl (fun _ => (-1))))] := hD
                subst h_28
                refine lv_istore (lv' := [(5, .int (-1)), (0, .ref o), (1, .int 1), (2, .int 0), (3, .int z), (4, .int w)]) hx hb dX11_move_55 hl (by decide) rfl (fun ls hl => ?_)
                refine lv_iload hx hb dX11_move_57 (lv_at hl 0 rfl) ?_
                refine lv_iconst (v := (-1)) hx hb dX11_move_59 (by decide) ?_
                refine icmp_ne_f hx hb dX11_move_60 65 (by decide) (by decide) ?_
                refine lv_iconst (v := (-1)) hx hb dX11_move_63 (by decide) ?_
                exact rt_i hx hb hr hlocks hQ hP hD hS () [] dX11_move_64 rfl (Nat.le_of_ble_eq_true rfl) (Nat.le_of_ble_eq_true rfl) rfl (by decide) (lf_c_move_6 z w h_23 c_25 c_26)
              · skip
                refine lv_bipush (v := (-3)) hx hb dX11_move_41 (by decide) ?_
                exact rt_i hx hb hr hlocks hQ hP hD hS () [] dX11_move_43 rfl (Nat.le_of_ble_eq_true rfl) (Nat.le_of_ble_eq_true rfl) rfl (by decide) (lf_c_move_7 z w h_23 c_25 c_26)
          · skip
            refine if_ne_f hx hb dX11_move_24 30 (by decide) (by decide) ?_
            refine lv_bipush (v := (-2)) hx hb dX11_move_27 (by decide) ?_
            exact rt_i hx hb hr hlocks hQ hP hD hS () [] dX11_move_29 rfl (Nat.le_of_ble_eq_true rfl) (Nat.le_of_ble_eq_true rfl) rfl (by decide) (lf_c_move_8 z w h_24)
        · skip
          refine if_eq_t hx hb 27 dX11_move_17 (by decide) (by decide) ?_
          refine lv_bipush (v := (-2)) hx hb dX11_move_27 (by decide) ?_
          exact rt_i hx hb hr hlocks hQ hP hD hS () [] dX11_move_29 rfl (Nat.le_of_ble_eq_true rfl) (Nat.le_of_ble_eq_true rfl) rfl (by decide) (lf_c_move_9 q z w h_20)
    · skip
      refine if_eq_t hx hb 27 dX11_move_4 (by decide) (by decide) ?_
      refine lv_bipush (v := (-2)) hx hb dX11_move_27 (by decide) ?_
      exact rt_i hx hb hr hlocks hQ hP hD hS () [] dX11_move_29 rfl (Nat.le_of_ble_eq_true rfl) (Nat.le_of_ble_eq_true rfl) rfl (by decide) (lf_c_move_10 x q z w h_4)
  rw [hH, hlo] at hgo
  exact hgo
theorem hi_X11_drop_X11 : ∀ w ∈ wsX110, w ∈ wsX11_drop := fun _ h => List.mem_cons_of_mem _ (List.mem_append_left _ (List.mem_append_right _ h))
abbrev rm_c_drop : Room := { frames := 1, cells := 0, slots := 0, locals := 23 }
set_option maxHeartbeats 4000000 in
set_option maxRecDepth 100000 in
theorem c_drop (l : Launch) (g : va_G) (cT : Nat → ClassId) (sz : Nat) (o : Nat) (ra : Nat) (tx : Nat) (lt : Nat) (wl : Nat) (rw : Nat) (kA : Nat) (bA : Nat) (lA : Nat) (r0 : Nat) (r1 : Nat) (a0 : Nat) (a1 : Nat) (x : Int32) (q : Int32) (z : Int32)  : Ctr l g cT sz yX11_drop wsX11_drop rm_c_drop [.ref o, .int x, .int q, .int z] [(o, .inr (11, [.ref ra, .ref tx, .ref lt, .int 0, .ref wl, .ref rw, .ref kA, .ref bA, .ref lA, .null, .null])), (ra, .inl (cT 3, 2, .inr (.inr (.inr (.inr (va_up (va_up (fun _ => none) 0 (some r0)) 1 (some r1))))))), (r0, .inr (6, [.int 1, .int 0, .int 0, .int 0, .ref a0])), (a0, .inl (cT 0, 25, .inl (fun _ => (-1)))), (r1, .inr (6, [.int 1, .int 0, .int 0, .int 0, .ref a1])), (a1, .inl (cT 0, 25, .inl (fun _ => (-1))))] (QI g (fun (r : Int32) (u : Unit) => r = (-2 : Int32)) (fun (u : Unit) => [])) 0 0 := by
  refine mk_ctr (cc := cX11_drop) (maxL := 4) (ret := (some .int)) (by decide) rfl (Nat.le_of_ble_eq_true rfl) ?_
  intro p e s m args below meth c A Q hx hb hr hts hown hlocks hin hml hP hK hD hN hZ hA hS hQ ls hl
  have hl : lv_has ls 4 [(0, .ref o), (1, .int x), (2, .int q), (3, .int z)] := hl
  obtain ⟨H, hH⟩ : ∃ H : Heap, H = s.heap := ⟨_, rfl⟩
  obtain ⟨locs, hlo⟩ : ∃ x : List Loc, x = [] := ⟨_, rfl⟩
  rw [← hH] at hP
  have hS : va_S A s.heap H locs := by rw [hH, hlo]; exact hS
  have hgo : W p l e rm_c_drop s m args below meth c H locs 0 0 Q (F0 m 0 ls []) := by
    clear hH hlo
    refine lv_iload_n hx hb dX11_drop_0 rfl (lv_at hl 1 rfl) ?_
    refine cp_i (va_runS (As := [.int x]) (rest := []) ⟨hx, hb, hml, hown, hts⟩ (c_isReader l g cT H.size x) (va_cwS 1 hts gX11_drop_X11_isReader rfl rfl rfl yd_X11_isReader.2 ⟨(Nat.le_of_ble_eq_true rfl), (Nat.le_of_ble_eq_true rfl)⟩) (preS (ws := []) (wc := []) rfl (fun _ _ h => by simp at h) (va_D_nil (A := A)) hK hN hZ hS hA [] rfl rfl) rfl rfl hl.1 rfl (lv_room (Nat.le_of_ble_eq_true rfl)) dX11_drop_1 ⟨(Nat.le_of_ble_eq_true rfl), (Nat.le_of_ble_eq_true rfl)⟩) hP hS hA (fun r_1 u H locs h_2 hP hS => ?_)
    rcases h_2 with ⟨rfl, h_3⟩ | ⟨rfl, h_4⟩
    · skip
      rcases h_3 with rfl | rfl
      · skip
        refine if_eq_f hx hb dX11_drop_4 22 (by decide) (by decide) ?_
        refine lv_aload_n hx hb dX11_drop_7 rfl (lv_at hl 0 rfl) ?_
        refine va_get (C := RX11) (T := TX11) (N := 11) (v := .ref ra) hx hb hts hi_X11_drop_X11 hown hK hP 0 rfl rfl 0 (by decide) (hts (.fieldLink RX11 11 "BothWays" "readers" "[LBothWays$Reader;") (by decide +kernel)) (fun _ h => h) rfl dX11_drop_8 ?_
        refine lv_iload_n hx hb dX11_drop_11 rfl (lv_at hl 1 rfl) ?_
        refine w_aald (v := .ref r0) hx hb hK hP 1 3 rfl rfl dX11_drop_12 (inC (by decide)) rfl ?_
        refine lv_iload_n hx hb dX11_drop_13 rfl (lv_at hl 2 rfl) ?_
        refine lv_iload_n hx hb dX11_drop_14 rfl (lv_at hl 3 rfl) ?_
        refine cj_i 0 0 (wr := [(o, .inr (11, [.ref ra, .ref tx, .ref lt, .int 0, .ref wl, .ref rw, .ref kA, .ref bA, .ref lA, .null, .null])), (ra, .inl (cT 3, 2, .inr (.inr (.inr (.inr (va_up (va_up (fun _ => none) 0 (some r0)) 1 (some r1))))))), (r1, .inr (6, [.int 1, .int 0, .int 0, .int 0, .ref a1])), (a1, .inl (cT 0, 25, .inl (fun _ => (-1))))]) (va_runV (As := [.int q, .int z]) (rest := []) ⟨hx, hb, hml, hown, hts⟩ (c_R_moveOf l g cT H.size r0 a0 0 q z) (cwV 2 hts gX11_drop_X6_moveOf rfl rfl rfl yd_X6_moveOf ⟨(Nat.le_of_ble_eq_true rfl), (Nat.le_of_ble_eq_true rfl)⟩) (preV (wc := [(r0, .inr (6, [.int 1, .int 0, .int 0, .int 0, .ref a0])), (a0, .inl (cT 0, 25, .inl (fun _ => (-1))))]) rfl hP hD hK hN hZ hS hA [2, 3] rfl (by decide) (ci := 6) (q0 := 2) rfl rfl) rfl rfl hl.1 rfl (lv_room (Nat.le_of_ble_eq_true rfl)) dX11_drop_15 ⟨(Nat.le_of_ble_eq_true rfl), (Nat.le_of_ble_eq_true rfl)⟩) hP hD hS hA [2, 3] [0, 1, 4, 5] rfl rfl (by decide) (by decide) (Nat.le_of_ble_eq_true rfl) (Nat.le_of_ble_eq_true rfl) (fun r_5 u H locs h_6 hP hD hS => ?_)
        have hP : va_P g vwCl [(o, .inr (11, [.ref ra, .ref tx, .ref lt, .int 0, .ref wl, .ref rw, .ref kA, .ref bA, .ref lA, .null, .null])), (ra, .inl (cT 3, 2, .inr (.inr (.inr (.inr (va_up (va_up (fun _ => none) 0 (some r0)) 1 (some r1))))))), (r1, .inr (6, [.int 1, .int 0, .int 0, .int 0, .ref a1])), (a1, .inl (cT 0, 25, .inl (fun _ => (-1)))), (r0, .inr (6, [.int 1, .int 0, .int 0, .int 0, .ref a0])), (a0, .inl (cT 0, 25, .inl (fun _ => (-1))))] H := hP
        have hD : va_D A [(o, .inr (11, [.ref ra, .ref tx, .ref lt, .int 0, .ref wl, .ref rw, .ref kA, .ref bA, .ref lA, .null, .null])), (ra, .inl (cT 3, 2, .inr (.inr (.inr (.inr (va_up (va_up (fun _ => none) 0 (some r0)) 1 (some r1))))))), (r1, .inr (6, [.int 1, .int 0, .int 0, .int 0, .ref a1])), (a1, .inl (cT 0, 25, .inl (fun _ => (-1)))), (r0, .inr (6, [.int 1, .int 0, .int 0, .int 0, .ref a0])), (a0, .inl (cT 0, 25, .inl (fun _ => (-1))))] := hD
        subst h_6
        refine lv_iconst (v := (-1)) hx hb dX11_drop_18 (by decide) ?_
        refine icmp_ne_f hx hb dX11_drop_19 25 (by decide) (by decide) ?_
        refine lv_bipush (v := (-2)) hx hb dX11_drop_22 (by decide) ?_
        exact rt_i hx hb hr hlocks hQ hP hD hS () [] dX11_drop_24 rfl (Nat.le_of_ble_eq_true rfl) (Nat.le_of_ble_eq_true rfl) rfl (by decide) rfl
      · skip
        refine if_eq_f hx hb dX11_drop_4 22 (by decide) (by decide) ?_
        refine lv_aload_n hx hb dX11_drop_7 rfl (lv_at hl 0 rfl) ?_
        refine va_get (C := RX11) (T := TX11) (N := 11) (v := .ref ra) hx hb hts hi_X11_drop_X11 hown hK hP 0 rfl rfl 0 (by decide) (hts (.fieldLink RX11 11 "BothWays" "readers" "[LBothWays$Reader;") (by decide +kernel)) (fun _ h => h) rfl dX11_drop_8 ?_
        refine lv_iload_n hx hb dX11_drop_11 rfl (lv_at hl 1 rfl) ?_
        refine w_aald (v := .ref r1) hx hb hK hP 1 3 rfl rfl dX11_drop_12 (inC (by decide)) rfl ?_
        refine lv_iload_n hx hb dX11_drop_13 rfl (lv_at hl 2 rfl) ?_
        refine lv_iload_n hx hb dX11_drop_14 rfl (lv_at hl 3 rfl) ?_
        refine cj_i 0 0 (wr := [(o, .inr (11, [.ref ra, .ref tx, .ref lt, .int 0, .ref wl, .ref rw, .ref kA, .ref bA, .ref lA, .null, .null])), (ra, .inl (cT 3, 2, .inr (.inr (.inr (.inr (va_up (va_up (fun _ => none) 0 (some r0)) 1 (some r1))))))), (r0, .inr (6, [.int 1, .int 0, .int 0, .int 0, .ref a0])), (a0, .inl (cT 0, 25, .inl (fun _ => (-1))))]) (va_runV (As := [.int q, .int z]) (rest := []) ⟨hx, hb, hml, hown, hts⟩ (c_R_moveOf l g cT H.size r1 a1 0 q z) (cwV 2 hts gX11_drop_X6_moveOf rfl rfl rfl yd_X6_moveOf ⟨(Nat.le_of_ble_eq_true rfl), (Nat.le_of_ble_eq_true rfl)⟩) (preV (wc := [(r1, .inr (6, [.int 1, .int 0, .int 0, .int 0, .ref a1])), (a1, .inl (cT 0, 25, .inl (fun _ => (-1))))]) rfl hP hD hK hN hZ hS hA [4, 5] rfl (by decide) (ci := 6) (q0 := 4) rfl rfl) rfl rfl hl.1 rfl (lv_room (Nat.le_of_ble_eq_true rfl)) dX11_drop_15 ⟨(Nat.le_of_ble_eq_true rfl), (Nat.le_of_ble_eq_true rfl)⟩) hP hD hS hA [4, 5] [0, 1, 2, 3] rfl rfl (by decide) (by decide) (Nat.le_of_ble_eq_true rfl) (Nat.le_of_ble_eq_true rfl) (fun r_7 u H locs h_8 hP hD hS => ?_)
        have hP : va_P g vwCl [(o, .inr (11, [.ref ra, .ref tx, .ref lt, .int 0, .ref wl, .ref rw, .ref kA, .ref bA, .ref lA, .null, .null])), (ra, .inl (cT 3, 2, .inr (.inr (.inr (.inr (va_up (va_up (fun _ => none) 0 (some r0)) 1 (some r1))))))), (r0, .inr (6, [.int 1, .int 0, .int 0, .int 0, .ref a0])), (a0, .inl (cT 0, 25, .inl (fun _ => (-1)))), (r1, .inr (6, [.int 1, .int 0, .int 0, .int 0, .ref a1])), (a1, .inl (cT 0, 25, .inl (fun _ => (-1))))] H := hP
        have hD : va_D A [(o, .inr (11, [.ref ra, .ref tx, .ref lt, .int 0, .ref wl, .ref rw, .ref kA, .ref bA, .ref lA, .null, .null])), (ra, .inl (cT 3, 2, .inr (.inr (.inr (.inr (va_up (va_up (fun _ => none) 0 (some r0)) 1 (some r1))))))), (r0, .inr (6, [.int 1, .int 0, .int 0, .int 0, .ref a0])), (a0, .inl (cT 0, 25, .inl (fun _ => (-1)))), (r1, .inr (6, [.int 1, .int 0, .int 0, .int 0, .ref a1])), (a1, .inl (cT 0, 25, .inl (fun _ => (-1))))] := hD
        subst h_8
        refine lv_iconst (v := (-1)) hx hb dX11_drop_18 (by decide) ?_
        refine icmp_ne_f hx hb dX11_drop_19 25 (by decide) (by decide) ?_
        refine lv_bipush (v := (-2)) hx hb dX11_drop_22 (by decide) ?_
        exact rt_i hx hb hr hlocks hQ hP hD hS () [] dX11_drop_24 rfl (Nat.le_of_ble_eq_true rfl) (Nat.le_of_ble_eq_true rfl) rfl (by decide) rfl
    · skip
      refine if_eq_t hx hb 22 dX11_drop_4 (by decide) (by decide) ?_
      refine lv_bipush (v := (-2)) hx hb dX11_drop_22 (by decide) ?_
      exact rt_i hx hb hr hlocks hQ hP hD hS () [] dX11_drop_24 rfl (Nat.le_of_ble_eq_true rfl) (Nat.le_of_ble_eq_true rfl) rfl (by decide) rfl
  rw [hH, hlo] at hgo
  exact hgo
theorem hi_X11_letter_X11 : ∀ w ∈ wsX110, w ∈ wsX11_letter := fun _ h => List.mem_cons_of_mem _ (List.mem_append_right _ h)
abbrev rm_c_letter : Room := { frames := 1, cells := 0, slots := 0, locals := 20 }
theorem lf_c_letter_0 (z : Int32) (h_3 : 0 ≤ z ∧ z ≤ 2) : (1 : Int32) = sp_letter z := by (unfold sp_letter; rw [if_pos] <;> (simp only [true_or, or_true, false_or, or_false, true_and, and_true, false_and, and_false, not_true_eq_false, not_false_eq_true, i_lt, i_le, i_eq, j_lt, j_le, j_eq, Int32.toInt_toInt64, li_0, lj_0, li_1, lj_1, li_2, lj_2, li_3, lj_3, li_4, lj_4, li_5, lj_5, li_6, lj_6, li_7, lj_7, li_8, lj_8, li_10, lj_10, li_11, lj_11, li_12, lj_12, li_24, lj_24, li_25, lj_25, li_50, lj_50, li_130, lj_130, li_160, lj_160, li_800, lj_800, li_4000, lj_4000, li_10000, lj_10000, li_16384, lj_16384, li_26, lj_26, li_32, lj_32, li_48, lj_48, li_57, lj_57, li_59, lj_59, li_97, lj_97, li_99, lj_99, li_122, lj_122, li_m1, lj_m1, li_m2, lj_m2, li_m3, lj_m3, li_m4, lj_m4, li_m5, lj_m5, li_m6, lj_m6] at * <;> omega))
theorem lf_c_letter_1 (z : Int32) (h_4 : ¬ (0 ≤ z ∧ z ≤ 2)) : ((-2) : Int32) = sp_letter z := by (unfold sp_letter; rw [if_neg] <;> (simp only [true_or, or_true, false_or, or_false, true_and, and_true, false_and, and_false, not_true_eq_false, not_false_eq_true, i_lt, i_le, i_eq, j_lt, j_le, j_eq, Int32.toInt_toInt64, li_0, lj_0, li_1, lj_1, li_2, lj_2, li_3, lj_3, li_4, lj_4, li_5, lj_5, li_6, lj_6, li_7, lj_7, li_8, lj_8, li_10, lj_10, li_11, lj_11, li_12, lj_12, li_24, lj_24, li_25, lj_25, li_50, lj_50, li_130, lj_130, li_160, lj_160, li_800, lj_800, li_4000, lj_4000, li_10000, lj_10000, li_16384, lj_16384, li_26, lj_26, li_32, lj_32, li_48, lj_48, li_57, lj_57, li_59, lj_59, li_97, lj_97, li_99, lj_99, li_122, lj_122, li_m1, lj_m1, li_m2, lj_m2, li_m3, lj_m3, li_m4, lj_m4, li_m5, lj_m5, li_m6, lj_m6] at * <;> omega))
set_option maxHeartbeats 4000000 in
set_option maxRecDepth 100000 in
theorem c_letter (l : Launch) (g : va_G) (cT : Nat → ClassId) (sz : Nat) (o : Nat) (ra : Nat) (tx : Nat) (lt : Nat) (wl : Nat) (rw : Nat) (kA : Nat) (bA : Nat) (lA : Nat) (z : Int32)  : Ctr l g cT sz yX11_letter wsX11_letter rm_c_letter [.ref o, .int z] [(o, .inr (11, [.ref ra, .ref tx, .ref lt, .int 0, .ref wl, .ref rw, .ref kA, .ref bA, .ref lA, .null, .null])), (lt, .inl (cT 0, 24, .inl (fun _ => 0)))] (QI g (fun (r : Int32) (u : Unit) => r = sp_letter z) (fun (u : Unit) => [])) 0 0 := by
  refine mk_ctr (cc := cX11_letter) (maxL := 2) (ret := (some .int)) (by decide) rfl (Nat.le_of_ble_eq_true rfl) ?_
  intro p e s m args below meth c A Q hx hb hr hts hown hlocks hin hml hP hK hD hN hZ hA hS hQ ls hl
  have hl : lv_has ls 2 [(0, .ref o), (1, .int z)] := hl
  obtain ⟨H, hH⟩ : ∃ H : Heap, H = s.heap := ⟨_, rfl⟩
  obtain ⟨locs, hlo⟩ : ∃ x : List Loc, x = [] := ⟨_, rfl⟩
  rw [← hH] at hP
  have hS : va_S A s.heap H locs := by rw [hH, hlo]; exact hS
  have hgo : W p l e rm_c_letter s m args below meth c H locs 0 0 Q (F0 m 0 ls []) := by
    clear hH hlo
    refine lv_iload_n hx hb dX11_letter_0 rfl (lv_at hl 1 rfl) ?_
    refine cp_i (va_runS (As := [.int z]) (rest := []) ⟨hx, hb, hml, hown, hts⟩ (c_isLetter l g cT H.size z) (va_cwS 1 hts gX11_letter_X11_isLetter rfl rfl rfl yd_X11_isLetter.2 ⟨(Nat.le_of_ble_eq_true rfl), (Nat.le_of_ble_eq_true rfl)⟩) (preS (ws := []) (wc := []) rfl (fun _ _ h => by simp at h) (va_D_nil (A := A)) hK hN hZ hS hA [] rfl rfl) rfl rfl hl.1 rfl (lv_room (Nat.le_of_ble_eq_true rfl)) dX11_letter_1 ⟨(Nat.le_of_ble_eq_true rfl), (Nat.le_of_ble_eq_true rfl)⟩) hP hS hA (fun r_1 u H locs h_2 hP hS => ?_)
    rcases h_2 with ⟨rfl, h_3⟩ | ⟨rfl, h_4⟩
    · skip
      refine if_ne_t hx hb 10 dX11_letter_4 (by decide) (by decide) ?_
      refine lv_aload_n hx hb dX11_letter_10 rfl (lv_at hl 0 rfl) ?_
      refine va_get (C := RX11) (T := TX11) (N := 11) (v := .int 0) hx hb hts hi_X11_letter_X11 hown hK hP 0 rfl rfl 3 (by decide) (hts (.fieldLink RX11 26 "BothWays" "length" "I") (by decide +kernel)) (fun _ h => h) rfl dX11_letter_11 ?_
      refine lv_bipush (v := 24) hx hb dX11_letter_14 (by decide) ?_
      refine icmp_lt_t hx hb 22 dX11_letter_16 (by decide) (by decide) ?_
      refine lv_aload_n hx hb dX11_letter_22 rfl (lv_at hl 0 rfl) ?_
      refine va_get (C := RX11) (T := TX11) (N := 11) (v := .ref lt) hx hb hts hi_X11_letter_X11 hown hK hP 0 rfl rfl 2 (by decide) (hts (.fieldLink RX11 22 "BothWays" "letters" "[I") (by decide +kernel)) (fun _ h => h) rfl dX11_letter_23 ?_
      refine lv_aload_n hx hb dX11_letter_26 rfl (lv_at hl 0 rfl) ?_
      refine va_get (C := RX11) (T := TX11) (N := 11) (v := .int 0) hx hb hts hi_X11_letter_X11 hown hK hP 0 rfl rfl 3 (by decide) (hts (.fieldLink RX11 26 "BothWays" "length" "I") (by decide +kernel)) (fun _ h => h) rfl dX11_letter_27 ?_
      refine lv_iload_n hx hb dX11_letter_30 rfl (lv_at hl 1 rfl) ?_
      refine w_iast (f' := (upd (fun _ => 0) 0 z)) hx hb hK hP hD hS 1 rfl dX11_letter_31 (inC (by decide)) rfl (fun H locs hP hD hS => ?_)
      have hP : va_P g vwCl [(o, .inr (11, [.ref ra, .ref tx, .ref lt, .int 0, .ref wl, .ref rw, .ref kA, .ref bA, .ref lA, .null, .null])), (lt, .inl (cT 0, 24, .inl (upd (fun _ => 0) 0 z)))] H := hP
      have hD : va_D A [(o, .inr (11, [.ref ra, .ref tx, .ref lt, .int 0, .ref wl, .ref rw, .ref kA, .ref bA, .ref lA, .null, .null])), (lt, .inl (cT 0, 24, .inl (upd (fun _ => 0) 0 z)))] := hD
      refine lv_aload_n hx hb dX11_letter_32 rfl (lv_at hl 0 rfl) ?_
      refine lv_dup hx hb dX11_letter_33 rfl ?_
      refine va_get (C := RX11) (T := TX11) (N := 11) (v := .int 0) hx hb hts hi_X11_letter_X11 hown hK hP 0 rfl rfl 3 (by decide) (hts (.fieldLink RX11 26 "BothWays" "length" "I") (by decide +kernel)) (fun _ h => h) rfl dX11_letter_34 ?_
      refine lv_iconst (v := 1) hx hb dX11_letter_37 (by decide) ?_
      refine w_iadd (v := 1) hx hb dX11_letter_38 (by decide) ?_
      refine va_put (C := RX11) (T := TX11) (N := 11) (v := .int 1) (ty := .int) hx hb hts hi_X11_letter_X11 tyX11 tyX11_ok nmX11 hown hK hP hD hS 0 rfl rfl 3 (by decide) (hts (.fieldLink RX11 26 "BothWays" "length" "I") (by decide +kernel)) (fun _ h => h) rfl (by decide +kernel) rfl rfl (Nat.le_of_ble_eq_true rfl) dX11_letter_39 (fun H locs hP hD hS => ?_)
      have hP : va_P g vwCl [(o, .inr (11, [.ref ra, .ref tx, .ref lt, .int 1, .ref wl, .ref rw, .ref kA, .ref bA, .ref lA, .null, .null])), (lt, .inl (cT 0, 24, .inl (upd (fun _ => 0) 0 z)))] H := hP
      have hD : va_D A [(o, .inr (11, [.ref ra, .ref tx, .ref lt, .int 1, .ref wl, .ref rw, .ref kA, .ref bA, .ref lA, .null, .null])), (lt, .inl (cT 0, 24, .inl (upd (fun _ => 0) 0 z)))] := hD
      refine lv_aload_n hx hb dX11_letter_42 rfl (lv_at hl 0 rfl) ?_
      refine va_get (C := RX11) (T := TX11) (N := 11) (v := .int 1) hx hb hts hi_X11_letter_X11 hown hK hP 0 rfl rfl 3 (by decide) (hts (.fieldLink RX11 26 "BothWays" "length" "I") (by decide +kernel)) (fun _ h => h) rfl dX11_letter_43 ?_
      exact rt_i hx hb hr hlocks hQ hP hD hS () [] dX11_letter_46 rfl (Nat.le_of_ble_eq_true rfl) (Nat.le_of_ble_eq_true rfl) rfl (by decide) (lf_c_letter_0 z h_3)
    · skip
      refine if_ne_f hx hb dX11_letter_4 10 (by decide) (by decide) ?_
      refine lv_bipush (v := (-2)) hx hb dX11_letter_7 (by decide) ?_
      exact rt_i hx hb hr hlocks hQ hP hD hS () [] dX11_letter_9 rfl (Nat.le_of_ble_eq_true rfl) (Nat.le_of_ble_eq_true rfl) rfl (by decide) (lf_c_letter_1 z h_4)
  rw [hH, hlo] at hgo
  exact hgo
theorem hi_X11_row_X11 : ∀ w ∈ wsX110, w ∈ wsX11_row := fun _ h => List.mem_cons_of_mem _ (List.mem_append_right _ h)
theorem yd_X11_letterIn : yX11_letterIn.cls = RX11 ∧ yX11_letterIn.cls ≠ "java/lang/invoke/MethodHandle" ∧ yX11_letterIn.cls ≠ "java/lang/invoke/VarHandle" ∧ (parseMethodDescriptor yX11_letterIn.desc).map (fun d => d.parameters.length) = some 2 := by decide +kernel
abbrev rm_c_row : Room := { frames := 1, cells := 0, slots := 0, locals := 22 }
theorem lf_c_row_0 (b : Int64) (n : Int32) (c_1 : n < 0) : (-3 : Int32) = sp_row b n := by (unfold sp_row; rw [if_pos (show n < 0 ∨ 24 < n from by (simp only [true_or, or_true, false_or, or_false, true_and, and_true, false_and, and_false, not_true_eq_false, not_false_eq_true, i_lt, i_le, i_eq, j_lt, j_le, j_eq, Int32.toInt_toInt64, li_0, lj_0, li_1, lj_1, li_2, lj_2, li_3, lj_3, li_4, lj_4, li_5, lj_5, li_6, lj_6, li_7, lj_7, li_8, lj_8, li_10, lj_10, li_11, lj_11, li_12, lj_12, li_24, lj_24, li_25, lj_25, li_50, lj_50, li_130, lj_130, li_160, lj_160, li_800, lj_800, li_4000, lj_4000, li_10000, lj_10000, li_16384, lj_16384, li_26, lj_26, li_32, lj_32, li_48, lj_48, li_57, lj_57, li_59, lj_59, li_97, lj_97, li_99, lj_99, li_122, lj_122, li_m1, lj_m1, li_m2, lj_m2, li_m3, lj_m3, li_m4, lj_m4, li_m5, lj_m5, li_m6, lj_m6] at * <;> omega))])
theorem lf_c_row_1 (n : Int32) (c_1 : ¬ n < 0) (c_2 : n ≤ 24) : ¬ n < 0 := by (simp only [true_or, or_true, false_or, or_false, true_and, and_true, false_and, and_false, not_true_eq_false, not_false_eq_true, i_lt, i_le, i_eq, j_lt, j_le, j_eq, Int32.toInt_toInt64, li_0, lj_0, li_1, lj_1, li_2, lj_2, li_3, lj_3, li_4, lj_4, li_5, lj_5, li_6, lj_6, li_7, lj_7, li_8, lj_8, li_10, lj_10, li_11, lj_11, li_12, lj_12, li_24, lj_24, li_25, lj_25, li_50, lj_50, li_130, lj_130, li_160, lj_160, li_800, lj_800, li_4000, lj_4000, li_10000, lj_10000, li_16384, lj_16384, li_26, lj_26, li_32, lj_32, li_48, lj_48, li_57, lj_57, li_59, lj_59, li_97, lj_97, li_99, lj_99, li_122, lj_122, li_m1, lj_m1, li_m2, lj_m2, li_m3, lj_m3, li_m4, lj_m4, li_m5, lj_m5, li_m6, lj_m6] at * <;> omega)
theorem lf_c_row_2 (n : Int32) (c_1 : ¬ n < 0) (c_2 : n ≤ 24) : n ≤ 24 := by (simp only [true_or, or_true, false_or, or_false, true_and, and_true, false_and, and_false, not_true_eq_false, not_false_eq_true, i_lt, i_le, i_eq, j_lt, j_le, j_eq, Int32.toInt_toInt64, li_0, lj_0, li_1, lj_1, li_2, lj_2, li_3, lj_3, li_4, lj_4, li_5, lj_5, li_6, lj_6, li_7, lj_7, li_8, lj_8, li_10, lj_10, li_11, lj_11, li_12, lj_12, li_24, lj_24, li_25, lj_25, li_50, lj_50, li_130, lj_130, li_160, lj_160, li_800, lj_800, li_4000, lj_4000, li_10000, lj_10000, li_16384, lj_16384, li_26, lj_26, li_32, lj_32, li_48, lj_48, li_57, lj_57, li_59, lj_59, li_97, lj_97, li_99, lj_99, li_122, lj_122, li_m1, lj_m1, li_m2, lj_m2, li_m3, lj_m3, li_m4, lj_m4, li_m5, lj_m5, li_m6, lj_m6] at * <;> omega)
theorem lf_c_row_3 (b : Int64) (n : Int32) (c_1 : ¬ n < 0) (c_2 : ¬ n ≤ 24) : (-3 : Int32) = sp_row b n := by (unfold sp_row; rw [if_pos (show n < 0 ∨ 24 < n from by (simp only [true_or, or_true, false_or, or_false, true_and, and_true, false_and, and_false, not_true_eq_false, not_false_eq_true, i_lt, i_le, i_eq, j_lt, j_le, j_eq, Int32.toInt_toInt64, li_0, lj_0, li_1, lj_1, li_2, lj_2, li_3, lj_3, li_4, lj_4, li_5, lj_5, li_6, lj_6, li_7, lj_7, li_8, lj_8, li_10, lj_10, li_11, lj_11, li_12, lj_12, li_24, lj_24, li_25, lj_25, li_50, lj_50, li_130, lj_130, li_160, lj_160, li_800, lj_800, li_4000, lj_4000, li_10000, lj_10000, li_16384, lj_16384, li_26, lj_26, li_32, lj_32, li_48, lj_48, li_57, lj_57, li_59, lj_59, li_97, lj_97, li_99, lj_99, li_122, lj_122, li_m1, lj_m1, li_m2, lj_m2, li_m3, lj_m3, li_m4, lj_m4, li_m5, lj_m5, li_m6, lj_m6] at * <;> omega))])
set_option maxHeartbeats 4000000 in
set_option maxRecDepth 100000 in
theorem c_row (l : Launch) (g : va_G) (cT : Nat → ClassId) (sz : Nat) (o : Nat) (ra : Nat) (tx : Nat) (lt : Nat) (wl : Nat) (rw : Nat) (kA : Nat) (bA : Nat) (lA : Nat) (b : Int64) (n : Int32)  : Ctr l g cT sz yX11_row wsX11_row rm_c_row [.ref o, .long b, .int n] [(o, .inr (11, [.ref ra, .ref tx, .ref lt, .int 0, .ref wl, .ref rw, .ref kA, .ref bA, .ref lA, .null, .null])), (lt, .inl (cT 0, 24, .inl (fun _ => 0)))] (QI g (fun (r : Int32) (u : Unit) => r = sp_row b n) (fun (u : Unit) => [])) 0 0 := by
  refine mk_ctr (cc := cX11_row) (maxL := 5) (ret := (some .int)) (by decide) rfl (Nat.le_of_ble_eq_true rfl) ?_
  intro p e s m args below meth c A Q hx hb hr hts hown hlocks hin hml hP hK hD hN hZ hA hS hQ ls hl
  have hl : lv_has ls 5 [(0, .ref o), (1, .long b), (3, .int n)] := hl
  obtain ⟨H, hH⟩ : ∃ H : Heap, H = s.heap := ⟨_, rfl⟩
  obtain ⟨locs, hlo⟩ : ∃ x : List Loc, x = [] := ⟨_, rfl⟩
  rw [← hH] at hP
  have hS : va_S A s.heap H locs := by rw [hH, hlo]; exact hS
  have hgo : W p l e rm_c_row s m args below meth c H locs 0 0 Q (F0 m 0 ls []) := by
    clear hH hlo
    refine lv_iload_n hx hb dX11_row_0 rfl (lv_at hl 2 rfl) ?_
    refine lv_if_lt (tgt := 10) hx hb dX11_row_1 (by decide) (fun c_1 => ?_) (fun c_1 => ?_)
    · skip
      refine lv_bipush (v := (-3)) hx hb dX11_row_10 (by decide) ?_
      exact rt_i hx hb hr hlocks hQ hP hD hS () [] dX11_row_12 rfl (Nat.le_of_ble_eq_true rfl) (Nat.le_of_ble_eq_true rfl) rfl (by decide) (lf_c_row_0 b n c_1)
    · skip
      refine lv_iload_n hx hb dX11_row_4 rfl (lv_at hl 2 rfl) ?_
      refine lv_bipush (v := 24) hx hb dX11_row_5 (by decide) ?_
      refine lv_icmp_le (tgt := 13) hx hb dX11_row_7 (by decide) (fun c_2 => ?_) (fun c_2 => ?_)
      · skip
        obtain ⟨N, hM, rfl⟩ := nI_of2 (x := n) (M := 24) (n := 24) (by decide) (lf_c_row_1 n c_1 c_2) (lf_c_row_2 n c_1 c_2)
        refine lv_iconst (v := 0) hx hb dX11_row_13 (by decide) ?_
        refine lv_istore (lv' := [(4, .int 0), (0, .ref o), (1, .long b), (3, .int (nI N))]) hx hb dX11_row_14 hl (by decide) rfl (fun ls hl => ?_)
        have loop_3 : ∀ (fuel : Nat) (j : Nat), j ≤ N → (∀ i, i < j → ¬ (b >>> (((2 : Int32) * nI i).toInt64 &&& 63)) &&& (3 : Int64) = 3) → N - j < fuel → ∀ (H : Heap) (locs : List Loc), va_P g vwCl [(o, .inr (11, [.ref ra, .ref tx, .ref lt, .int 0, .ref wl, .ref rw, .ref kA, .ref bA, .ref lA, .null, .null])), (lt, .inl (cT 0, 24, .inl (fun _ => 0)))] H → va_D A [(o, .inr (11, [.ref ra, .ref tx, .ref lt, .int 0, .ref wl, .ref rw, .ref kA, .ref bA, .ref lA, .null, .null])), (lt, .inl (cT 0, 24, .inl (fun _ => 0)))] → va_S A s.heap H locs → ∀ ls : Array Slot, lv_has ls 5 [(4, .int (nI j)), (0, .ref o), (1, .long b), (3, .int (nI N))] → W p l e rm_c_row s m args below meth c H locs 0 0 Q (F0 m 16 ls []) := by
          intro fuel
          induction fuel with
          | zero => intro j hj hok1 hfu; omega
          | succ fuel ih_loop_3 =>
            intro j hj hok1 hfu H locs hP hD hS ls hl
            refine lv_iload hx hb dX11_row_16 (lv_at hl 0 rfl) ?_
            refine lv_iload_n hx hb dX11_row_18 rfl (lv_at hl 3 rfl) ?_
            refine lv_icmp_ge (tgt := 43) hx hb dX11_row_19 (by decide) (fun c_4 => ?_) (fun c_4 => ?_)
            · skip
              have hok : ∀ i, i < N → ¬ (b >>> (((2 : Int32) * nI i).toInt64 &&& 63)) &&& (3 : Int64) = 3 := fun i hi => hok1 i (Nat.lt_of_lt_of_le hi ((nI_leI (by omega) (by omega)).mp c_4))
              refine lv_iconst (v := 0) hx hb dX11_row_43 (by decide) ?_
              refine lv_istore (lv' := [(4, .int 0), (0, .ref o), (1, .long b), (3, .int (nI N))]) hx hb dX11_row_44 hl (by decide) rfl (fun ls hl => ?_)
              have loop_5 : ∀ (fuel : Nat) (j3 : Nat) (f2 : Nat → Int32), j3 ≤ N → N - j3 < fuel → ∀ (H : Heap) (locs : List Loc), va_P g vwCl [(o, .inr (11, [.ref ra, .ref tx, .ref lt, .int 0, .ref wl, .ref rw, .ref kA, .ref bA, .ref lA, .null, .null])), (lt, .inl (cT 0, 24, .inl f2))] H → va_D A [(o, .inr (11, [.ref ra, .ref tx, .ref lt, .int 0, .ref wl, .ref rw, .ref kA, .ref bA, .ref lA, .null, .null])), (lt, .inl (cT 0, 24, .inl f2))] → va_S A s.heap H locs → ∀ ls : Array Slot, lv_has ls 5 [(4, .int (nI j3)), (0, .ref o), (1, .long b), (3, .int (nI N))] → W p l e rm_c_row s m args below meth c H locs 0 0 Q (F0 m 46 ls []) := by
                intro fuel
                induction fuel with
                | zero => intro j3 f2 hj3 hfu; omega
                | succ fuel ih_loop_5 =>
                  intro j3 f2 hj3 hfu H locs hP hD hS ls hl
                  refine lv_iload hx hb dX11_row_46 (lv_at hl 0 rfl) ?_
                  refine lv_iload_n hx hb dX11_row_48 rfl (lv_at hl 3 rfl) ?_
                  refine lv_icmp_ge (tgt := 71) hx hb dX11_row_49 (by decide) (fun c_6 => ?_) (fun c_6 => ?_)
                  · skip
                    refine lv_aload_n hx hb dX11_row_71 rfl (lv_at hl 1 rfl) ?_
                    refine lv_iload_n hx hb dX11_row_72 rfl (lv_at hl 3 rfl) ?_
                    refine va_put (C := RX11) (T := TX11) (N := 11) (v := .int (nI N)) (ty := .int) hx hb hts hi_X11_row_X11 tyX11 tyX11_ok nmX11 hown hK hP hD hS 0 rfl rfl 3 (by decide) (hts (.fieldLink RX11 26 "BothWays" "length" "I") (by decide +kernel)) (fun _ h => h) rfl (by decide +kernel) rfl rfl (Nat.le_of_ble_eq_true rfl) dX11_row_73 (fun H locs hP hD hS => ?_)
                    have hP : va_P g vwCl [(o, .inr (11, [.ref ra, .ref tx, .ref lt, .int (nI N), .ref wl, .ref rw, .ref kA, .ref bA, .ref lA, .null, .null])), (lt, .inl (cT 0, 24, .inl f2))] H := hP
                    have hD : va_D A [(o, .inr (11, [.ref ra, .ref tx, .ref lt, .int (nI N), .ref wl, .ref rw, .ref kA, .ref bA, .ref lA, .null, .null])), (lt, .inl (cT 0, 24, .inl f2))] := hD
                    refine lv_iconst (v := 1) hx hb dX11_row_76 (by decide) ?_
                    exact rt_i hx hb hr hlocks hQ hP hD hS () [] dX11_row_77 rfl (Nat.le_of_ble_eq_true rfl) (Nat.le_of_ble_eq_true rfl) rfl (by decide) (rp_ok N b hM hok)
                  · skip
                    have hlt3 : j3 < N := Nat.lt_of_not_le (fun h => c_6 (nI_le h (by omega)))
                    refine lv_aload_n hx hb dX11_row_52 rfl (lv_at hl 1 rfl) ?_
                    refine va_get (C := RX11) (T := TX11) (N := 11) (v := .ref lt) hx hb hts hi_X11_row_X11 hown hK hP 0 rfl rfl 2 (by decide) (hts (.fieldLink RX11 22 "BothWays" "letters" "[I") (by decide +kernel)) (fun _ h => h) rfl dX11_row_53 ?_
                    refine lv_iload hx hb dX11_row_56 (lv_at hl 0 rfl) ?_
                    refine lv_lload_n hx hb dX11_row_58 rfl (lv_at hl 2 rfl) ?_
                    refine lv_iload hx hb dX11_row_59 (lv_at hl 0 rfl) ?_
                    refine cp_i (va_runS (As := [.long b, .int (nI j3)]) (rest := [.int (nI j3), .ref lt]) ⟨hx, hb, hml, hown, hts⟩ (c_letterIn l g cT H.size b (nI j3)) (va_cwS 2 hts gX11_row_X11_letterIn rfl rfl rfl yd_X11_letterIn.2 ⟨(Nat.le_of_ble_eq_true rfl), (Nat.le_of_ble_eq_true rfl)⟩) (preS (ws := []) (wc := []) rfl (fun _ _ h => by simp at h) (va_D_nil (A := A)) hK hN hZ hS hA [] rfl rfl) rfl rfl hl.1 rfl (lv_room (Nat.le_of_ble_eq_true rfl)) dX11_row_61 ⟨(Nat.le_of_ble_eq_true rfl), (Nat.le_of_ble_eq_true rfl)⟩) hP hS hA (fun r_7 u H locs h_8 hP hS => ?_)
                    subst h_8
                    obtain ⟨f_9, ef_9⟩ : ∃ z, z = upd f2 (nI j3).toNatClampNeg (((b >>> (((2 : Int32) * (nI j3)).toInt64 &&& 63)) &&& (3 : Int64)).toInt32) := ⟨_, rfl⟩
                    refine w_iast (f' := f_9) hx hb hK hP hD hS 1 rfl dX11_row_64 (vp_in_nI (show j3 < 24 by omega) (by decide)) ef_9.symm (fun H locs hP hD hS => ?_)
                    have hP : va_P g vwCl [(o, .inr (11, [.ref ra, .ref tx, .ref lt, .int 0, .ref wl, .ref rw, .ref kA, .ref bA, .ref lA, .null, .null])), (lt, .inl (cT 0, 24, .inl f_9))] H := hP
                    have hD : va_D A [(o, .inr (11, [.ref ra, .ref tx, .ref lt, .int 0, .ref wl, .ref rw, .ref kA, .ref bA, .ref lA, .null, .null])), (lt, .inl (cT 0, 24, .inl f_9))] := hD
                    refine lv_iinc (v := (nI (j3 + 1))) (lv' := [(4, .int (nI (j3 + 1))), (0, .ref o), (1, .long b), (3, .int (nI N))]) hx hb dX11_row_65 hl (k := 0) rfl (nI_1 j3) (by decide) rfl (fun ls hl => ?_)
                    refine lv_goto (tgt := 46) hx hb dX11_row_68 (by decide) ?_
                    exact ih_loop_5 (j3 + 1) f_9 (by omega) (by omega) _ _ (hP.sub [0, 1] rfl) (hD.sub [0, 1] (by decide) rfl) hS ls (lv_sub hl [0, 1, 2, 3] rfl)
              exact loop_5 _ 0 (fun _ => 0) (Nat.zero_le _) (Nat.lt_succ_self _) _ _ (hP.sub [0, 1] rfl) (hD.sub [0, 1] (by decide) rfl) hS ls (lv_sub hl [0, 1, 2, 3] rfl)
            · skip
              have hlt : j < N := Nat.lt_of_not_le (fun h => c_4 (nI_le h (by omega)))
              refine lv_lload_n hx hb dX11_row_22 rfl (lv_at hl 2 rfl) ?_
              refine lv_iload hx hb dX11_row_23 (lv_at hl 0 rfl) ?_
              refine cp_i (va_runS (As := [.long b, .int (nI j)]) (rest := []) ⟨hx, hb, hml, hown, hts⟩ (c_letterIn l g cT H.size b (nI j)) (va_cwS 2 hts gX11_row_X11_letterIn rfl rfl rfl yd_X11_letterIn.2 ⟨(Nat.le_of_ble_eq_true rfl), (Nat.le_of_ble_eq_true rfl)⟩) (preS (ws := []) (wc := []) rfl (fun _ _ h => by simp at h) (va_D_nil (A := A)) hK hN hZ hS hA [] rfl rfl) rfl rfl hl.1 rfl (lv_room (Nat.le_of_ble_eq_true rfl)) dX11_row_25 ⟨(Nat.le_of_ble_eq_true rfl), (Nat.le_of_ble_eq_true rfl)⟩) hP hS hA (fun r_10 u H locs h_11 hP hS => ?_)
              subst h_11
              refine cp_i (va_runS (As := [.int (((b >>> (((2 : Int32) * (nI j)).toInt64 &&& 63)) &&& (3 : Int64)).toInt32)]) (rest := []) ⟨hx, hb, hml, hown, hts⟩ (c_isLetter l g cT H.size (((b >>> (((2 : Int32) * (nI j)).toInt64 &&& 63)) &&& (3 : Int64)).toInt32)) (va_cwS 1 hts gX11_row_X11_isLetter rfl rfl rfl yd_X11_isLetter.2 ⟨(Nat.le_of_ble_eq_true rfl), (Nat.le_of_ble_eq_true rfl)⟩) (preS (ws := []) (wc := []) rfl (fun _ _ h => by simp at h) (va_D_nil (A := A)) hK hN hZ hS hA [] rfl rfl) rfl rfl hl.1 rfl (lv_room (Nat.le_of_ble_eq_true rfl)) dX11_row_28 ⟨(Nat.le_of_ble_eq_true rfl), (Nat.le_of_ble_eq_true rfl)⟩) hP hS hA (fun r_12 u H locs h_13 hP hS => ?_)
              rcases h_13 with ⟨rfl, h_14⟩ | ⟨rfl, h_15⟩
              · skip
                have hgd := (let3 _).mp h_14
                refine if_ne_t hx hb 37 dX11_row_31 (by decide) (by decide) ?_
                refine lv_iinc (v := (nI (j + 1))) (lv' := [(4, .int (nI (j + 1))), (0, .ref o), (1, .long b), (3, .int (nI N))]) hx hb dX11_row_37 hl (k := 0) rfl (nI_1 j) (by decide) rfl (fun ls hl => ?_)
                refine lv_goto (tgt := 16) hx hb dX11_row_40 (by decide) ?_
                exact ih_loop_3 (j + 1) (by omega) (lt_s hok1 hgd) (by omega) _ _ (hP.sub [0, 1] rfl) (hD.sub [0, 1] (by decide) rfl) hS ls (lv_sub hl [0, 1, 2, 3] rfl)
              · skip
                have hbd := Classical.not_not.mp (fun q => h_15 ((let3 _).mpr q))
                refine if_ne_f hx hb dX11_row_31 37 (by decide) (by decide) ?_
                refine lv_bipush (v := (-2)) hx hb dX11_row_34 (by decide) ?_
                exact rt_i hx hb hr hlocks hQ hP hD hS () [] dX11_row_36 rfl (Nat.le_of_ble_eq_true rfl) (Nat.le_of_ble_eq_true rfl) rfl (by decide) (rp_bad N b hM j (by omega) hbd)
        exact loop_3 _ 0 (Nat.zero_le _) (fun i hi => absurd hi (Nat.not_lt_zero i)) (Nat.lt_succ_self _) _ _ (hP.sub [0, 1] rfl) (hD.sub [0, 1] (by decide) rfl) hS ls (lv_sub hl [0, 1, 2, 3] rfl)
      · skip
        refine lv_bipush (v := (-3)) hx hb dX11_row_10 (by decide) ?_
        exact rt_i hx hb hr hlocks hQ hP hD hS () [] dX11_row_12 rfl (Nat.le_of_ble_eq_true rfl) (Nat.le_of_ble_eq_true rfl) rfl (by decide) (lf_c_row_3 b n c_1 c_2)
  rw [hH, hlo] at hgo
  exact hgo
theorem hi_X11_run_X11 : ∀ w ∈ wsX110, w ∈ wsX11_run := fun _ h => List.mem_cons_of_mem _ (List.mem_append_left _ (List.mem_append_left _ (List.mem_append_right _ h)))
theorem hi_X11_run_X10 : ∀ w ∈ wsX100, w ∈ wsX11_run := fun _ h => List.mem_cons_of_mem _ (List.mem_append_left _ (List.mem_append_right _ h))
abbrev rm_c_run : Room := { frames := 2, cells := 0, slots := 0, locals := 48 }
theorem lf_c_run_0 (w : Int32) (c_5 : w < 0) : ((-3) : Int32) = sp_run 0 w := by (unfold sp_run; rw [if_pos, if_pos] <;> (simp only [true_or, or_true, false_or, or_false, true_and, and_true, false_and, and_false, not_true_eq_false, not_false_eq_true, i_lt, i_le, i_eq, j_lt, j_le, j_eq, Int32.toInt_toInt64, li_0, lj_0, li_1, lj_1, li_2, lj_2, li_3, lj_3, li_4, lj_4, li_5, lj_5, li_6, lj_6, li_7, lj_7, li_8, lj_8, li_10, lj_10, li_11, lj_11, li_12, lj_12, li_24, lj_24, li_25, lj_25, li_50, lj_50, li_130, lj_130, li_160, lj_160, li_800, lj_800, li_4000, lj_4000, li_10000, lj_10000, li_16384, lj_16384, li_26, lj_26, li_32, lj_32, li_48, lj_48, li_57, lj_57, li_59, lj_59, li_97, lj_97, li_99, lj_99, li_122, lj_122, li_m1, lj_m1, li_m2, lj_m2, li_m3, lj_m3, li_m4, lj_m4, li_m5, lj_m5, li_m6, lj_m6] at * <;> omega))
theorem lf_c_run_1 (w : Int32) (c_5 : ¬ w < 0) (c_6 : w ≤ 4) : w = 0 ∨ w = 1 ∨ w = 2 ∨ w = 3 ∨ w = 4 := by (simp only [true_or, or_true, false_or, or_false, true_and, and_true, false_and, and_false, not_true_eq_false, not_false_eq_true, i_lt, i_le, i_eq, j_lt, j_le, j_eq, Int32.toInt_toInt64, li_0, lj_0, li_1, lj_1, li_2, lj_2, li_3, lj_3, li_4, lj_4, li_5, lj_5, li_6, lj_6, li_7, lj_7, li_8, lj_8, li_10, lj_10, li_11, lj_11, li_12, lj_12, li_24, lj_24, li_25, lj_25, li_50, lj_50, li_130, lj_130, li_160, lj_160, li_800, lj_800, li_4000, lj_4000, li_10000, lj_10000, li_16384, lj_16384, li_26, lj_26, li_32, lj_32, li_48, lj_48, li_57, lj_57, li_59, lj_59, li_97, lj_97, li_99, lj_99, li_122, lj_122, li_m1, lj_m1, li_m2, lj_m2, li_m3, lj_m3, li_m4, lj_m4, li_m5, lj_m5, li_m6, lj_m6] at * <;> omega)
theorem lf_c_run_2  (c_5 : ¬ (0 : Int32) < 0) (c_6 : (0 : Int32) ≤ 4) : (0 : Int32) = sp_run 0 0 := by (unfold sp_run; rw [if_pos, if_neg] <;> (simp only [true_or, or_true, false_or, or_false, true_and, and_true, false_and, and_false, not_true_eq_false, not_false_eq_true, i_lt, i_le, i_eq, j_lt, j_le, j_eq, Int32.toInt_toInt64, li_0, lj_0, li_1, lj_1, li_2, lj_2, li_3, lj_3, li_4, lj_4, li_5, lj_5, li_6, lj_6, li_7, lj_7, li_8, lj_8, li_10, lj_10, li_11, lj_11, li_12, lj_12, li_24, lj_24, li_25, lj_25, li_50, lj_50, li_130, lj_130, li_160, lj_160, li_800, lj_800, li_4000, lj_4000, li_10000, lj_10000, li_16384, lj_16384, li_26, lj_26, li_32, lj_32, li_48, lj_48, li_57, lj_57, li_59, lj_59, li_97, lj_97, li_99, lj_99, li_122, lj_122, li_m1, lj_m1, li_m2, lj_m2, li_m3, lj_m3, li_m4, lj_m4, li_m5, lj_m5, li_m6, lj_m6] at * <;> omega))
theorem lf_c_run_3  (c_5 : ¬ (1 : Int32) < 0) (c_6 : (1 : Int32) ≤ 4) : (0 : Int32) = sp_run 0 1 := by (unfold sp_run; rw [if_pos, if_neg] <;> (simp only [true_or, or_true, false_or, or_false, true_and, and_true, false_and, and_false, not_true_eq_false, not_false_eq_true, i_lt, i_le, i_eq, j_lt, j_le, j_eq, Int32.toInt_toInt64, li_0, lj_0, li_1, lj_1, li_2, lj_2, li_3, lj_3, li_4, lj_4, li_5, lj_5, li_6, lj_6, li_7, lj_7, li_8, lj_8, li_10, lj_10, li_11, lj_11, li_12, lj_12, li_24, lj_24, li_25, lj_25, li_50, lj_50, li_130, lj_130, li_160, lj_160, li_800, lj_800, li_4000, lj_4000, li_10000, lj_10000, li_16384, lj_16384, li_26, lj_26, li_32, lj_32, li_48, lj_48, li_57, lj_57, li_59, lj_59, li_97, lj_97, li_99, lj_99, li_122, lj_122, li_m1, lj_m1, li_m2, lj_m2, li_m3, lj_m3, li_m4, lj_m4, li_m5, lj_m5, li_m6, lj_m6] at * <;> omega))
theorem lf_c_run_4  (c_5 : ¬ (2 : Int32) < 0) (c_6 : (2 : Int32) ≤ 4) : (0 : Int32) = sp_run 0 2 := by (unfold sp_run; rw [if_pos, if_neg] <;> (simp only [true_or, or_true, false_or, or_false, true_and, and_true, false_and, and_false, not_true_eq_false, not_false_eq_true, i_lt, i_le, i_eq, j_lt, j_le, j_eq, Int32.toInt_toInt64, li_0, lj_0, li_1, lj_1, li_2, lj_2, li_3, lj_3, li_4, lj_4, li_5, lj_5, li_6, lj_6, li_7, lj_7, li_8, lj_8, li_10, lj_10, li_11, lj_11, li_12, lj_12, li_24, lj_24, li_25, lj_25, li_50, lj_50, li_130, lj_130, li_160, lj_160, li_800, lj_800, li_4000, lj_4000, li_10000, lj_10000, li_16384, lj_16384, li_26, lj_26, li_32, lj_32, li_48, lj_48, li_57, lj_57, li_59, lj_59, li_97, lj_97, li_99, lj_99, li_122, lj_122, li_m1, lj_m1, li_m2, lj_m2, li_m3, lj_m3, li_m4, lj_m4, li_m5, lj_m5, li_m6, lj_m6] at * <;> omega))
theorem lf_c_run_5  (c_5 : ¬ (3 : Int32) < 0) (c_6 : (3 : Int32) ≤ 4) : (0 : Int32) = sp_run 0 3 := by (unfold sp_run; rw [if_pos, if_neg] <;> (simp only [true_or, or_true, false_or, or_false, true_and, and_true, false_and, and_false, not_true_eq_false, not_false_eq_true, i_lt, i_le, i_eq, j_lt, j_le, j_eq, Int32.toInt_toInt64, li_0, lj_0, li_1, lj_1, li_2, lj_2, li_3, lj_3, li_4, lj_4, li_5, lj_5, li_6, lj_6, li_7, lj_7, li_8, lj_8, li_10, lj_10, li_11, lj_11, li_12, lj_12, li_24, lj_24, li_25, lj_25, li_50, lj_50, li_130, lj_130, li_160, lj_160, li_800, lj_800, li_4000, lj_4000, li_10000, lj_10000, li_16384, lj_16384, li_26, lj_26, li_32, lj_32, li_48, lj_48, li_57, lj_57, li_59, lj_59, li_97, lj_97, li_99, lj_99, li_122, lj_122, li_m1, lj_m1, li_m2, lj_m2, li_m3, lj_m3, li_m4, lj_m4, li_m5, lj_m5, li_m6, lj_m6] at * <;> omega))
theorem lf_c_run_6  (c_5 : ¬ (4 : Int32) < 0) (c_6 : (4 : Int32) ≤ 4) : (0 : Int32) = sp_run 0 4 := by (unfold sp_run; rw [if_pos, if_neg] <;> (simp only [true_or, or_true, false_or, or_false, true_and, and_true, false_and, and_false, not_true_eq_false, not_false_eq_true, i_lt, i_le, i_eq, j_lt, j_le, j_eq, Int32.toInt_toInt64, li_0, lj_0, li_1, lj_1, li_2, lj_2, li_3, lj_3, li_4, lj_4, li_5, lj_5, li_6, lj_6, li_7, lj_7, li_8, lj_8, li_10, lj_10, li_11, lj_11, li_12, lj_12, li_24, lj_24, li_25, lj_25, li_50, lj_50, li_130, lj_130, li_160, lj_160, li_800, lj_800, li_4000, lj_4000, li_10000, lj_10000, li_16384, lj_16384, li_26, lj_26, li_32, lj_32, li_48, lj_48, li_57, lj_57, li_59, lj_59, li_97, lj_97, li_99, lj_99, li_122, lj_122, li_m1, lj_m1, li_m2, lj_m2, li_m3, lj_m3, li_m4, lj_m4, li_m5, lj_m5, li_m6, lj_m6] at * <;> omega))
theorem lf_c_run_7 (w : Int32) (c_5 : ¬ w < 0) (c_6 : ¬ w ≤ 4) : ((-3) : Int32) = sp_run 0 w := by (unfold sp_run; rw [if_pos, if_pos] <;> (simp only [true_or, or_true, false_or, or_false, true_and, and_true, false_and, and_false, not_true_eq_false, not_false_eq_true, i_lt, i_le, i_eq, j_lt, j_le, j_eq, Int32.toInt_toInt64, li_0, lj_0, li_1, lj_1, li_2, lj_2, li_3, lj_3, li_4, lj_4, li_5, lj_5, li_6, lj_6, li_7, lj_7, li_8, lj_8, li_10, lj_10, li_11, lj_11, li_12, lj_12, li_24, lj_24, li_25, lj_25, li_50, lj_50, li_130, lj_130, li_160, lj_160, li_800, lj_800, li_4000, lj_4000, li_10000, lj_10000, li_16384, lj_16384, li_26, lj_26, li_32, lj_32, li_48, lj_48, li_57, lj_57, li_59, lj_59, li_97, lj_97, li_99, lj_99, li_122, lj_122, li_m1, lj_m1, li_m2, lj_m2, li_m3, lj_m3, li_m4, lj_m4, li_m5, lj_m5, li_m6, lj_m6] at * <;> omega))
theorem lf_c_run_8 (w : Int32) (c_22 : w < 0) : ((-3) : Int32) = sp_run 1 w := by (unfold sp_run; rw [if_pos, if_pos] <;> (simp only [true_or, or_true, false_or, or_false, true_and, and_true, false_and, and_false, not_true_eq_false, not_false_eq_true, i_lt, i_le, i_eq, j_lt, j_le, j_eq, Int32.toInt_toInt64, li_0, lj_0, li_1, lj_1, li_2, lj_2, li_3, lj_3, li_4, lj_4, li_5, lj_5, li_6, lj_6, li_7, lj_7, li_8, lj_8, li_10, lj_10, li_11, lj_11, li_12, lj_12, li_24, lj_24, li_25, lj_25, li_50, lj_50, li_130, lj_130, li_160, lj_160, li_800, lj_800, li_4000, lj_4000, li_10000, lj_10000, li_16384, lj_16384, li_26, lj_26, li_32, lj_32, li_48, lj_48, li_57, lj_57, li_59, lj_59, li_97, lj_97, li_99, lj_99, li_122, lj_122, li_m1, lj_m1, li_m2, lj_m2, li_m3, lj_m3, li_m4, lj_m4, li_m5, lj_m5, li_m6, lj_m6] at * <;> omega))
theorem lf_c_run_9 (w : Int32) (c_22 : ¬ w < 0) (c_23 : w ≤ 4) : w = 0 ∨ w = 1 ∨ w = 2 ∨ w = 3 ∨ w = 4 := by (simp only [true_or, or_true, false_or, or_false, true_and, and_true, false_and, and_false, not_true_eq_false, not_false_eq_true, i_lt, i_le, i_eq, j_lt, j_le, j_eq, Int32.toInt_toInt64, li_0, lj_0, li_1, lj_1, li_2, lj_2, li_3, lj_3, li_4, lj_4, li_5, lj_5, li_6, lj_6, li_7, lj_7, li_8, lj_8, li_10, lj_10, li_11, lj_11, li_12, lj_12, li_24, lj_24, li_25, lj_25, li_50, lj_50, li_130, lj_130, li_160, lj_160, li_800, lj_800, li_4000, lj_4000, li_10000, lj_10000, li_16384, lj_16384, li_26, lj_26, li_32, lj_32, li_48, lj_48, li_57, lj_57, li_59, lj_59, li_97, lj_97, li_99, lj_99, li_122, lj_122, li_m1, lj_m1, li_m2, lj_m2, li_m3, lj_m3, li_m4, lj_m4, li_m5, lj_m5, li_m6, lj_m6] at * <;> omega)
theorem lf_c_run_10  (c_22 : ¬ (0 : Int32) < 0) (c_23 : (0 : Int32) ≤ 4) : (0 : Int32) = sp_run 1 0 := by (unfold sp_run; rw [if_pos, if_neg] <;> (simp only [true_or, or_true, false_or, or_false, true_and, and_true, false_and, and_false, not_true_eq_false, not_false_eq_true, i_lt, i_le, i_eq, j_lt, j_le, j_eq, Int32.toInt_toInt64, li_0, lj_0, li_1, lj_1, li_2, lj_2, li_3, lj_3, li_4, lj_4, li_5, lj_5, li_6, lj_6, li_7, lj_7, li_8, lj_8, li_10, lj_10, li_11, lj_11, li_12, lj_12, li_24, lj_24, li_25, lj_25, li_50, lj_50, li_130, lj_130, li_160, lj_160, li_800, lj_800, li_4000, lj_4000, li_10000, lj_10000, li_16384, lj_16384, li_26, lj_26, li_32, lj_32, li_48, lj_48, li_57, lj_57, li_59, lj_59, li_97, lj_97, li_99, lj_99, li_122, lj_122, li_m1, lj_m1, li_m2, lj_m2, li_m3, lj_m3, li_m4, lj_m4, li_m5, lj_m5, li_m6, lj_m6] at * <;> omega))
theorem lf_c_run_11  (c_22 : ¬ (1 : Int32) < 0) (c_23 : (1 : Int32) ≤ 4) : (0 : Int32) = sp_run 1 1 := by (unfold sp_run; rw [if_pos, if_neg] <;> (simp only [true_or, or_true, false_or, or_false, true_and, and_true, false_and, and_false, not_true_eq_false, not_false_eq_true, i_lt, i_le, i_eq, j_lt, j_le, j_eq, Int32.toInt_toInt64, li_0, lj_0, li_1, lj_1, li_2, lj_2, li_3, lj_3, li_4, lj_4, li_5, lj_5, li_6, lj_6, li_7, lj_7, li_8, lj_8, li_10, lj_10, li_11, lj_11, li_12, lj_12, li_24, lj_24, li_25, lj_25, li_50, lj_50, li_130, lj_130, li_160, lj_160, li_800, lj_800, li_4000, lj_4000, li_10000, lj_10000, li_16384, lj_16384, li_26, lj_26, li_32, lj_32, li_48, lj_48, li_57, lj_57, li_59, lj_59, li_97, lj_97, li_99, lj_99, li_122, lj_122, li_m1, lj_m1, li_m2, lj_m2, li_m3, lj_m3, li_m4, lj_m4, li_m5, lj_m5, li_m6, lj_m6] at * <;> omega))
theorem lf_c_run_12  (c_22 : ¬ (2 : Int32) < 0) (c_23 : (2 : Int32) ≤ 4) : (0 : Int32) = sp_run 1 2 := by (unfold sp_run; rw [if_pos, if_neg] <;> (simp only [true_or, or_true, false_or, or_false, true_and, and_true, false_and, and_false, not_true_eq_false, not_false_eq_true, i_lt, i_le, i_eq, j_lt, j_le, j_eq, Int32.toInt_toInt64, li_0, lj_0, li_1, lj_1, li_2, lj_2, li_3, lj_3, li_4, lj_4, li_5, lj_5, li_6, lj_6, li_7, lj_7, li_8, lj_8, li_10, lj_10, li_11, lj_11, li_12, lj_12, li_24, lj_24, li_25, lj_25, li_50, lj_50, li_130, lj_130, li_160, lj_160, li_800, lj_800, li_4000, lj_4000, li_10000, lj_10000, li_16384, lj_16384, li_26, lj_26, li_32, lj_32, li_48, lj_48, li_57, lj_57, li_59, lj_59, li_97, lj_97, li_99, lj_99, li_122, lj_122, li_m1, lj_m1, li_m2, lj_m2, li_m3, lj_m3, li_m4, lj_m4, li_m5, lj_m5, li_m6, lj_m6] at * <;> omega))
theorem lf_c_run_13  (c_22 : ¬ (3 : Int32) < 0) (c_23 : (3 : Int32) ≤ 4) : (0 : Int32) = sp_run 1 3 := by (unfold sp_run; rw [if_pos, if_neg] <;> (simp only [true_or, or_true, false_or, or_false, true_and, and_true, false_and, and_false, not_true_eq_false, not_false_eq_true, i_lt, i_le, i_eq, j_lt, j_le, j_eq, Int32.toInt_toInt64, li_0, lj_0, li_1, lj_1, li_2, lj_2, li_3, lj_3, li_4, lj_4, li_5, lj_5, li_6, lj_6, li_7, lj_7, li_8, lj_8, li_10, lj_10, li_11, lj_11, li_12, lj_12, li_24, lj_24, li_25, lj_25, li_50, lj_50, li_130, lj_130, li_160, lj_160, li_800, lj_800, li_4000, lj_4000, li_10000, lj_10000, li_16384, lj_16384, li_26, lj_26, li_32, lj_32, li_48, lj_48, li_57, lj_57, li_59, lj_59, li_97, lj_97, li_99, lj_99, li_122, lj_122, li_m1, lj_m1, li_m2, lj_m2, li_m3, lj_m3, li_m4, lj_m4, li_m5, lj_m5, li_m6, lj_m6] at * <;> omega))
theorem lf_c_run_14  (c_22 : ¬ (4 : Int32) < 0) (c_23 : (4 : Int32) ≤ 4) : (0 : Int32) = sp_run 1 4 := by (unfold sp_run; rw [if_pos, if_neg] <;> (simp only [true_or, or_true, false_or, or_false, true_and, and_true, false_and, and_false, not_true_eq_false, not_false_eq_true, i_lt, i_le, i_eq, j_lt, j_le, j_eq, Int32.toInt_toInt64, li_0, lj_0, li_1, lj_1, li_2, lj_2, li_3, lj_3, li_4, lj_4, li_5, lj_5, li_6, lj_6, li_7, lj_7, li_8, lj_8, li_10, lj_10, li_11, lj_11, li_12, lj_12, li_24, lj_24, li_25, lj_25, li_50, lj_50, li_130, lj_130, li_160, lj_160, li_800, lj_800, li_4000, lj_4000, li_10000, lj_10000, li_16384, lj_16384, li_26, lj_26, li_32, lj_32, li_48, lj_48, li_57, lj_57, li_59, lj_59, li_97, lj_97, li_99, lj_99, li_122, lj_122, li_m1, lj_m1, li_m2, lj_m2, li_m3, lj_m3, li_m4, lj_m4, li_m5, lj_m5, li_m6, lj_m6] at * <;> omega))
theorem lf_c_run_15 (w : Int32) (c_22 : ¬ w < 0) (c_23 : ¬ w ≤ 4) : ((-3) : Int32) = sp_run 1 w := by (unfold sp_run; rw [if_pos, if_pos] <;> (simp only [true_or, or_true, false_or, or_false, true_and, and_true, false_and, and_false, not_true_eq_false, not_false_eq_true, i_lt, i_le, i_eq, j_lt, j_le, j_eq, Int32.toInt_toInt64, li_0, lj_0, li_1, lj_1, li_2, lj_2, li_3, lj_3, li_4, lj_4, li_5, lj_5, li_6, lj_6, li_7, lj_7, li_8, lj_8, li_10, lj_10, li_11, lj_11, li_12, lj_12, li_24, lj_24, li_25, lj_25, li_50, lj_50, li_130, lj_130, li_160, lj_160, li_800, lj_800, li_4000, lj_4000, li_10000, lj_10000, li_16384, lj_16384, li_26, lj_26, li_32, lj_32, li_48, lj_48, li_57, lj_57, li_59, lj_59, li_97, lj_97, li_99, lj_99, li_122, lj_122, li_m1, lj_m1, li_m2, lj_m2, li_m3, lj_m3, li_m4, lj_m4, li_m5, lj_m5, li_m6, lj_m6] at * <;> omega))
theorem lf_c_run_16 (x : Int32) (w : Int32) (h_4 : ¬ (x = 0 ∨ x = 1)) : ((-2) : Int32) = sp_run x w := by (unfold sp_run; rw [if_neg] <;> (simp only [true_or, or_true, false_or, or_false, true_and, and_true, false_and, and_false, not_true_eq_false, not_false_eq_true, i_lt, i_le, i_eq, j_lt, j_le, j_eq, Int32.toInt_toInt64, li_0, lj_0, li_1, lj_1, li_2, lj_2, li_3, lj_3, li_4, lj_4, li_5, lj_5, li_6, lj_6, li_7, lj_7, li_8, lj_8, li_10, lj_10, li_11, lj_11, li_12, lj_12, li_24, lj_24, li_25, lj_25, li_50, lj_50, li_130, lj_130, li_160, lj_160, li_800, lj_800, li_4000, lj_4000, li_10000, lj_10000, li_16384, lj_16384, li_26, lj_26, li_32, lj_32, li_48, lj_48, li_57, lj_57, li_59, lj_59, li_97, lj_97, li_99, lj_99, li_122, lj_122, li_m1, lj_m1, li_m2, lj_m2, li_m3, lj_m3, li_m4, lj_m4, li_m5, lj_m5, li_m6, lj_m6] at * <;> omega))
set_option maxHeartbeats 4000000 in
set_option maxRecDepth 100000 in
theorem c_run (l : Launch) (g : va_G) (cT : Nat → ClassId) (sz : Nat) (o : Nat) (ra : Nat) (tx : Nat) (lt : Nat) (wl : Nat) (rw : Nat) (kA : Nat) (bA : Nat) (lA : Nat) (r0 : Nat) (r1 : Nat) (a0 : Nat) (a1 : Nat) (sa : Nat) (sb : Nat) (x : Int32) (w : Int32)  : Ctr l g cT sz yX11_run wsX11_run rm_c_run [.ref o, .int x, .int w] [(o, .inr (11, [.ref ra, .ref tx, .ref lt, .int 0, .ref wl, .ref rw, .ref kA, .ref bA, .ref lA, .null, .null])), (ra, .inl (cT 3, 2, .inr (.inr (.inr (.inr (va_up (va_up (fun _ => none) 0 (some r0)) 1 (some r1))))))), (r0, .inr (6, [.int 1, .int 0, .int 0, .int 0, .ref a0])), (a0, .inl (cT 0, 25, .inl (fun _ => (-1)))), (r1, .inr (6, [.int 1, .int 0, .int 0, .int 0, .ref a1])), (a1, .inl (cT 0, 25, .inl (fun _ => (-1)))), (wl, .inr (10, [.ref sa, .ref sb, .int 0, .int 0, .int 0, .int 0, .int 0])), (sa, .inl (cT 1, 5, .inr (.inl (fun _ => 0))))] (QI g (fun (r : Int32) (u : Unit) => r = sp_run x w) (fun (u : Unit) => [])) 0 0 := by
  refine mk_ctr (cc := cX11_run) (maxL := 3) (ret := (some .int)) (by decide) rfl (Nat.le_of_ble_eq_true rfl) ?_
  intro p e s m args below meth c A Q hx hb hr hts hown hlocks hin hml hP hK hD hN hZ hA hS hQ ls hl
  have hl : lv_has ls 3 [(0, .ref o), (1, .int x), (2, .int w)] := hl
  obtain ⟨H, hH⟩ : ∃ H : Heap, H = s.heap := ⟨_, rfl⟩
  obtain ⟨locs, hlo⟩ : ∃ x : List Loc, x = [] := ⟨_, rfl⟩
  rw [← hH] at hP
  have hS : va_S A s.heap H locs := by rw [hH, hlo]; exact hS
  have hgo : W p l e rm_c_run s m args below meth c H locs 0 0 Q (F0 m 0 ls []) := by
    clear hH hlo
    refine lv_iload_n hx hb dX11_run_0 rfl (lv_at hl 1 rfl) ?_
    refine cp_i (va_runS (As := [.int x]) (rest := []) ⟨hx, hb, hml, hown, hts⟩ (c_isReader l g cT H.size x) (va_cwS 1 hts gX11_run_X11_isReader rfl rfl rfl yd_X11_isReader.2 ⟨(Nat.le_of_ble_eq_true rfl), (Nat.le_of_ble_eq_true rfl)⟩) (preS (ws := []) (wc := []) rfl (fun _ _ h => by simp at h) (va_D_nil (A := A)) hK hN hZ hS hA [] rfl rfl) rfl rfl hl.1 rfl (lv_room (Nat.le_of_ble_eq_true rfl)) dX11_run_1 ⟨(Nat.le_of_ble_eq_true rfl), (Nat.le_of_ble_eq_true rfl)⟩) hP hS hA (fun r_1 u H locs h_2 hP hS => ?_)
    rcases h_2 with ⟨rfl, h_3⟩ | ⟨rfl, h_4⟩
    · skip
      rcases h_3 with rfl | rfl
      · skip
        refine if_ne_t hx hb 10 dX11_run_4 (by decide) (by decide) ?_
        refine lv_iload_n hx hb dX11_run_10 rfl (lv_at hl 2 rfl) ?_
        refine lv_if_lt (tgt := 19) hx hb dX11_run_11 (by decide) (fun c_5 => ?_) (fun c_5 => ?_)
        · skip
          refine lv_bipush (v := (-3)) hx hb dX11_run_19 (by decide) ?_
          exact rt_i hx hb hr hlocks hQ hP hD hS () [] dX11_run_21 rfl (Nat.le_of_ble_eq_true rfl) (Nat.le_of_ble_eq_true rfl) rfl (by decide) (lf_c_run_0 w c_5)
        · skip
          refine lv_iload_n hx hb dX11_run_14 rfl (lv_at hl 2 rfl) ?_
          refine lv_iconst (v := 4) hx hb dX11_run_15 (by decide) ?_
          refine lv_icmp_le (tgt := 22) hx hb dX11_run_16 (by decide) (fun c_6 => ?_) (fun c_6 => ?_)
          · skip
            rcases (lf_c_run_1 w c_5 c_6) with rfl | rfl | rfl | rfl | rfl
            · skip
              refine lv_aload_n hx hb dX11_run_22 rfl (lv_at hl 0 rfl) ?_
              refine va_get (C := RX11) (T := TX11) (N := 11) (v := .ref wl) hx hb hts hi_X11_run_X11 hown hK hP 0 rfl rfl 4 (by decide) (hts (.fieldLink RX11 33 "BothWays" "walk" "LBothWays$Walk;") (by decide +kernel)) (fun _ h => h) rfl dX11_run_23 ?_
              refine lv_aload_n hx hb dX11_run_26 rfl (lv_at hl 0 rfl) ?_
              refine va_get (C := RX11) (T := TX11) (N := 11) (v := .ref ra) hx hb hts hi_X11_run_X11 hown hK hP 0 rfl rfl 0 (by decide) (hts (.fieldLink RX11 11 "BothWays" "readers" "[LBothWays$Reader;") (by decide +kernel)) (fun _ h => h) rfl dX11_run_27 ?_
              refine lv_iload_n hx hb dX11_run_30 rfl (lv_at hl 1 rfl) ?_
              refine w_aald (v := .ref r0) hx hb hK hP 1 3 rfl rfl dX11_run_31 (inC (by decide)) rfl ?_
              refine lv_aload_n hx hb dX11_run_32 rfl (lv_at hl 0 rfl) ?_
              refine va_get (C := RX11) (T := TX11) (N := 11) (v := .ref lt) hx hb hts hi_X11_run_X11 hown hK hP 0 rfl rfl 2 (by decide) (hts (.fieldLink RX11 22 "BothWays" "letters" "[I") (by decide +kernel)) (fun _ h => h) rfl dX11_run_33 ?_
              refine lv_aload_n hx hb dX11_run_36 rfl (lv_at hl 0 rfl) ?_
              refine va_get (C := RX11) (T := TX11) (N := 11) (v := .int 0) hx hb hts hi_X11_run_X11 hown hK hP 0 rfl rfl 3 (by decide) (hts (.fieldLink RX11 26 "BothWays" "length" "I") (by decide +kernel)) (fun _ h => h) rfl dX11_run_37 ?_
              refine cj_v 0 0 (wr := [(o, .inr (11, [.ref ra, .ref tx, .ref lt, .int 0, .ref wl, .ref rw, .ref kA, .ref bA, .ref lA, .null, .null])), (ra, .inl (cT 3, 2, .inr (.inr (.inr (.inr (va_up (va_up (fun _ => none) 0 (some r0)) 1 (some r1))))))), (r1, .inr (6, [.int 1, .int 0, .int 0, .int 0, .ref a1])), (a1, .inl (cT 0, 25, .inl (fun _ => (-1))))]) (va_runV (As := [.ref r0, .ref lt, .int 0]) (rest := []) ⟨hx, hb, hml, hown, hts⟩ (c_W_go l g cT H.size wl sa sb 0 0 0 0 0 (fun _ => 0) r0 a0 0 lt 0 (by decide)) (cwV 3 hts gX11_run_X10_go rfl rfl rfl yd_X10_go ⟨(Nat.le_of_ble_eq_true rfl), (Nat.le_of_ble_eq_true rfl)⟩) (preV (wc := [(wl, .inr (10, [.ref sa, .ref sb, .int 0, .int 0, .int 0, .int 0, .int 0])), (sa, .inl (cT 1, 5, .inr (.inl (fun _ => 0)))), (r0, .inr (6, [.int 1, .int 0, .int 0, .int 0, .ref a0])), (a0, .inl (cT 0, 25, .inl (fun _ => (-1))))]) rfl hP hD hK hN hZ hS hA [6, 7, 2, 3] rfl (by decide) (ci := 10) (q0 := 6) rfl rfl) rfl rfl hl.1 rfl (lv_room (Nat.le_of_ble_eq_true rfl)) dX11_run_40 ⟨(Nat.le_of_ble_eq_true rfl), (Nat.le_of_ble_eq_true rfl)⟩) hP hD hS hA [6, 7, 2, 3] [0, 1, 4, 5] rfl rfl (by decide) (by decide) (Nat.le_of_ble_eq_true rfl) (Nat.le_of_ble_eq_true rfl) (fun u H locs h_8 hP hD hS => ?_)
              obtain ⟨f_9, rfl⟩ : ∃ z, z = u := ⟨_, rfl⟩
              have hP : va_P g vwCl [(o, .inr (11, [.ref ra, .ref tx, .ref lt, .int 0, .ref wl, .ref rw, .ref kA, .ref bA, .ref lA, .null, .null])), (ra, .inl (cT 3, 2, .inr (.inr (.inr (.inr (va_up (va_up (fun _ => none) 0 (some r0)) 1 (some r1))))))), (r1, .inr (6, [.int 1, .int 0, .int 0, .int 0, .ref a1])), (a1, .inl (cT 0, 25, .inl (fun _ => (-1)))), (wl, .inr (10, [.ref sa, .ref sb, .int 0, .int 0, .int 0, .int 0, .int 0])), (sa, .inl (cT 1, 5, .inr (.inl f_9))), (r0, .inr (6, [.int 1, .int 0, .int 0, .int 0, .ref a0])), (a0, .inl (cT 0, 25, .inl (fun _ => (-1))))] H := hP
              have hD : va_D A [(o, .inr (11, [.ref ra, .ref tx, .ref lt, .int 0, .ref wl, .ref rw, .ref kA, .ref bA, .ref lA, .null, .null])), (ra, .inl (cT 3, 2, .inr (.inr (.inr (.inr (va_up (va_up (fun _ => none) 0 (some r0)) 1 (some r1))))))), (r1, .inr (6, [.int 1, .int 0, .int 0, .int 0, .ref a1])), (a1, .inl (cT 0, 25, .inl (fun _ => (-1)))), (wl, .inr (10, [.ref sa, .ref sb, .int 0, .int 0, .int 0, .int 0, .int 0])), (sa, .inl (cT 1, 5, .inr (.inl f_9))), (r0, .inr (6, [.int 1, .int 0, .int 0, .int 0, .ref a0])), (a0, .inl (cT 0, 25, .inl (fun _ => (-1))))] := hD
              refine lv_iload_n hx hb dX11_run_43 rfl (lv_at hl 2 rfl) ?_
              refine lv_tableIn (tgt := 76) (off := 32) hx hb dX11_run_44 (by decide) (by decide) (by decide) (by decide) ?_
              refine lv_aload_n hx hb dX11_run_76 rfl (lv_at hl 0 rfl) ?_
              refine va_get (C := RX11) (T := TX11) (N := 11) (v := .ref wl) hx hb hts hi_X11_run_X11 hown hK hP 0 rfl rfl 4 (by decide) (hts (.fieldLink RX11 33 "BothWays" "walk" "LBothWays$Walk;") (by decide +kernel)) (fun _ h => h) rfl dX11_run_77 ?_
              refine va_getN (C := RX10) (T := TX10) (N := 7) (v := .int 0) hx hb hts hi_X11_run_X10 hown hK hP 4 rfl rfl 3 (by decide) (nf_4 hN) (fun _ h => h) rfl dX11_run_80 ?_
              exact rt_i hx hb hr hlocks hQ hP hD hS () [] dX11_run_83 rfl (Nat.le_of_ble_eq_true rfl) (Nat.le_of_ble_eq_true rfl) rfl (by decide) (lf_c_run_2 c_5 c_6)
            · skip
              refine lv_aload_n hx hb dX11_run_22 rfl (lv_at hl 0 rfl) ?_
              refine va_get (C := RX11) (T := TX11) (N := 11) (v := .ref wl) hx hb hts hi_X11_run_X11 hown hK hP 0 rfl rfl 4 (by decide) (hts (.fieldLink RX11 33 "BothWays" "walk" "LBothWays$Walk;") (by decide +kernel)) (fun _ h => h) rfl dX11_run_23 ?_
              refine lv_aload_n hx hb dX11_run_26 rfl (lv_at hl 0 rfl) ?_
              refine va_get (C := RX11) (T := TX11) (N := 11) (v := .ref ra) hx hb hts hi_X11_run_X11 hown hK hP 0 rfl rfl 0 (by decide) (hts (.fieldLink RX11 11 "BothWays" "readers" "[LBothWays$Reader;") (by decide +kernel)) (fun _ h => h) rfl dX11_run_27 ?_
              refine lv_iload_n hx hb dX11_run_30 rfl (lv_at hl 1 rfl) ?_
              refine w_aald (v := .ref r0) hx hb hK hP 1 3 rfl rfl dX11_run_31 (inC (by decide)) rfl ?_
              refine lv_aload_n hx hb dX11_run_32 rfl (lv_at hl 0 rfl) ?_
              refine va_get (C := RX11) (T := TX11) (N := 11) (v := .ref lt) hx hb hts hi_X11_run_X11 hown hK hP 0 rfl rfl 2 (by decide) (hts (.fieldLink RX11 22 "BothWays" "letters" "[I") (by decide +kernel)) (fun _ h => h) rfl dX11_run_33 ?_
              refine lv_aload_n hx hb dX11_run_36 rfl (lv_at hl 0 rfl) ?_
              refine va_get (C := RX11) (T := TX11) (N := 11) (v := .int 0) hx hb hts hi_X11_run_X11 hown hK hP 0 rfl rfl 3 (by decide) (hts (.fieldLink RX11 26 "BothWays" "length" "I") (by decide +kernel)) (fun _ h => h) rfl dX11_run_37 ?_
              refine cj_v 0 0 (wr := [(o, .inr (11, [.ref ra, .ref tx, .ref lt, .int 0, .ref wl, .ref rw, .ref kA, .ref bA, .ref lA, .null, .null])), (ra, .inl (cT 3, 2, .inr (.inr (.inr (.inr (va_up (va_up (fun _ => none) 0 (some r0)) 1 (some r1))))))), (r1, .inr (6, [.int 1, .int 0, .int 0, .int 0, .ref a1])), (a1, .inl (cT 0, 25, .inl (fun _ => (-1))))]) (va_runV (As := [.ref r0, .ref lt, .int 0]) (rest := []) ⟨hx, hb, hml, hown, hts⟩ (c_W_go l g cT H.size wl sa sb 0 0 0 0 0 (fun _ => 0) r0 a0 0 lt 0 (by decide)) (cwV 3 hts gX11_run_X10_go rfl rfl rfl yd_X10_go ⟨(Nat.le_of_ble_eq_true rfl), (Nat.le_of_ble_eq_true rfl)⟩) (preV (wc := [(wl, .inr (10, [.ref sa, .ref sb, .int 0, .int 0, .int 0, .int 0, .int 0])), (sa, .inl (cT 1, 5, .inr (.inl (fun _ => 0)))), (r0, .inr (6, [.int 1, .int 0, .int 0, .int 0, .ref a0])), (a0, .inl (cT 0, 25, .inl (fun _ => (-1))))]) rfl hP hD hK hN hZ hS hA [6, 7, 2, 3] rfl (by decide) (ci := 10) (q0 := 6) rfl rfl) rfl rfl hl.1 rfl (lv_room (Nat.le_of_ble_eq_true rfl)) dX11_run_40 ⟨(Nat.le_of_ble_eq_true rfl), (Nat.le_of_ble_eq_true rfl)⟩) hP hD hS hA [6, 7, 2, 3] [0, 1, 4, 5] rfl rfl (by decide) (by decide) (Nat.le_of_ble_eq_true rfl) (Nat.le_of_ble_eq_true rfl) (fun u H locs h_11 hP hD hS => ?_)
              obtain ⟨f_12, rfl⟩ : ∃ z, z = u := ⟨_, rfl⟩
              have hP : va_P g vwCl [(o, .inr (11, [.ref ra, .ref tx, .ref lt, .int 0, .ref wl, .ref rw, .ref kA, .ref bA, .ref lA, .null, .null])), (ra, .inl (cT 3, 2, .inr (.inr (.inr (.inr (va_up (va_up (fun _ => none) 0 (some r0)) 1 (some r1))))))), (r1, .inr (6, [.int 1, .int 0, .int 0, .int 0, .ref a1])), (a1, .inl (cT 0, 25, .inl (fun _ => (-1)))), (wl, .inr (10, [.ref sa, .ref sb, .int 0, .int 0, .int 0, .int 0, .int 0])), (sa, .inl (cT 1, 5, .inr (.inl f_12))), (r0, .inr (6, [.int 1, .int 0, .int 0, .int 0, .ref a0])), (a0, .inl (cT 0, 25, .inl (fun _ => (-1))))] H := hP
              have hD : va_D A [(o, .inr (11, [.ref ra, .ref tx, .ref lt, .int 0, .ref wl, .ref rw, .ref kA, .ref bA, .ref lA, .null, .null])), (ra, .inl (cT 3, 2, .inr (.inr (.inr (.inr (va_up (va_up (fun _ => none) 0 (some r0)) 1 (some r1))))))), (r1, .inr (6, [.int 1, .int 0, .int 0, .int 0, .ref a1])), (a1, .inl (cT 0, 25, .inl (fun _ => (-1)))), (wl, .inr (10, [.ref sa, .ref sb, .int 0, .int 0, .int 0, .int 0, .int 0])), (sa, .inl (cT 1, 5, .inr (.inl f_12))), (r0, .inr (6, [.int 1, .int 0, .int 0, .int 0, .ref a0])), (a0, .inl (cT 0, 25, .inl (fun _ => (-1))))] := hD
              refine lv_iload_n hx hb dX11_run_43 rfl (lv_at hl 2 rfl) ?_
              refine lv_tableIn (tgt := 84) (off := 40) hx hb dX11_run_44 (by decide) (by decide) (by decide) (by decide) ?_
              refine lv_aload_n hx hb dX11_run_84 rfl (lv_at hl 0 rfl) ?_
              refine va_get (C := RX11) (T := TX11) (N := 11) (v := .ref wl) hx hb hts hi_X11_run_X11 hown hK hP 0 rfl rfl 4 (by decide) (hts (.fieldLink RX11 33 "BothWays" "walk" "LBothWays$Walk;") (by decide +kernel)) (fun _ h => h) rfl dX11_run_85 ?_
              refine va_getN (C := RX10) (T := TX10) (N := 7) (v := .int 0) hx hb hts hi_X11_run_X10 hown hK hP 4 rfl rfl 4 (by decide) (nf_5 hN) (fun _ h => h) rfl dX11_run_88 ?_
              exact rt_i hx hb hr hlocks hQ hP hD hS () [] dX11_run_91 rfl (Nat.le_of_ble_eq_true rfl) (Nat.le_of_ble_eq_true rfl) rfl (by decide) (lf_c_run_3 c_5 c_6)
            · skip
              refine lv_aload_n hx hb dX11_run_22 rfl (lv_at hl 0 rfl) ?_
              refine va_get (C := RX11) (T := TX11) (N := 11) (v := .ref wl) hx hb hts hi_X11_run_X11 hown hK hP 0 rfl rfl 4 (by decide) (hts (.fieldLink RX11 33 "BothWays" "walk" "LBothWays$Walk;") (by decide +kernel)) (fun _ h => h) rfl dX11_run_23 ?_
              refine lv_aload_n hx hb dX11_run_26 rfl (lv_at hl 0 rfl) ?_
              refine va_get (C := RX11) (T := TX11) (N := 11) (v := .ref ra) hx hb hts hi_X11_run_X11 hown hK hP 0 rfl rfl 0 (by decide) (hts (.fieldLink RX11 11 "BothWays" "readers" "[LBothWays$Reader;") (by decide +kernel)) (fun _ h => h) rfl dX11_run_27 ?_
              refine lv_iload_n hx hb dX11_run_30 rfl (lv_at hl 1 rfl) ?_
              refine w_aald (v := .ref r0) hx hb hK hP 1 3 rfl rfl dX11_run_31 (inC (by decide)) rfl ?_
              refine lv_aload_n hx hb dX11_run_32 rfl (lv_at hl 0 rfl) ?_
              refine va_get (C := RX11) (T := TX11) (N := 11) (v := .ref lt) hx hb hts hi_X11_run_X11 hown hK hP 0 rfl rfl 2 (by decide) (hts (.fieldLink RX11 22 "BothWays" "letters" "[I") (by decide +kernel)) (fun _ h => h) rfl dX11_run_33 ?_
              refine lv_aload_n hx hb dX11_run_36 rfl (lv_at hl 0 rfl) ?_
              refine va_get (C := RX11) (T := TX11) (N := 11) (v := .int 0) hx hb hts hi_X11_run_X11 hown hK hP 0 rfl rfl 3 (by decide) (hts (.fieldLink RX11 26 "BothWays" "length" "I") (by decide +kernel)) (fun _ h => h) rfl dX11_run_37 ?_
              refine cj_v 0 0 (wr := [(o, .inr (11, [.ref ra, .ref tx, .ref lt, .int 0, .ref wl, .ref rw, .ref kA, .ref bA, .ref lA, .null, .null])), (ra, .inl (cT 3, 2, .inr (.inr (.inr (.inr (va_up (va_up (fun _ => none) 0 (some r0)) 1 (some r1))))))), (r1, .inr (6, [.int 1, .int 0, .int 0, .int 0, .ref a1])), (a1, .inl (cT 0, 25, .inl (fun _ => (-1))))]) (va_runV (As := [.ref r0, .ref lt, .int 0]) (rest := []) ⟨hx, hb, hml, hown, hts⟩ (c_W_go l g cT H.size wl sa sb 0 0 0 0 0 (fun _ => 0) r0 a0 0 lt 0 (by decide)) (cwV 3 hts gX11_run_X10_go rfl rfl rfl yd_X10_go ⟨(Nat.le_of_ble_eq_true rfl), (Nat.le_of_ble_eq_true rfl)⟩) (preV (wc := [(wl, .inr (10, [.ref sa, .ref sb, .int 0, .int 0, .int 0, .int 0, .int 0])), (sa, .inl (cT 1, 5, .inr (.inl (fun _ => 0)))), (r0, .inr (6, [.int 1, .int 0, .int 0, .int 0, .ref a0])), (a0, .inl (cT 0, 25, .inl (fun _ => (-1))))]) rfl hP hD hK hN hZ hS hA [6, 7, 2, 3] rfl (by decide) (ci := 10) (q0 := 6) rfl rfl) rfl rfl hl.1 rfl (lv_room (Nat.le_of_ble_eq_true rfl)) dX11_run_40 ⟨(Nat.le_of_ble_eq_true rfl), (Nat.le_of_ble_eq_true rfl)⟩) hP hD hS hA [6, 7, 2, 3] [0, 1, 4, 5] rfl rfl (by decide) (by decide) (Nat.le_of_ble_eq_true rfl) (Nat.le_of_ble_eq_true rfl) (fun u H locs h_14 hP hD hS => ?_)
              obtain ⟨f_15, rfl⟩ : ∃ z, z = u := ⟨_, rfl⟩
              have hP : va_P g vwCl [(o, .inr (11, [.ref ra, .ref tx, .ref lt, .int 0, .ref wl, .ref rw, .ref kA, .ref bA, .ref lA, .null, .null])), (ra, .inl (cT 3, 2, .inr (.inr (.inr (.inr (va_up (va_up (fun _ => none) 0 (some r0)) 1 (some r1))))))), (r1, .inr (6, [.int 1, .int 0, .int 0, .int 0, .ref a1])), (a1, .inl (cT 0, 25, .inl (fun _ => (-1)))), (wl, .inr (10, [.ref sa, .ref sb, .int 0, .int 0, .int 0, .int 0, .int 0])), (sa, .inl (cT 1, 5, .inr (.inl f_15))), (r0, .inr (6, [.int 1, .int 0, .int 0, .int 0, .ref a0])), (a0, .inl (cT 0, 25, .inl (fun _ => (-1))))] H := hP
              have hD : va_D A [(o, .inr (11, [.ref ra, .ref tx, .ref lt, .int 0, .ref wl, .ref rw, .ref kA, .ref bA, .ref lA, .null, .null])), (ra, .inl (cT 3, 2, .inr (.inr (.inr (.inr (va_up (va_up (fun _ => none) 0 (some r0)) 1 (some r1))))))), (r1, .inr (6, [.int 1, .int 0, .int 0, .int 0, .ref a1])), (a1, .inl (cT 0, 25, .inl (fun _ => (-1)))), (wl, .inr (10, [.ref sa, .ref sb, .int 0, .int 0, .int 0, .int 0, .int 0])), (sa, .inl (cT 1, 5, .inr (.inl f_15))), (r0, .inr (6, [.int 1, .int 0, .int 0, .int 0, .ref a0])), (a0, .inl (cT 0, 25, .inl (fun _ => (-1))))] := hD
              refine lv_iload_n hx hb dX11_run_43 rfl (lv_at hl 2 rfl) ?_
              refine lv_tableIn (tgt := 92) (off := 48) hx hb dX11_run_44 (by decide) (by decide) (by decide) (by decide) ?_
              refine lv_aload_n hx hb dX11_run_92 rfl (lv_at hl 0 rfl) ?_
              refine va_get (C := RX11) (T := TX11) (N := 11) (v := .ref wl) hx hb hts hi_X11_run_X11 hown hK hP 0 rfl rfl 4 (by decide) (hts (.fieldLink RX11 33 "BothWays" "walk" "LBothWays$Walk;") (by decide +kernel)) (fun _ h => h) rfl dX11_run_93 ?_
              refine va_getN (C := RX10) (T := TX10) (N := 7) (v := .int 0) hx hb hts hi_X11_run_X10 hown hK hP 4 rfl rfl 5 (by decide) (nf_6 hN) (fun _ h => h) rfl dX11_run_96 ?_
              exact rt_i hx hb hr hlocks hQ hP hD hS () [] dX11_run_99 rfl (Nat.le_of_ble_eq_true rfl) (Nat.le_of_ble_eq_true rfl) rfl (by decide) (lf_c_run_4 c_5 c_6)
            · skip
              refine lv_aload_n hx hb dX11_run_22 rfl (lv_at hl 0 rfl) ?_
              refine va_get (C := RX11) (T := TX11) (N := 11) (v := .ref wl) hx hb hts hi_X11_run_X11 hown hK hP 0 rfl rfl 4 (by decide) (hts (.fieldLink RX11 33 "BothWays" "walk" "LBothWays$Walk;") (by decide +kernel)) (fun _ h => h) rfl dX11_run_23 ?_
              refine lv_aload_n hx hb dX11_run_26 rfl (lv_at hl 0 rfl) ?_
              refine va_get (C := RX11) (T := TX11) (N := 11) (v := .ref ra) hx hb hts hi_X11_run_X11 hown hK hP 0 rfl rfl 0 (by decide) (hts (.fieldLink RX11 11 "BothWays" "readers" "[LBothWays$Reader;") (by decide +kernel)) (fun _ h => h) rfl dX11_run_27 ?_
              refine lv_iload_n hx hb dX11_run_30 rfl (lv_at hl 1 rfl) ?_
              refine w_aald (v := .ref r0) hx hb hK hP 1 3 rfl rfl dX11_run_31 (inC (by decide)) rfl ?_
              refine lv_aload_n hx hb dX11_run_32 rfl (lv_at hl 0 rfl) ?_
              refine va_get (C := RX11) (T := TX11) (N := 11) (v := .ref lt) hx hb hts hi_X11_run_X11 hown hK hP 0 rfl rfl 2 (by decide) (hts (.fieldLink RX11 22 "BothWays" "letters" "[I") (by decide +kernel)) (fun _ h => h) rfl dX11_run_33 ?_
              refine lv_aload_n hx hb dX11_run_36 rfl (lv_at hl 0 rfl) ?_
              refine va_get (C := RX11) (T := TX11) (N := 11) (v := .int 0) hx hb hts hi_X11_run_X11 hown hK hP 0 rfl rfl 3 (by decide) (hts (.fieldLink RX11 26 "BothWays" "length" "I") (by decide +kernel)) (fun _ h => h) rfl dX11_run_37 ?_
              refine cj_v 0 0 (wr := [(o, .inr (11, [.ref ra, .ref tx, .ref lt, .int 0, .ref wl, .ref rw, .ref kA, .ref bA, .ref lA, .null, .null])), (ra, .inl (cT 3, 2, .inr (.inr (.inr (.inr (va_up (va_up (fun _ => none) 0 (some r0)) 1 (some r1))))))), (r1, .inr (6, [.int 1, .int 0, .int 0, .int 0, .ref a1])), (a1, .inl (cT 0, 25, .inl (fun _ => (-1))))]) (va_runV (As := [.ref r0, .ref lt, .int 0]) (rest := []) ⟨hx, hb, hml, hown, hts⟩ (c_W_go l g cT H.size wl sa sb 0 0 0 0 0 (fun _ => 0) r0 a0 0 lt 0 (by decide)) (cwV 3 hts gX11_run_X10_go rfl rfl rfl yd_X10_go ⟨(Nat.le_of_ble_eq_true rfl), (Nat.le_of_ble_eq_true rfl)⟩) (preV (wc := [(wl, .inr (10, [.ref sa, .ref sb, .int 0, .int 0, .int 0, .int 0, .int 0])), (sa, .inl (cT 1, 5, .inr (.inl (fun _ => 0)))), (r0, .inr (6, [.int 1, .int 0, .int 0, .int 0, .ref a0])), (a0, .inl (cT 0, 25, .inl (fun _ => (-1))))]) rfl hP hD hK hN hZ hS hA [6, 7, 2, 3] rfl (by decide) (ci := 10) (q0 := 6) rfl rfl) rfl rfl hl.1 rfl (lv_room (Nat.le_of_ble_eq_true rfl)) dX11_run_40 ⟨(Nat.le_of_ble_eq_true rfl), (Nat.le_of_ble_eq_true rfl)⟩) hP hD hS hA [6, 7, 2, 3] [0, 1, 4, 5] rfl rfl (by decide) (by decide) (Nat.le_of_ble_eq_true rfl) (Nat.le_of_ble_eq_true rfl) (fun u H locs h_17 hP hD hS => ?_)
              obtain ⟨f_18, rfl⟩ : ∃ z, z = u := ⟨_, rfl⟩
              have hP : va_P g vwCl [(o, .inr (11, [.ref ra, .ref tx, .ref lt, .int 0, .ref wl, .ref rw, .ref kA, .ref bA, .ref lA, .null, .null])), (ra, .inl (cT 3, 2, .inr (.inr (.inr (.inr (va_up (va_up (fun _ => none) 0 (some r0)) 1 (some r1))))))), (r1, .inr (6, [.int 1, .int 0, .int 0, .int 0, .ref a1])), (a1, .inl (cT 0, 25, .inl (fun _ => (-1)))), (wl, .inr (10, [.ref sa, .ref sb, .int 0, .int 0, .int 0, .int 0, .int 0])), (sa, .inl (cT 1, 5, .inr (.inl f_18))), (r0, .inr (6, [.int 1, .int 0, .int 0, .int 0, .ref a0])), (a0, .inl (cT 0, 25, .inl (fun _ => (-1))))] H := hP
              have hD : va_D A [(o, .inr (11, [.ref ra, .ref tx, .ref lt, .int 0, .ref wl, .ref rw, .ref kA, .ref bA, .ref lA, .null, .null])), (ra, .inl (cT 3, 2, .inr (.inr (.inr (.inr (va_up (va_up (fun _ => none) 0 (some r0)) 1 (some r1))))))), (r1, .inr (6, [.int 1, .int 0, .int 0, .int 0, .ref a1])), (a1, .inl (cT 0, 25, .inl (fun _ => (-1)))), (wl, .inr (10, [.ref sa, .ref sb, .int 0, .int 0, .int 0, .int 0, .int 0])), (sa, .inl (cT 1, 5, .inr (.inl f_18))), (r0, .inr (6, [.int 1, .int 0, .int 0, .int 0, .ref a0])), (a0, .inl (cT 0, 25, .inl (fun _ => (-1))))] := hD
              refine lv_iload_n hx hb dX11_run_43 rfl (lv_at hl 2 rfl) ?_
              refine lv_tableIn (tgt := 100) (off := 56) hx hb dX11_run_44 (by decide) (by decide) (by decide) (by decide) ?_
              refine lv_aload_n hx hb dX11_run_100 rfl (lv_at hl 0 rfl) ?_
              refine va_get (C := RX11) (T := TX11) (N := 11) (v := .ref wl) hx hb hts hi_X11_run_X11 hown hK hP 0 rfl rfl 4 (by decide) (hts (.fieldLink RX11 33 "BothWays" "walk" "LBothWays$Walk;") (by decide +kernel)) (fun _ h => h) rfl dX11_run_101 ?_
              refine va_getN (C := RX10) (T := TX10) (N := 7) (v := .int 0) hx hb hts hi_X11_run_X10 hown hK hP 4 rfl rfl 6 (by decide) (nf_7 hN) (fun _ h => h) rfl dX11_run_104 ?_
              exact rt_i hx hb hr hlocks hQ hP hD hS () [] dX11_run_107 rfl (Nat.le_of_ble_eq_true rfl) (Nat.le_of_ble_eq_true rfl) rfl (by decide) (lf_c_run_5 c_5 c_6)
            · skip
              refine lv_aload_n hx hb dX11_run_22 rfl (lv_at hl 0 rfl) ?_
              refine va_get (C := RX11) (T := TX11) (N := 11) (v := .ref wl) hx hb hts hi_X11_run_X11 hown hK hP 0 rfl rfl 4 (by decide) (hts (.fieldLink RX11 33 "BothWays" "walk" "LBothWays$Walk;") (by decide +kernel)) (fun _ h => h) rfl dX11_run_23 ?_
              refine lv_aload_n hx hb dX11_run_26 rfl (lv_at hl 0 rfl) ?_
              refine va_get (C := RX11) (T := TX11) (N := 11) (v := .ref ra) hx hb hts hi_X11_run_X11 hown hK hP 0 rfl rfl 0 (by decide) (hts (.fieldLink RX11 11 "BothWays" "readers" "[LBothWays$Reader;") (by decide +kernel)) (fun _ h => h) rfl dX11_run_27 ?_
              refine lv_iload_n hx hb dX11_run_30 rfl (lv_at hl 1 rfl) ?_
              refine w_aald (v := .ref r0) hx hb hK hP 1 3 rfl rfl dX11_run_31 (inC (by decide)) rfl ?_
              refine lv_aload_n hx hb dX11_run_32 rfl (lv_at hl 0 rfl) ?_
              refine va_get (C := RX11) (T := TX11) (N := 11) (v := .ref lt) hx hb hts hi_X11_run_X11 hown hK hP 0 rfl rfl 2 (by decide) (hts (.fieldLink RX11 22 "BothWays" "letters" "[I") (by decide +kernel)) (fun _ h => h) rfl dX11_run_33 ?_
              refine lv_aload_n hx hb dX11_run_36 rfl (lv_at hl 0 rfl) ?_
              refine va_get (C := RX11) (T := TX11) (N := 11) (v := .int 0) hx hb hts hi_X11_run_X11 hown hK hP 0 rfl rfl 3 (by decide) (hts (.fieldLink RX11 26 "BothWays" "length" "I") (by decide +kernel)) (fun _ h => h) rfl dX11_run_37 ?_
              refine cj_v 0 0 (wr := [(o, .inr (11, [.ref ra, .ref tx, .ref lt, .int 0, .ref wl, .ref rw, .ref kA, .ref bA, .ref lA, .null, .null])), (ra, .inl (cT 3, 2, .inr (.inr (.inr (.inr (va_up (va_up (fun _ => none) 0 (some r0)) 1 (some r1))))))), (r1, .inr (6, [.int 1, .int 0, .int 0, .int 0, .ref a1])), (a1, .inl (cT 0, 25, .inl (fun _ => (-1))))]) (va_runV (As := [.ref r0, .ref lt, .int 0]) (rest := []) ⟨hx, hb, hml, hown, hts⟩ (c_W_go l g cT H.size wl sa sb 0 0 0 0 0 (fun _ => 0) r0 a0 0 lt 0 (by decide)) (cwV 3 hts gX11_run_X10_go rfl rfl rfl yd_X10_go ⟨(Nat.le_of_ble_eq_true rfl), (Nat.le_of_ble_eq_true rfl)⟩) (preV (wc := [(wl, .inr (10, [.ref sa, .ref sb, .int 0, .int 0, .int 0, .int 0, .int 0])), (sa, .inl (cT 1, 5, .inr (.inl (fun _ => 0)))), (r0, .inr (6, [.int 1, .int 0, .int 0, .int 0, .ref a0])), (a0, .inl (cT 0, 25, .inl (fun _ => (-1))))]) rfl hP hD hK hN hZ hS hA [6, 7, 2, 3] rfl (by decide) (ci := 10) (q0 := 6) rfl rfl) rfl rfl hl.1 rfl (lv_room (Nat.le_of_ble_eq_true rfl)) dX11_run_40 ⟨(Nat.le_of_ble_eq_true rfl), (Nat.le_of_ble_eq_true rfl)⟩) hP hD hS hA [6, 7, 2, 3] [0, 1, 4, 5] rfl rfl (by decide) (by decide) (Nat.le_of_ble_eq_true rfl) (Nat.le_of_ble_eq_true rfl) (fun u H locs h_20 hP hD hS => ?_)
              obtain ⟨f_21, rfl⟩ : ∃ z, z = u := ⟨_, rfl⟩
              have hP : va_P g vwCl [(o, .inr (11, [.ref ra, .ref tx, .ref lt, .int 0, .ref wl, .ref rw, .ref kA, .ref bA, .ref lA, .null, .null])), (ra, .inl (cT 3, 2, .inr (.inr (.inr (.inr (va_up (va_up (fun _ => none) 0 (some r0)) 1 (some r1))))))), (r1, .inr (6, [.int 1, .int 0, .int 0, .int 0, .ref a1])), (a1, .inl (cT 0, 25, .inl (fun _ => (-1)))), (wl, .inr (10, [.ref sa, .ref sb, .int 0, .int 0, .int 0, .int 0, .int 0])), (sa, .inl (cT 1, 5, .inr (.inl f_21))), (r0, .inr (6, [.int 1, .int 0, .int 0, .int 0, .ref a0])), (a0, .inl (cT 0, 25, .inl (fun _ => (-1))))] H := hP
              have hD : va_D A [(o, .inr (11, [.ref ra, .ref tx, .ref lt, .int 0, .ref wl, .ref rw, .ref kA, .ref bA, .ref lA, .null, .null])), (ra, .inl (cT 3, 2, .inr (.inr (.inr (.inr (va_up (va_up (fun _ => none) 0 (some r0)) 1 (some r1))))))), (r1, .inr (6, [.int 1, .int 0, .int 0, .int 0, .ref a1])), (a1, .inl (cT 0, 25, .inl (fun _ => (-1)))), (wl, .inr (10, [.ref sa, .ref sb, .int 0, .int 0, .int 0, .int 0, .int 0])), (sa, .inl (cT 1, 5, .inr (.inl f_21))), (r0, .inr (6, [.int 1, .int 0, .int 0, .int 0, .ref a0])), (a0, .inl (cT 0, 25, .inl (fun _ => (-1))))] := hD
              refine lv_iload_n hx hb dX11_run_43 rfl (lv_at hl 2 rfl) ?_
              refine lv_tableOut (tgt := 108) hx hb dX11_run_44 (by decide) (by decide) ?_
              refine lv_aload_n hx hb dX11_run_108 rfl (lv_at hl 0 rfl) ?_
              refine va_get (C := RX11) (T := TX11) (N := 11) (v := .ref wl) hx hb hts hi_X11_run_X11 hown hK hP 0 rfl rfl 4 (by decide) (hts (.fieldLink RX11 33 "BothWays" "walk" "LBothWays$Walk;") (by decide +kernel)) (fun _ h => h) rfl dX11_run_109 ?_
              refine va_getN (C := RX10) (T := TX10) (N := 7) (v := .int 0) hx hb hts hi_X11_run_X10 hown hK hP 4 rfl rfl 2 (by decide) (nf_2 hN) (fun _ h => h) rfl dX11_run_112 ?_
              exact rt_i hx hb hr hlocks hQ hP hD hS () [] dX11_run_115 rfl (Nat.le_of_ble_eq_true rfl) (Nat.le_of_ble_eq_true rfl) rfl (by decide) (lf_c_run_6 c_5 c_6)
          · skip
            refine lv_bipush (v := (-3)) hx hb dX11_run_19 (by decide) ?_
            exact rt_i hx hb hr hlocks hQ hP hD hS () [] dX11_run_21 rfl (Nat.le_of_ble_eq_true rfl) (Nat.le_of_ble_eq_true rfl) rfl (by decide) (lf_c_run_7 w c_5 c_6)
      · skip
        refine if_ne_t hx hb 10 dX11_run_4 (by decide) (by decide) ?_
        refine lv_iload_n hx hb dX11_run_10 rfl (lv_at hl 2 rfl) ?_
        refine lv_if_lt (tgt := 19) hx hb dX11_run_11 (by decide) (fun c_22 => ?_) (fun c_22 => ?_)
        · skip
          refine lv_bipush (v := (-3)) hx hb dX11_run_19 (by decide) ?_
          exact rt_i hx hb hr hlocks hQ hP hD hS () [] dX11_run_21 rfl (Nat.le_of_ble_eq_true rfl) (Nat.le_of_ble_eq_true rfl) rfl (by decide) (lf_c_run_8 w c_22)
        · skip
          refine lv_iload_n hx hb dX11_run_14 rfl (lv_at hl 2 rfl) ?_
          refine lv_iconst (v := 4) hx hb dX11_run_15 (by decide) ?_
          refine lv_icmp_le (tgt := 22) hx hb dX11_run_16 (by decide) (fun c_23 => ?_) (fun c_23 => ?_)
          · skip
            rcases (lf_c_run_9 w c_22 c_23) with rfl | rfl | rfl | rfl | rfl
            · skip
              refine lv_aload_n hx hb dX11_run_22 rfl (lv_at hl 0 rfl) ?_
              refine va_get (C := RX11) (T := TX11) (N := 11) (v := .ref wl) hx hb hts hi_X11_run_X11 hown hK hP 0 rfl rfl 4 (by decide) (hts (.fieldLink RX11 33 "BothWays" "walk" "LBothWays$Walk;") (by decide +kernel)) (fun _ h => h) rfl dX11_run_23 ?_
              refine lv_aload_n hx hb dX11_run_26 rfl (lv_at hl 0 rfl) ?_
              refine va_get (C := RX11) (T := TX11) (N := 11) (v := .ref ra) hx hb hts hi_X11_run_X11 hown hK hP 0 rfl rfl 0 (by decide) (hts (.fieldLink RX11 11 "BothWays" "readers" "[LBothWays$Reader;") (by decide +kernel)) (fun _ h => h) rfl dX11_run_27 ?_
              refine lv_iload_n hx hb dX11_run_30 rfl (lv_at hl 1 rfl) ?_
              refine w_aald (v := .ref r1) hx hb hK hP 1 3 rfl rfl dX11_run_31 (inC (by decide)) rfl ?_
              refine lv_aload_n hx hb dX11_run_32 rfl (lv_at hl 0 rfl) ?_
              refine va_get (C := RX11) (T := TX11) (N := 11) (v := .ref lt) hx hb hts hi_X11_run_X11 hown hK hP 0 rfl rfl 2 (by decide) (hts (.fieldLink RX11 22 "BothWays" "letters" "[I") (by decide +kernel)) (fun _ h => h) rfl dX11_run_33 ?_
              refine lv_aload_n hx hb dX11_run_36 rfl (lv_at hl 0 rfl) ?_
              refine va_get (C := RX11) (T := TX11) (N := 11) (v := .int 0) hx hb hts hi_X11_run_X11 hown hK hP 0 rfl rfl 3 (by decide) (hts (.fieldLink RX11 26 "BothWays" "length" "I") (by decide +kernel)) (fun _ h => h) rfl dX11_run_37 ?_
              refine cj_v 0 0 (wr := [(o, .inr (11, [.ref ra, .ref tx, .ref lt, .int 0, .ref wl, .ref rw, .ref kA, .ref bA, .ref lA, .null, .null])), (ra, .inl (cT 3, 2, .inr (.inr (.inr (.inr (va_up (va_up (fun _ => none) 0 (some r0)) 1 (some r1))))))), (r0, .inr (6, [.int 1, .int 0, .int 0, .int 0, .ref a0])), (a0, .inl (cT 0, 25, .inl (fun _ => (-1))))]) (va_runV (As := [.ref r1, .ref lt, .int 0]) (rest := []) ⟨hx, hb, hml, hown, hts⟩ (c_W_go l g cT H.size wl sa sb 0 0 0 0 0 (fun _ => 0) r1 a1 0 lt 0 (by decide)) (cwV 3 hts gX11_run_X10_go rfl rfl rfl yd_X10_go ⟨(Nat.le_of_ble_eq_true rfl), (Nat.le_of_ble_eq_true rfl)⟩) (preV (wc := [(wl, .inr (10, [.ref sa, .ref sb, .int 0, .int 0, .int 0, .int 0, .int 0])), (sa, .inl (cT 1, 5, .inr (.inl (fun _ => 0)))), (r1, .inr (6, [.int 1, .int 0, .int 0, .int 0, .ref a1])), (a1, .inl (cT 0, 25, .inl (fun _ => (-1))))]) rfl hP hD hK hN hZ hS hA [6, 7, 4, 5] rfl (by decide) (ci := 10) (q0 := 6) rfl rfl) rfl rfl hl.1 rfl (lv_room (Nat.le_of_ble_eq_true rfl)) dX11_run_40 ⟨(Nat.le_of_ble_eq_true rfl), (Nat.le_of_ble_eq_true rfl)⟩) hP hD hS hA [6, 7, 4, 5] [0, 1, 2, 3] rfl rfl (by decide) (by decide) (Nat.le_of_ble_eq_true rfl) (Nat.le_of_ble_eq_true rfl) (fun u H locs h_25 hP hD hS => ?_)
              obtain ⟨f_26, rfl⟩ : ∃ z, z = u := ⟨_, rfl⟩
              have hP : va_P g vwCl [(o, .inr (11, [.ref ra, .ref tx, .ref lt, .int 0, .ref wl, .ref rw, .ref kA, .ref bA, .ref lA, .null, .null])), (ra, .inl (cT 3, 2, .inr (.inr (.inr (.inr (va_up (va_up (fun _ => none) 0 (some r0)) 1 (some r1))))))), (r0, .inr (6, [.int 1, .int 0, .int 0, .int 0, .ref a0])), (a0, .inl (cT 0, 25, .inl (fun _ => (-1)))), (wl, .inr (10, [.ref sa, .ref sb, .int 0, .int 0, .int 0, .int 0, .int 0])), (sa, .inl (cT 1, 5, .inr (.inl f_26))), (r1, .inr (6, [.int 1, .int 0, .int 0, .int 0, .ref a1])), (a1, .inl (cT 0, 25, .inl (fun _ => (-1))))] H := hP
              have hD : va_D A [(o, .inr (11, [.ref ra, .ref tx, .ref lt, .int 0, .ref wl, .ref rw, .ref kA, .ref bA, .ref lA, .null, .null])), (ra, .inl (cT 3, 2, .inr (.inr (.inr (.inr (va_up (va_up (fun _ => none) 0 (some r0)) 1 (some r1))))))), (r0, .inr (6, [.int 1, .int 0, .int 0, .int 0, .ref a0])), (a0, .inl (cT 0, 25, .inl (fun _ => (-1)))), (wl, .inr (10, [.ref sa, .ref sb, .int 0, .int 0, .int 0, .int 0, .int 0])), (sa, .inl (cT 1, 5, .inr (.inl f_26))), (r1, .inr (6, [.int 1, .int 0, .int 0, .int 0, .ref a1])), (a1, .inl (cT 0, 25, .inl (fun _ => (-1))))] := hD
              refine lv_iload_n hx hb dX11_run_43 rfl (lv_at hl 2 rfl) ?_
              refine lv_tableIn (tgt := 76) (off := 32) hx hb dX11_run_44 (by decide) (by decide) (by decide) (by decide) ?_
              refine lv_aload_n hx hb dX11_run_76 rfl (lv_at hl 0 rfl) ?_
              refine va_get (C := RX11) (T := TX11) (N := 11) (v := .ref wl) hx hb hts hi_X11_run_X11 hown hK hP 0 rfl rfl 4 (by decide) (hts (.fieldLink RX11 33 "BothWays" "walk" "LBothWays$Walk;") (by decide +kernel)) (fun _ h => h) rfl dX11_run_77 ?_
              refine va_getN (C := RX10) (T := TX10) (N := 7) (v := .int 0) hx hb hts hi_X11_run_X10 hown hK hP 4 rfl rfl 3 (by decide) (nf_4 hN) (fun _ h => h) rfl dX11_run_80 ?_
              exact rt_i hx hb hr hlocks hQ hP hD hS () [] dX11_run_83 rfl (Nat.le_of_ble_eq_true rfl) (Nat.le_of_ble_eq_true rfl) rfl (by decide) (lf_c_run_10 c_22 c_23)
            · skip
              refine lv_aload_n hx hb dX11_run_22 rfl (lv_at hl 0 rfl) ?_
              refine va_get (C := RX11) (T := TX11) (N := 11) (v := .ref wl) hx hb hts hi_X11_run_X11 hown hK hP 0 rfl rfl 4 (by decide) (hts (.fieldLink RX11 33 "BothWays" "walk" "LBothWays$Walk;") (by decide +kernel)) (fun _ h => h) rfl dX11_run_23 ?_
              refine lv_aload_n hx hb dX11_run_26 rfl (lv_at hl 0 rfl) ?_
              refine va_get (C := RX11) (T := TX11) (N := 11) (v := .ref ra) hx hb hts hi_X11_run_X11 hown hK hP 0 rfl rfl 0 (by decide) (hts (.fieldLink RX11 11 "BothWays" "readers" "[LBothWays$Reader;") (by decide +kernel)) (fun _ h => h) rfl dX11_run_27 ?_
              refine lv_iload_n hx hb dX11_run_30 rfl (lv_at hl 1 rfl) ?_
              refine w_aald (v := .ref r1) hx hb hK hP 1 3 rfl rfl dX11_run_31 (inC (by decide)) rfl ?_
              refine lv_aload_n hx hb dX11_run_32 rfl (lv_at hl 0 rfl) ?_
              refine va_get (C := RX11) (T := TX11) (N := 11) (v := .ref lt) hx hb hts hi_X11_run_X11 hown hK hP 0 rfl rfl 2 (by decide) (hts (.fieldLink RX11 22 "BothWays" "letters" "[I") (by decide +kernel)) (fun _ h => h) rfl dX11_run_33 ?_
              refine lv_aload_n hx hb dX11_run_36 rfl (lv_at hl 0 rfl) ?_
              refine va_get (C := RX11) (T := TX11) (N := 11) (v := .int 0) hx hb hts hi_X11_run_X11 hown hK hP 0 rfl rfl 3 (by decide) (hts (.fieldLink RX11 26 "BothWays" "length" "I") (by decide +kernel)) (fun _ h => h) rfl dX11_run_37 ?_
              refine cj_v 0 0 (wr := [(o, .inr (11, [.ref ra, .ref tx, .ref lt, .int 0, .ref wl, .ref rw, .ref kA, .ref bA, .ref lA, .null, .null])), (ra, .inl (cT 3, 2, .inr (.inr (.inr (.inr (va_up (va_up (fun _ => none) 0 (some r0)) 1 (some r1))))))), (r0, .inr (6, [.int 1, .int 0, .int 0, .int 0, .ref a0])), (a0, .inl (cT 0, 25, .inl (fun _ => (-1))))]) (va_runV (As := [.ref r1, .ref lt, .int 0]) (rest := []) ⟨hx, hb, hml, hown, hts⟩ (c_W_go l g cT H.size wl sa sb 0 0 0 0 0 (fun _ => 0) r1 a1 0 lt 0 (by decide)) (cwV 3 hts gX11_run_X10_go rfl rfl rfl yd_X10_go ⟨(Nat.le_of_ble_eq_true rfl), (Nat.le_of_ble_eq_true rfl)⟩) (preV (wc := [(wl, .inr (10, [.ref sa, .ref sb, .int 0, .int 0, .int 0, .int 0, .int 0])), (sa, .inl (cT 1, 5, .inr (.inl (fun _ => 0)))), (r1, .inr (6, [.int 1, .int 0, .int 0, .int 0, .ref a1])), (a1, .inl (cT 0, 25, .inl (fun _ => (-1))))]) rfl hP hD hK hN hZ hS hA [6, 7, 4, 5] rfl (by decide) (ci := 10) (q0 := 6) rfl rfl) rfl rfl hl.1 rfl (lv_room (Nat.le_of_ble_eq_true rfl)) dX11_run_40 ⟨(Nat.le_of_ble_eq_true rfl), (Nat.le_of_ble_eq_true rfl)⟩) hP hD hS hA [6, 7, 4, 5] [0, 1, 2, 3] rfl rfl (by decide) (by decide) (Nat.le_of_ble_eq_true rfl) (Nat.le_of_ble_eq_true rfl) (fun u H locs h_28 hP hD hS => ?_)
              obtain ⟨f_29, rfl⟩ : ∃ z, z = u := ⟨_, rfl⟩
              have hP : va_P g vwCl [(o, .inr (11, [.ref ra, .ref tx, .ref lt, .int 0, .ref wl, .ref rw, .ref kA, .ref bA, .ref lA, .null, .null])), (ra, .inl (cT 3, 2, .inr (.inr (.inr (.inr (va_up (va_up (fun _ => none) 0 (some r0)) 1 (some r1))))))), (r0, .inr (6, [.int 1, .int 0, .int 0, .int 0, .ref a0])), (a0, .inl (cT 0, 25, .inl (fun _ => (-1)))), (wl, .inr (10, [.ref sa, .ref sb, .int 0, .int 0, .int 0, .int 0, .int 0])), (sa, .inl (cT 1, 5, .inr (.inl f_29))), (r1, .inr (6, [.int 1, .int 0, .int 0, .int 0, .ref a1])), (a1, .inl (cT 0, 25, .inl (fun _ => (-1))))] H := hP
              have hD : va_D A [(o, .inr (11, [.ref ra, .ref tx, .ref lt, .int 0, .ref wl, .ref rw, .ref kA, .ref bA, .ref lA, .null, .null])), (ra, .inl (cT 3, 2, .inr (.inr (.inr (.inr (va_up (va_up (fun _ => none) 0 (some r0)) 1 (some r1))))))), (r0, .inr (6, [.int 1, .int 0, .int 0, .int 0, .ref a0])), (a0, .inl (cT 0, 25, .inl (fun _ => (-1)))), (wl, .inr (10, [.ref sa, .ref sb, .int 0, .int 0, .int 0, .int 0, .int 0])), (sa, .inl (cT 1, 5, .inr (.inl f_29))), (r1, .inr (6, [.int 1, .int 0, .int 0, .int 0, .ref a1])), (a1, .inl (cT 0, 25, .inl (fun _ => (-1))))] := hD
              refine lv_iload_n hx hb dX11_run_43 rfl (lv_at hl 2 rfl) ?_
              refine lv_tableIn (tgt := 84) (off := 40) hx hb dX11_run_44 (by decide) (by decide) (by decide) (by decide) ?_
              refine lv_aload_n hx hb dX11_run_84 rfl (lv_at hl 0 rfl) ?_
              refine va_get (C := RX11) (T := TX11) (N := 11) (v := .ref wl) hx hb hts hi_X11_run_X11 hown hK hP 0 rfl rfl 4 (by decide) (hts (.fieldLink RX11 33 "BothWays" "walk" "LBothWays$Walk;") (by decide +kernel)) (fun _ h => h) rfl dX11_run_85 ?_
              refine va_getN (C := RX10) (T := TX10) (N := 7) (v := .int 0) hx hb hts hi_X11_run_X10 hown hK hP 4 rfl rfl 4 (by decide) (nf_5 hN) (fun _ h => h) rfl dX11_run_88 ?_
              exact rt_i hx hb hr hlocks hQ hP hD hS () [] dX11_run_91 rfl (Nat.le_of_ble_eq_true rfl) (Nat.le_of_ble_eq_true rfl) rfl (by decide) (lf_c_run_11 c_22 c_23)
            · skip
              refine lv_aload_n hx hb dX11_run_22 rfl (lv_at hl 0 rfl) ?_
              refine va_get (C := RX11) (T := TX11) (N := 11) (v := .ref wl) hx hb hts hi_X11_run_X11 hown hK hP 0 rfl rfl 4 (by decide) (hts (.fieldLink RX11 33 "BothWays" "walk" "LBothWays$Walk;") (by decide +kernel)) (fun _ h => h) rfl dX11_run_23 ?_
              refine lv_aload_n hx hb dX11_run_26 rfl (lv_at hl 0 rfl) ?_
              refine va_get (C := RX11) (T := TX11) (N := 11) (v := .ref ra) hx hb hts hi_X11_run_X11 hown hK hP 0 rfl rfl 0 (by decide) (hts (.fieldLink RX11 11 "BothWays" "readers" "[LBothWays$Reader;") (by decide +kernel)) (fun _ h => h) rfl dX11_run_27 ?_
              refine lv_iload_n hx hb dX11_run_30 rfl (lv_at hl 1 rfl) ?_
              refine w_aald (v := .ref r1) hx hb hK hP 1 3 rfl rfl dX11_run_31 (inC (by decide)) rfl ?_
              refine lv_aload_n hx hb dX11_run_32 rfl (lv_at hl 0 rfl) ?_
              refine va_get (C := RX11) (T := TX11) (N := 11) (v := .ref lt) hx hb hts hi_X11_run_X11 hown hK hP 0 rfl rfl 2 (by decide) (hts (.fieldLink RX11 22 "BothWays" "letters" "[I") (by decide +kernel)) (fun _ h => h) rfl dX11_run_33 ?_
              refine lv_aload_n hx hb dX11_run_36 rfl (lv_at hl 0 rfl) ?_
              refine va_get (C := RX11) (T := TX11) (N := 11) (v := .int 0) hx hb hts hi_X11_run_X11 hown hK hP 0 rfl rfl 3 (by decide) (hts (.fieldLink RX11 26 "BothWays" "length" "I") (by decide +kernel)) (fun _ h => h) rfl dX11_run_37 ?_
              refine cj_v 0 0 (wr := [(o, .inr (11, [.ref ra, .ref tx, .ref lt, .int 0, .ref wl, .ref rw, .ref kA, .ref bA, .ref lA, .null, .null])), (ra, .inl (cT 3, 2, .inr (.inr (.inr (.inr (va_up (va_up (fun _ => none) 0 (some r0)) 1 (some r1))))))), (r0, .inr (6, [.int 1, .int 0, .int 0, .int 0, .ref a0])), (a0, .inl (cT 0, 25, .inl (fun _ => (-1))))]) (va_runV (As := [.ref r1, .ref lt, .int 0]) (rest := []) ⟨hx, hb, hml, hown, hts⟩ (c_W_go l g cT H.size wl sa sb 0 0 0 0 0 (fun _ => 0) r1 a1 0 lt 0 (by decide)) (cwV 3 hts gX11_run_X10_go rfl rfl rfl yd_X10_go ⟨(Nat.le_of_ble_eq_true rfl), (Nat.le_of_ble_eq_true rfl)⟩) (preV (wc := [(wl, .inr (10, [.ref sa, .ref sb, .int 0, .int 0, .int 0, .int 0, .int 0])), (sa, .inl (cT 1, 5, .inr (.inl (fun _ => 0)))), (r1, .inr (6, [.int 1, .int 0, .int 0, .int 0, .ref a1])), (a1, .inl (cT 0, 25, .inl (fun _ => (-1))))]) rfl hP hD hK hN hZ hS hA [6, 7, 4, 5] rfl (by decide) (ci := 10) (q0 := 6) rfl rfl) rfl rfl hl.1 rfl (lv_room (Nat.le_of_ble_eq_true rfl)) dX11_run_40 ⟨(Nat.le_of_ble_eq_true rfl), (Nat.le_of_ble_eq_true rfl)⟩) hP hD hS hA [6, 7, 4, 5] [0, 1, 2, 3] rfl rfl (by decide) (by decide) (Nat.le_of_ble_eq_true rfl) (Nat.le_of_ble_eq_true rfl) (fun u H locs h_31 hP hD hS => ?_)
              obtain ⟨f_32, rfl⟩ : ∃ z, z = u := ⟨_, rfl⟩
              have hP : va_P g vwCl [(o, .inr (11, [.ref ra, .ref tx, .ref lt, .int 0, .ref wl, .ref rw, .ref kA, .ref bA, .ref lA, .null, .null])), (ra, .inl (cT 3, 2, .inr (.inr (.inr (.inr (va_up (va_up (fun _ => none) 0 (some r0)) 1 (some r1))))))), (r0, .inr (6, [.int 1, .int 0, .int 0, .int 0, .ref a0])), (a0, .inl (cT 0, 25, .inl (fun _ => (-1)))), (wl, .inr (10, [.ref sa, .ref sb, .int 0, .int 0, .int 0, .int 0, .int 0])), (sa, .inl (cT 1, 5, .inr (.inl f_32))), (r1, .inr (6, [.int 1, .int 0, .int 0, .int 0, .ref a1])), (a1, .inl (cT 0, 25, .inl (fun _ => (-1))))] H := hP
              have hD : va_D A [(o, .inr (11, [.ref ra, .ref tx, .ref lt, .int 0, .ref wl, .ref rw, .ref kA, .ref bA, .ref lA, .null, .null])), (ra, .inl (cT 3, 2, .inr (.inr (.inr (.inr (va_up (va_up (fun _ => none) 0 (some r0)) 1 (some r1))))))), (r0, .inr (6, [.int 1, .int 0, .int 0, .int 0, .ref a0])), (a0, .inl (cT 0, 25, .inl (fun _ => (-1)))), (wl, .inr (10, [.ref sa, .ref sb, .int 0, .int 0, .int 0, .int 0, .int 0])), (sa, .inl (cT 1, 5, .inr (.inl f_32))), (r1, .inr (6, [.int 1, .int 0, .int 0, .int 0, .ref a1])), (a1, .inl (cT 0, 25, .inl (fun _ => (-1))))] := hD
              refine lv_iload_n hx hb dX11_run_43 rfl (lv_at hl 2 rfl) ?_
              refine lv_tableIn (tgt := 92) (off := 48) hx hb dX11_run_44 (by decide) (by decide) (by decide) (by decide) ?_
              refine lv_aload_n hx hb dX11_run_92 rfl (lv_at hl 0 rfl) ?_
              refine va_get (C := RX11) (T := TX11) (N := 11) (v := .ref wl) hx hb hts hi_X11_run_X11 hown hK hP 0 rfl rfl 4 (by decide) (hts (.fieldLink RX11 33 "BothWays" "walk" "LBothWays$Walk;") (by decide +kernel)) (fun _ h => h) rfl dX11_run_93 ?_
              refine va_getN (C := RX10) (T := TX10) (N := 7) (v := .int 0) hx hb hts hi_X11_run_X10 hown hK hP 4 rfl rfl 5 (by decide) (nf_6 hN) (fun _ h => h) rfl dX11_run_96 ?_
              exact rt_i hx hb hr hlocks hQ hP hD hS () [] dX11_run_99 rfl (Nat.le_of_ble_eq_true rfl) (Nat.le_of_ble_eq_true rfl) rfl (by decide) (lf_c_run_12 c_22 c_23)
            · skip
              refine lv_aload_n hx hb dX11_run_22 rfl (lv_at hl 0 rfl) ?_
              refine va_get (C := RX11) (T := TX11) (N := 11) (v := .ref wl) hx hb hts hi_X11_run_X11 hown hK hP 0 rfl rfl 4 (by decide) (hts (.fieldLink RX11 33 "BothWays" "walk" "LBothWays$Walk;") (by decide +kernel)) (fun _ h => h) rfl dX11_run_23 ?_
              refine lv_aload_n hx hb dX11_run_26 rfl (lv_at hl 0 rfl) ?_
              refine va_get (C := RX11) (T := TX11) (N := 11) (v := .ref ra) hx hb hts hi_X11_run_X11 hown hK hP 0 rfl rfl 0 (by decide) (hts (.fieldLink RX11 11 "BothWays" "readers" "[LBothWays$Reader;") (by decide +kernel)) (fun _ h => h) rfl dX11_run_27 ?_
              refine lv_iload_n hx hb dX11_run_30 rfl (lv_at hl 1 rfl) ?_
              refine w_aald (v := .ref r1) hx hb hK hP 1 3 rfl rfl dX11_run_31 (inC (by decide)) rfl ?_
              refine lv_aload_n hx hb dX11_run_32 rfl (lv_at hl 0 rfl) ?_
              refine va_get (C := RX11) (T := TX11) (N := 11) (v := .ref lt) hx hb hts hi_X11_run_X11 hown hK hP 0 rfl rfl 2 (by decide) (hts (.fieldLink RX11 22 "BothWays" "letters" "[I") (by decide +kernel)) (fun _ h => h) rfl dX11_run_33 ?_
              refine lv_aload_n hx hb dX11_run_36 rfl (lv_at hl 0 rfl) ?_
              refine va_get (C := RX11) (T := TX11) (N := 11) (v := .int 0) hx hb hts hi_X11_run_X11 hown hK hP 0 rfl rfl 3 (by decide) (hts (.fieldLink RX11 26 "BothWays" "length" "I") (by decide +kernel)) (fun _ h => h) rfl dX11_run_37 ?_
              refine cj_v 0 0 (wr := [(o, .inr (11, [.ref ra, .ref tx, .ref lt, .int 0, .ref wl, .ref rw, .ref kA, .ref bA, .ref lA, .null, .null])), (ra, .inl (cT 3, 2, .inr (.inr (.inr (.inr (va_up (va_up (fun _ => none) 0 (some r0)) 1 (some r1))))))), (r0, .inr (6, [.int 1, .int 0, .int 0, .int 0, .ref a0])), (a0, .inl (cT 0, 25, .inl (fun _ => (-1))))]) (va_runV (As := [.ref r1, .ref lt, .int 0]) (rest := []) ⟨hx, hb, hml, hown, hts⟩ (c_W_go l g cT H.size wl sa sb 0 0 0 0 0 (fun _ => 0) r1 a1 0 lt 0 (by decide)) (cwV 3 hts gX11_run_X10_go rfl rfl rfl yd_X10_go ⟨(Nat.le_of_ble_eq_true rfl), (Nat.le_of_ble_eq_true rfl)⟩) (preV (wc := [(wl, .inr (10, [.ref sa, .ref sb, .int 0, .int 0, .int 0, .int 0, .int 0])), (sa, .inl (cT 1, 5, .inr (.inl (fun _ => 0)))), (r1, .inr (6, [.int 1, .int 0, .int 0, .int 0, .ref a1])), (a1, .inl (cT 0, 25, .inl (fun _ => (-1))))]) rfl hP hD hK hN hZ hS hA [6, 7, 4, 5] rfl (by decide) (ci := 10) (q0 := 6) rfl rfl) rfl rfl hl.1 rfl (lv_room (Nat.le_of_ble_eq_true rfl)) dX11_run_40 ⟨(Nat.le_of_ble_eq_true rfl), (Nat.le_of_ble_eq_true rfl)⟩) hP hD hS hA [6, 7, 4, 5] [0, 1, 2, 3] rfl rfl (by decide) (by decide) (Nat.le_of_ble_eq_true rfl) (Nat.le_of_ble_eq_true rfl) (fun u H locs h_34 hP hD hS => ?_)
              obtain ⟨f_35, rfl⟩ : ∃ z, z = u := ⟨_, rfl⟩
              have hP : va_P g vwCl [(o, .inr (11, [.ref ra, .ref tx, .ref lt, .int 0, .ref wl, .ref rw, .ref kA, .ref bA, .ref lA, .null, .null])), (ra, .inl (cT 3, 2, .inr (.inr (.inr (.inr (va_up (va_up (fun _ => none) 0 (some r0)) 1 (some r1))))))), (r0, .inr (6, [.int 1, .int 0, .int 0, .int 0, .ref a0])), (a0, .inl (cT 0, 25, .inl (fun _ => (-1)))), (wl, .inr (10, [.ref sa, .ref sb, .int 0, .int 0, .int 0, .int 0, .int 0])), (sa, .inl (cT 1, 5, .inr (.inl f_35))), (r1, .inr (6, [.int 1, .int 0, .int 0, .int 0, .ref a1])), (a1, .inl (cT 0, 25, .inl (fun _ => (-1))))] H := hP
              have hD : va_D A [(o, .inr (11, [.ref ra, .ref tx, .ref lt, .int 0, .ref wl, .ref rw, .ref kA, .ref bA, .ref lA, .null, .null])), (ra, .inl (cT 3, 2, .inr (.inr (.inr (.inr (va_up (va_up (fun _ => none) 0 (some r0)) 1 (some r1))))))), (r0, .inr (6, [.int 1, .int 0, .int 0, .int 0, .ref a0])), (a0, .inl (cT 0, 25, .inl (fun _ => (-1)))), (wl, .inr (10, [.ref sa, .ref sb, .int 0, .int 0, .int 0, .int 0, .int 0])), (sa, .inl (cT 1, 5, .inr (.inl f_35))), (r1, .inr (6, [.int 1, .int 0, .int 0, .int 0, .ref a1])), (a1, .inl (cT 0, 25, .inl (fun _ => (-1))))] := hD
              refine lv_iload_n hx hb dX11_run_43 rfl (lv_at hl 2 rfl) ?_
              refine lv_tableIn (tgt := 100) (off := 56) hx hb dX11_run_44 (by decide) (by decide) (by decide) (by decide) ?_
              refine lv_aload_n hx hb dX11_run_100 rfl (lv_at hl 0 rfl) ?_
              refine va_get (C := RX11) (T := TX11) (N := 11) (v := .ref wl) hx hb hts hi_X11_run_X11 hown hK hP 0 rfl rfl 4 (by decide) (hts (.fieldLink RX11 33 "BothWays" "walk" "LBothWays$Walk;") (by decide +kernel)) (fun _ h => h) rfl dX11_run_101 ?_
              refine va_getN (C := RX10) (T := TX10) (N := 7) (v := .int 0) hx hb hts hi_X11_run_X10 hown hK hP 4 rfl rfl 6 (by decide) (nf_7 hN) (fun _ h => h) rfl dX11_run_104 ?_
              exact rt_i hx hb hr hlocks hQ hP hD hS () [] dX11_run_107 rfl (Nat.le_of_ble_eq_true rfl) (Nat.le_of_ble_eq_true rfl) rfl (by decide) (lf_c_run_13 c_22 c_23)
            · skip
              refine lv_aload_n hx hb dX11_run_22 rfl (lv_at hl 0 rfl) ?_
              refine va_get (C := RX11) (T := TX11) (N := 11) (v := .ref wl) hx hb hts hi_X11_run_X11 hown hK hP 0 rfl rfl 4 (by decide) (hts (.fieldLink RX11 33 "BothWays" "walk" "LBothWays$Walk;") (by decide +kernel)) (fun _ h => h) rfl dX11_run_23 ?_
              refine lv_aload_n hx hb dX11_run_26 rfl (lv_at hl 0 rfl) ?_
              refine va_get (C := RX11) (T := TX11) (N := 11) (v := .ref ra) hx hb hts hi_X11_run_X11 hown hK hP 0 rfl rfl 0 (by decide) (hts (.fieldLink RX11 11 "BothWays" "readers" "[LBothWays$Reader;") (by decide +kernel)) (fun _ h => h) rfl dX11_run_27 ?_
              refine lv_iload_n hx hb dX11_run_30 rfl (lv_at hl 1 rfl) ?_
              refine w_aald (v := .ref r1) hx hb hK hP 1 3 rfl rfl dX11_run_31 (inC (by decide)) rfl ?_
              refine lv_aload_n hx hb dX11_run_32 rfl (lv_at hl 0 rfl) ?_
              refine va_get (C := RX11) (T := TX11) (N := 11) (v := .ref lt) hx hb hts hi_X11_run_X11 hown hK hP 0 rfl rfl 2 (by decide) (hts (.fieldLink RX11 22 "BothWays" "letters" "[I") (by decide +kernel)) (fun _ h => h) rfl dX11_run_33 ?_
              refine lv_aload_n hx hb dX11_run_36 rfl (lv_at hl 0 rfl) ?_
              refine va_get (C := RX11) (T := TX11) (N := 11) (v := .int 0) hx hb hts hi_X11_run_X11 hown hK hP 0 rfl rfl 3 (by decide) (hts (.fieldLink RX11 26 "BothWays" "length" "I") (by decide +kernel)) (fun _ h => h) rfl dX11_run_37 ?_
              refine cj_v 0 0 (wr := [(o, .inr (11, [.ref ra, .ref tx, .ref lt, .int 0, .ref wl, .ref rw, .ref kA, .ref bA, .ref lA, .null, .null])), (ra, .inl (cT 3, 2, .inr (.inr (.inr (.inr (va_up (va_up (fun _ => none) 0 (some r0)) 1 (some r1))))))), (r0, .inr (6, [.int 1, .int 0, .int 0, .int 0, .ref a0])), (a0, .inl (cT 0, 25, .inl (fun _ => (-1))))]) (va_runV (As := [.ref r1, .ref lt, .int 0]) (rest := []) ⟨hx, hb, hml, hown, hts⟩ (c_W_go l g cT H.size wl sa sb 0 0 0 0 0 (fun _ => 0) r1 a1 0 lt 0 (by decide)) (cwV 3 hts gX11_run_X10_go rfl rfl rfl yd_X10_go ⟨(Nat.le_of_ble_eq_true rfl), (Nat.le_of_ble_eq_true rfl)⟩) (preV (wc := [(wl, .inr (10, [.ref sa, .ref sb, .int 0, .int 0, .int 0, .int 0, .int 0])), (sa, .inl (cT 1, 5, .inr (.inl (fun _ => 0)))), (r1, .inr (6, [.int 1, .int 0, .int 0, .int 0, .ref a1])), (a1, .inl (cT 0, 25, .inl (fun _ => (-1))))]) rfl hP hD hK hN hZ hS hA [6, 7, 4, 5] rfl (by decide) (ci := 10) (q0 := 6) rfl rfl) rfl rfl hl.1 rfl (lv_room (Nat.le_of_ble_eq_true rfl)) dX11_run_40 ⟨(Nat.le_of_ble_eq_true rfl), (Nat.le_of_ble_eq_true rfl)⟩) hP hD hS hA [6, 7, 4, 5] [0, 1, 2, 3] rfl rfl (by decide) (by decide) (Nat.le_of_ble_eq_true rfl) (Nat.le_of_ble_eq_true rfl) (fun u H locs h_37 hP hD hS => ?_)
              obtain ⟨f_38, rfl⟩ : ∃ z, z = u := ⟨_, rfl⟩
              have hP : va_P g vwCl [(o, .inr (11, [.ref ra, .ref tx, .ref lt, .int 0, .ref wl, .ref rw, .ref kA, .ref bA, .ref lA, .null, .null])), (ra, .inl (cT 3, 2, .inr (.inr (.inr (.inr (va_up (va_up (fun _ => none) 0 (some r0)) 1 (some r1))))))), (r0, .inr (6, [.int 1, .int 0, .int 0, .int 0, .ref a0])), (a0, .inl (cT 0, 25, .inl (fun _ => (-1)))), (wl, .inr (10, [.ref sa, .ref sb, .int 0, .int 0, .int 0, .int 0, .int 0])), (sa, .inl (cT 1, 5, .inr (.inl f_38))), (r1, .inr (6, [.int 1, .int 0, .int 0, .int 0, .ref a1])), (a1, .inl (cT 0, 25, .inl (fun _ => (-1))))] H := hP
              have hD : va_D A [(o, .inr (11, [.ref ra, .ref tx, .ref lt, .int 0, .ref wl, .ref rw, .ref kA, .ref bA, .ref lA, .null, .null])), (ra, .inl (cT 3, 2, .inr (.inr (.inr (.inr (va_up (va_up (fun _ => none) 0 (some r0)) 1 (some r1))))))), (r0, .inr (6, [.int 1, .int 0, .int 0, .int 0, .ref a0])), (a0, .inl (cT 0, 25, .inl (fun _ => (-1)))), (wl, .inr (10, [.ref sa, .ref sb, .int 0, .int 0, .int 0, .int 0, .int 0])), (sa, .inl (cT 1, 5, .inr (.inl f_38))), (r1, .inr (6, [.int 1, .int 0, .int 0, .int 0, .ref a1])), (a1, .inl (cT 0, 25, .inl (fun _ => (-1))))] := hD
              refine lv_iload_n hx hb dX11_run_43 rfl (lv_at hl 2 rfl) ?_
              refine lv_tableOut (tgt := 108) hx hb dX11_run_44 (by decide) (by decide) ?_
              refine lv_aload_n hx hb dX11_run_108 rfl (lv_at hl 0 rfl) ?_
              refine va_get (C := RX11) (T := TX11) (N := 11) (v := .ref wl) hx hb hts hi_X11_run_X11 hown hK hP 0 rfl rfl 4 (by decide) (hts (.fieldLink RX11 33 "BothWays" "walk" "LBothWays$Walk;") (by decide +kernel)) (fun _ h => h) rfl dX11_run_109 ?_
              refine va_getN (C := RX10) (T := TX10) (N := 7) (v := .int 0) hx hb hts hi_X11_run_X10 hown hK hP 4 rfl rfl 2 (by decide) (nf_2 hN) (fun _ h => h) rfl dX11_run_112 ?_
              exact rt_i hx hb hr hlocks hQ hP hD hS () [] dX11_run_115 rfl (Nat.le_of_ble_eq_true rfl) (Nat.le_of_ble_eq_true rfl) rfl (by decide) (lf_c_run_14 c_22 c_23)
          · skip
            refine lv_bipush (v := (-3)) hx hb dX11_run_19 (by decide) ?_
            exact rt_i hx hb hr hlocks hQ hP hD hS () [] dX11_run_21 rfl (Nat.le_of_ble_eq_true rfl) (Nat.le_of_ble_eq_true rfl) rfl (by decide) (lf_c_run_15 w c_22 c_23)
    · skip
      refine if_ne_f hx hb dX11_run_4 10 (by decide) (by decide) ?_
      refine lv_bipush (v := (-2)) hx hb dX11_run_7 (by decide) ?_
      exact rt_i hx hb hr hlocks hQ hP hD hS () [] dX11_run_9 rfl (Nat.le_of_ble_eq_true rfl) (Nat.le_of_ble_eq_true rfl) rfl (by decide) (lf_c_run_16 x w h_4)
  rw [hH, hlo] at hgo
  exact hgo
theorem hi_X11_said_X11 : ∀ w ∈ wsX110, w ∈ wsX11_said := fun _ h => List.mem_cons_of_mem _ (List.mem_append_left _ (List.mem_append_left _ (List.mem_append_right _ h)))
theorem hi_X11_said_X10 : ∀ w ∈ wsX100, w ∈ wsX11_said := fun _ h => List.mem_cons_of_mem _ (List.mem_append_left _ (List.mem_append_right _ h))
abbrev rm_c_said : Room := { frames := 2, cells := 0, slots := 0, locals := 48 }
theorem lf_c_said_0 (kk : Int32) (c_5 : 0 ≤ kk) : ((-1) : Int32) = sp_said 0 kk := by (unfold sp_said; rw [if_pos, if_neg] <;> (simp only [true_or, or_true, false_or, or_false, true_and, and_true, false_and, and_false, not_true_eq_false, not_false_eq_true, i_lt, i_le, i_eq, j_lt, j_le, j_eq, Int32.toInt_toInt64, li_0, lj_0, li_1, lj_1, li_2, lj_2, li_3, lj_3, li_4, lj_4, li_5, lj_5, li_6, lj_6, li_7, lj_7, li_8, lj_8, li_10, lj_10, li_11, lj_11, li_12, lj_12, li_24, lj_24, li_25, lj_25, li_50, lj_50, li_130, lj_130, li_160, lj_160, li_800, lj_800, li_4000, lj_4000, li_10000, lj_10000, li_16384, lj_16384, li_26, lj_26, li_32, lj_32, li_48, lj_48, li_57, lj_57, li_59, lj_59, li_97, lj_97, li_99, lj_99, li_122, lj_122, li_m1, lj_m1, li_m2, lj_m2, li_m3, lj_m3, li_m4, lj_m4, li_m5, lj_m5, li_m6, lj_m6] at * <;> omega))
theorem lf_c_said_1 (kk : Int32) (c_5 : ¬ 0 ≤ kk) : ((-3) : Int32) = sp_said 0 kk := by (unfold sp_said; rw [if_pos, if_pos] <;> (simp only [true_or, or_true, false_or, or_false, true_and, and_true, false_and, and_false, not_true_eq_false, not_false_eq_true, i_lt, i_le, i_eq, j_lt, j_le, j_eq, Int32.toInt_toInt64, li_0, lj_0, li_1, lj_1, li_2, lj_2, li_3, lj_3, li_4, lj_4, li_5, lj_5, li_6, lj_6, li_7, lj_7, li_8, lj_8, li_10, lj_10, li_11, lj_11, li_12, lj_12, li_24, lj_24, li_25, lj_25, li_50, lj_50, li_130, lj_130, li_160, lj_160, li_800, lj_800, li_4000, lj_4000, li_10000, lj_10000, li_16384, lj_16384, li_26, lj_26, li_32, lj_32, li_48, lj_48, li_57, lj_57, li_59, lj_59, li_97, lj_97, li_99, lj_99, li_122, lj_122, li_m1, lj_m1, li_m2, lj_m2, li_m3, lj_m3, li_m4, lj_m4, li_m5, lj_m5, li_m6, lj_m6] at * <;> omega))
theorem lf_c_said_2 (kk : Int32) (c_9 : 0 ≤ kk) : ((-1) : Int32) = sp_said 1 kk := by (unfold sp_said; rw [if_pos, if_neg] <;> (simp only [true_or, or_true, false_or, or_false, true_and, and_true, false_and, and_false, not_true_eq_false, not_false_eq_true, i_lt, i_le, i_eq, j_lt, j_le, j_eq, Int32.toInt_toInt64, li_0, lj_0, li_1, lj_1, li_2, lj_2, li_3, lj_3, li_4, lj_4, li_5, lj_5, li_6, lj_6, li_7, lj_7, li_8, lj_8, li_10, lj_10, li_11, lj_11, li_12, lj_12, li_24, lj_24, li_25, lj_25, li_50, lj_50, li_130, lj_130, li_160, lj_160, li_800, lj_800, li_4000, lj_4000, li_10000, lj_10000, li_16384, lj_16384, li_26, lj_26, li_32, lj_32, li_48, lj_48, li_57, lj_57, li_59, lj_59, li_97, lj_97, li_99, lj_99, li_122, lj_122, li_m1, lj_m1, li_m2, lj_m2, li_m3, lj_m3, li_m4, lj_m4, li_m5, lj_m5, li_m6, lj_m6] at * <;> omega))
theorem lf_c_said_3 (kk : Int32) (c_9 : ¬ 0 ≤ kk) : ((-3) : Int32) = sp_said 1 kk := by (unfold sp_said; rw [if_pos, if_pos] <;> (simp only [true_or, or_true, false_or, or_false, true_and, and_true, false_and, and_false, not_true_eq_false, not_false_eq_true, i_lt, i_le, i_eq, j_lt, j_le, j_eq, Int32.toInt_toInt64, li_0, lj_0, li_1, lj_1, li_2, lj_2, li_3, lj_3, li_4, lj_4, li_5, lj_5, li_6, lj_6, li_7, lj_7, li_8, lj_8, li_10, lj_10, li_11, lj_11, li_12, lj_12, li_24, lj_24, li_25, lj_25, li_50, lj_50, li_130, lj_130, li_160, lj_160, li_800, lj_800, li_4000, lj_4000, li_10000, lj_10000, li_16384, lj_16384, li_26, lj_26, li_32, lj_32, li_48, lj_48, li_57, lj_57, li_59, lj_59, li_97, lj_97, li_99, lj_99, li_122, lj_122, li_m1, lj_m1, li_m2, lj_m2, li_m3, lj_m3, li_m4, lj_m4, li_m5, lj_m5, li_m6, lj_m6] at * <;> omega))
theorem lf_c_said_4 (x : Int32) (kk : Int32) (h_4 : ¬ (x = 0 ∨ x = 1)) : ((-2) : Int32) = sp_said x kk := by (unfold sp_said; rw [if_neg] <;> (simp only [true_or, or_true, false_or, or_false, true_and, and_true, false_and, and_false, not_true_eq_false, not_false_eq_true, i_lt, i_le, i_eq, j_lt, j_le, j_eq, Int32.toInt_toInt64, li_0, lj_0, li_1, lj_1, li_2, lj_2, li_3, lj_3, li_4, lj_4, li_5, lj_5, li_6, lj_6, li_7, lj_7, li_8, lj_8, li_10, lj_10, li_11, lj_11, li_12, lj_12, li_24, lj_24, li_25, lj_25, li_50, lj_50, li_130, lj_130, li_160, lj_160, li_800, lj_800, li_4000, lj_4000, li_10000, lj_10000, li_16384, lj_16384, li_26, lj_26, li_32, lj_32, li_48, lj_48, li_57, lj_57, li_59, lj_59, li_97, lj_97, li_99, lj_99, li_122, lj_122, li_m1, lj_m1, li_m2, lj_m2, li_m3, lj_m3, li_m4, lj_m4, li_m5, lj_m5, li_m6, lj_m6] at * <;> omega))
set_option maxHeartbeats 4000000 in
set_option maxRecDepth 100000 in
theorem c_said (l : Launch) (g : va_G) (cT : Nat → ClassId) (sz : Nat) (o : Nat) (ra : Nat) (tx : Nat) (lt : Nat) (wl : Nat) (rw : Nat) (kA : Nat) (bA : Nat) (lA : Nat) (r0 : Nat) (r1 : Nat) (a0 : Nat) (a1 : Nat) (sa : Nat) (sb : Nat) (x : Int32) (kk : Int32)  : Ctr l g cT sz yX11_said wsX11_said rm_c_said [.ref o, .int x, .int kk] [(o, .inr (11, [.ref ra, .ref tx, .ref lt, .int 0, .ref wl, .ref rw, .ref kA, .ref bA, .ref lA, .null, .null])), (ra, .inl (cT 3, 2, .inr (.inr (.inr (.inr (va_up (va_up (fun _ => none) 0 (some r0)) 1 (some r1))))))), (r0, .inr (6, [.int 1, .int 0, .int 0, .int 0, .ref a0])), (a0, .inl (cT 0, 25, .inl (fun _ => (-1)))), (r1, .inr (6, [.int 1, .int 0, .int 0, .int 0, .ref a1])), (a1, .inl (cT 0, 25, .inl (fun _ => (-1)))), (wl, .inr (10, [.ref sa, .ref sb, .int 0, .int 0, .int 0, .int 0, .int 0])), (sa, .inl (cT 1, 5, .inr (.inl (fun _ => 0))))] (QI g (fun (r : Int32) (u : Unit) => r = sp_said x kk) (fun (u : Unit) => [])) 0 0 := by
  refine mk_ctr (cc := cX11_said) (maxL := 3) (ret := (some .int)) (by decide) rfl (Nat.le_of_ble_eq_true rfl) ?_
  intro p e s m args below meth c A Q hx hb hr hts hown hlocks hin hml hP hK hD hN hZ hA hS hQ ls hl
  have hl : lv_has ls 3 [(0, .ref o), (1, .int x), (2, .int kk)] := hl
  obtain ⟨H, hH⟩ : ∃ H : Heap, H = s.heap := ⟨_, rfl⟩
  obtain ⟨locs, hlo⟩ : ∃ x : List Loc, x = [] := ⟨_, rfl⟩
  rw [← hH] at hP
  have hS : va_S A s.heap H locs := by rw [hH, hlo]; exact hS
  have hgo : W p l e rm_c_said s m args below meth c H locs 0 0 Q (F0 m 0 ls []) := by
    clear hH hlo
    refine lv_iload_n hx hb dX11_said_0 rfl (lv_at hl 1 rfl) ?_
    refine cp_i (va_runS (As := [.int x]) (rest := []) ⟨hx, hb, hml, hown, hts⟩ (c_isReader l g cT H.size x) (va_cwS 1 hts gX11_said_X11_isReader rfl rfl rfl yd_X11_isReader.2 ⟨(Nat.le_of_ble_eq_true rfl), (Nat.le_of_ble_eq_true rfl)⟩) (preS (ws := []) (wc := []) rfl (fun _ _ h => by simp at h) (va_D_nil (A := A)) hK hN hZ hS hA [] rfl rfl) rfl rfl hl.1 rfl (lv_room (Nat.le_of_ble_eq_true rfl)) dX11_said_1 ⟨(Nat.le_of_ble_eq_true rfl), (Nat.le_of_ble_eq_true rfl)⟩) hP hS hA (fun r_1 u H locs h_2 hP hS => ?_)
    rcases h_2 with ⟨rfl, h_3⟩ | ⟨rfl, h_4⟩
    · skip
      rcases h_3 with rfl | rfl
      · skip
        refine if_ne_t hx hb 10 dX11_said_4 (by decide) (by decide) ?_
        refine lv_iload_n hx hb dX11_said_10 rfl (lv_at hl 2 rfl) ?_
        refine lv_if_ge (tgt := 17) hx hb dX11_said_11 (by decide) (fun c_5 => ?_) (fun c_5 => ?_)
        · skip
          refine lv_aload_n hx hb dX11_said_17 rfl (lv_at hl 0 rfl) ?_
          refine va_get (C := RX11) (T := TX11) (N := 11) (v := .ref wl) hx hb hts hi_X11_said_X11 hown hK hP 0 rfl rfl 4 (by decide) (hts (.fieldLink RX11 33 "BothWays" "walk" "LBothWays$Walk;") (by decide +kernel)) (fun _ h => h) rfl dX11_said_18 ?_
          refine lv_aload_n hx hb dX11_said_21 rfl (lv_at hl 0 rfl) ?_
          refine va_get (C := RX11) (T := TX11) (N := 11) (v := .ref ra) hx hb hts hi_X11_said_X11 hown hK hP 0 rfl rfl 0 (by decide) (hts (.fieldLink RX11 11 "BothWays" "readers" "[LBothWays$Reader;") (by decide +kernel)) (fun _ h => h) rfl dX11_said_22 ?_
          refine lv_iload_n hx hb dX11_said_25 rfl (lv_at hl 1 rfl) ?_
          refine w_aald (v := .ref r0) hx hb hK hP 1 3 rfl rfl dX11_said_26 (inC (by decide)) rfl ?_
          refine lv_aload_n hx hb dX11_said_27 rfl (lv_at hl 0 rfl) ?_
          refine va_get (C := RX11) (T := TX11) (N := 11) (v := .ref lt) hx hb hts hi_X11_said_X11 hown hK hP 0 rfl rfl 2 (by decide) (hts (.fieldLink RX11 22 "BothWays" "letters" "[I") (by decide +kernel)) (fun _ h => h) rfl dX11_said_28 ?_
          refine lv_aload_n hx hb dX11_said_31 rfl (lv_at hl 0 rfl) ?_
          refine va_get (C := RX11) (T := TX11) (N := 11) (v := .int 0) hx hb hts hi_X11_said_X11 hown hK hP 0 rfl rfl 3 (by decide) (hts (.fieldLink RX11 26 "BothWays" "length" "I") (by decide +kernel)) (fun _ h => h) rfl dX11_said_32 ?_
          refine cj_v 0 0 (wr := [(o, .inr (11, [.ref ra, .ref tx, .ref lt, .int 0, .ref wl, .ref rw, .ref kA, .ref bA, .ref lA, .null, .null])), (ra, .inl (cT 3, 2, .inr (.inr (.inr (.inr (va_up (va_up (fun _ => none) 0 (some r0)) 1 (some r1))))))), (r1, .inr (6, [.int 1, .int 0, .int 0, .int 0, .ref a1])), (a1, .inl (cT 0, 25, .inl (fun _ => (-1))))]) (va_runV (As := [.ref r0, .ref lt, .int 0]) (rest := []) ⟨hx, hb, hml, hown, hts⟩ (c_W_go l g cT H.size wl sa sb 0 0 0 0 0 (fun _ => 0) r0 a0 0 lt 0 (by decide)) (cwV 3 hts gX11_said_X10_go rfl rfl rfl yd_X10_go ⟨(Nat.le_of_ble_eq_true rfl), (Nat.le_of_ble_eq_true rfl)⟩) (preV (wc := [(wl, .inr (10, [.ref sa, .ref sb, .int 0, .int 0, .int 0, .int 0, .int 0])), (sa, .inl (cT 1, 5, .inr (.inl (fun _ => 0)))), (r0, .inr (6, [.int 1, .int 0, .int 0, .int 0, .ref a0])), (a0, .inl (cT 0, 25, .inl (fun _ => (-1))))]) rfl hP hD hK hN hZ hS hA [6, 7, 2, 3] rfl (by decide) (ci := 10) (q0 := 6) rfl rfl) rfl rfl hl.1 rfl (lv_room (Nat.le_of_ble_eq_true rfl)) dX11_said_35 ⟨(Nat.le_of_ble_eq_true rfl), (Nat.le_of_ble_eq_true rfl)⟩) hP hD hS hA [6, 7, 2, 3] [0, 1, 4, 5] rfl rfl (by decide) (by decide) (Nat.le_of_ble_eq_true rfl) (Nat.le_of_ble_eq_true rfl) (fun u H locs h_7 hP hD hS => ?_)
          obtain ⟨f_8, rfl⟩ : ∃ z, z = u := ⟨_, rfl⟩
          have hP : va_P g vwCl [(o, .inr (11, [.ref ra, .ref tx, .ref lt, .int 0, .ref wl, .ref rw, .ref kA, .ref bA, .ref lA, .null, .null])), (ra, .inl (cT 3, 2, .inr (.inr (.inr (.inr (va_up (va_up (fun _ => none) 0 (some r0)) 1 (some r1))))))), (r1, .inr (6, [.int 1, .int 0, .int 0, .int 0, .ref a1])), (a1, .inl (cT 0, 25, .inl (fun _ => (-1)))), (wl, .inr (10, [.ref sa, .ref sb, .int 0, .int 0, .int 0, .int 0, .int 0])), (sa, .inl (cT 1, 5, .inr (.inl f_8))), (r0, .inr (6, [.int 1, .int 0, .int 0, .int 0, .ref a0])), (a0, .inl (cT 0, 25, .inl (fun _ => (-1))))] H := hP
          have hD : va_D A [(o, .inr (11, [.ref ra, .ref tx, .ref lt, .int 0, .ref wl, .ref rw, .ref kA, .ref bA, .ref lA, .null, .null])), (ra, .inl (cT 3, 2, .inr (.inr (.inr (.inr (va_up (va_up (fun _ => none) 0 (some r0)) 1 (some r1))))))), (r1, .inr (6, [.int 1, .int 0, .int 0, .int 0, .ref a1])), (a1, .inl (cT 0, 25, .inl (fun _ => (-1)))), (wl, .inr (10, [.ref sa, .ref sb, .int 0, .int 0, .int 0, .int 0, .int 0])), (sa, .inl (cT 1, 5, .inr (.inl f_8))), (r0, .inr (6, [.int 1, .int 0, .int 0, .int 0, .ref a0])), (a0, .inl (cT 0, 25, .inl (fun _ => (-1))))] := hD
          refine lv_iload_n hx hb dX11_said_38 rfl (lv_at hl 2 rfl) ?_
          refine lv_aload_n hx hb dX11_said_39 rfl (lv_at hl 0 rfl) ?_
          refine va_get (C := RX11) (T := TX11) (N := 11) (v := .ref wl) hx hb hts hi_X11_said_X11 hown hK hP 0 rfl rfl 4 (by decide) (hts (.fieldLink RX11 33 "BothWays" "walk" "LBothWays$Walk;") (by decide +kernel)) (fun _ h => h) rfl dX11_said_40 ?_
          refine va_getN (C := RX10) (T := TX10) (N := 7) (v := .int 0) hx hb hts hi_X11_said_X10 hown hK hP 4 rfl rfl 2 (by decide) (nf_2 hN) (fun _ h => h) rfl dX11_said_43 ?_
          refine icmp_ge_t hx hb 61 dX11_said_46 (by decide) c_5 ?_
          refine lv_iconst (v := (-1)) hx hb dX11_said_61 (by decide) ?_
          exact rt_i hx hb hr hlocks hQ hP hD hS () [] dX11_said_62 rfl (Nat.le_of_ble_eq_true rfl) (Nat.le_of_ble_eq_true rfl) rfl (by decide) (lf_c_said_0 kk c_5)
        · skip
          refine lv_bipush (v := (-3)) hx hb dX11_said_14 (by decide) ?_
          exact rt_i hx hb hr hlocks hQ hP hD hS () [] dX11_said_16 rfl (Nat.le_of_ble_eq_true rfl) (Nat.le_of_ble_eq_true rfl) rfl (by decide) (lf_c_said_1 kk c_5)
      · skip
        refine if_ne_t hx hb 10 dX11_said_4 (by decide) (by decide) ?_
        refine lv_iload_n hx hb dX11_said_10 rfl (lv_at hl 2 rfl) ?_
        refine lv_if_ge (tgt := 17) hx hb dX11_said_11 (by decide) (fun c_9 => ?_) (fun c_9 => ?_)
        · skip
          refine lv_aload_n hx hb dX11_said_17 rfl (lv_at hl 0 rfl) ?_
          refine va_get (C := RX11) (T := TX11) (N := 11) (v := .ref wl) hx hb hts hi_X11_said_X11 hown hK hP 0 rfl rfl 4 (by decide) (hts (.fieldLink RX11 33 "BothWays" "walk" "LBothWays$Walk;") (by decide +kernel)) (fun _ h => h) rfl dX11_said_18 ?_
          refine lv_aload_n hx hb dX11_said_21 rfl (lv_at hl 0 rfl) ?_
          refine va_get (C := RX11) (T := TX11) (N := 11) (v := .ref ra) hx hb hts hi_X11_said_X11 hown hK hP 0 rfl rfl 0 (by decide) (hts (.fieldLink RX11 11 "BothWays" "readers" "[LBothWays$Reader;") (by decide +kernel)) (fun _ h => h) rfl dX11_said_22 ?_
          refine lv_iload_n hx hb dX11_said_25 rfl (lv_at hl 1 rfl) ?_
          refine w_aald (v := .ref r1) hx hb hK hP 1 3 rfl rfl dX11_said_26 (inC (by decide)) rfl ?_
          refine lv_aload_n hx hb dX11_said_27 rfl (lv_at hl 0 rfl) ?_
          refine va_get (C := RX11) (T := TX11) (N := 11) (v := .ref lt) hx hb hts hi_X11_said_X11 hown hK hP 0 rfl rfl 2 (by decide) (hts (.fieldLink RX11 22 "BothWays" "letters" "[I") (by decide +kernel)) (fun _ h => h) rfl dX11_said_28 ?_
          refine lv_aload_n hx hb dX11_said_31 rfl (lv_at hl 0 rfl) ?_
          refine va_get (C := RX11) (T := TX11) (N := 11) (v := .int 0) hx hb hts hi_X11_said_X11 hown hK hP 0 rfl rfl 3 (by decide) (hts (.fieldLink RX11 26 "BothWays" "length" "I") (by decide +kernel)) (fun _ h => h) rfl dX11_said_32 ?_
          refine cj_v 0 0 (wr := [(o, .inr (11, [.ref ra, .ref tx, .ref lt, .int 0, .ref wl, .ref rw, .ref kA, .ref bA, .ref lA, .null, .null])), (ra, .inl (cT 3, 2, .inr (.inr (.inr (.inr (va_up (va_up (fun _ => none) 0 (some r0)) 1 (some r1))))))), (r0, .inr (6, [.int 1, .int 0, .int 0, .int 0, .ref a0])), (a0, .inl (cT 0, 25, .inl (fun _ => (-1))))]) (va_runV (As := [.ref r1, .ref lt, .int 0]) (rest := []) ⟨hx, hb, hml, hown, hts⟩ (c_W_go l g cT H.size wl sa sb 0 0 0 0 0 (fun _ => 0) r1 a1 0 lt 0 (by decide)) (cwV 3 hts gX11_said_X10_go rfl rfl rfl yd_X10_go ⟨(Nat.le_of_ble_eq_true rfl), (Nat.le_of_ble_eq_true rfl)⟩) (preV (wc := [(wl, .inr (10, [.ref sa, .ref sb, .int 0, .int 0, .int 0, .int 0, .int 0])), (sa, .inl (cT 1, 5, .inr (.inl (fun _ => 0)))), (r1, .inr (6, [.int 1, .int 0, .int 0, .int 0, .ref a1])), (a1, .inl (cT 0, 25, .inl (fun _ => (-1))))]) rfl hP hD hK hN hZ hS hA [6, 7, 4, 5] rfl (by decide) (ci := 10) (q0 := 6) rfl rfl) rfl rfl hl.1 rfl (lv_room (Nat.le_of_ble_eq_true rfl)) dX11_said_35 ⟨(Nat.le_of_ble_eq_true rfl), (Nat.le_of_ble_eq_true rfl)⟩) hP hD hS hA [6, 7, 4, 5] [0, 1, 2, 3] rfl rfl (by decide) (by decide) (Nat.le_of_ble_eq_true rfl) (Nat.le_of_ble_eq_true rfl) (fun u H locs h_11 hP hD hS => ?_)
          obtain ⟨f_12, rfl⟩ : ∃ z, z = u := ⟨_, rfl⟩
          have hP : va_P g vwCl [(o, .inr (11, [.ref ra, .ref tx, .ref lt, .int 0, .ref wl, .ref rw, .ref kA, .ref bA, .ref lA, .null, .null])), (ra, .inl (cT 3, 2, .inr (.inr (.inr (.inr (va_up (va_up (fun _ => none) 0 (some r0)) 1 (some r1))))))), (r0, .inr (6, [.int 1, .int 0, .int 0, .int 0, .ref a0])), (a0, .inl (cT 0, 25, .inl (fun _ => (-1)))), (wl, .inr (10, [.ref sa, .ref sb, .int 0, .int 0, .int 0, .int 0, .int 0])), (sa, .inl (cT 1, 5, .inr (.inl f_12))), (r1, .inr (6, [.int 1, .int 0, .int 0, .int 0, .ref a1])), (a1, .inl (cT 0, 25, .inl (fun _ => (-1))))] H := hP
          have hD : va_D A [(o, .inr (11, [.ref ra, .ref tx, .ref lt, .int 0, .ref wl, .ref rw, .ref kA, .ref bA, .ref lA, .null, .null])), (ra, .inl (cT 3, 2, .inr (.inr (.inr (.inr (va_up (va_up (fun _ => none) 0 (some r0)) 1 (some r1))))))), (r0, .inr (6, [.int 1, .int 0, .int 0, .int 0, .ref a0])), (a0, .inl (cT 0, 25, .inl (fun _ => (-1)))), (wl, .inr (10, [.ref sa, .ref sb, .int 0, .int 0, .int 0, .int 0, .int 0])), (sa, .inl (cT 1, 5, .inr (.inl f_12))), (r1, .inr (6, [.int 1, .int 0, .int 0, .int 0, .ref a1])), (a1, .inl (cT 0, 25, .inl (fun _ => (-1))))] := hD
          refine lv_iload_n hx hb dX11_said_38 rfl (lv_at hl 2 rfl) ?_
          refine lv_aload_n hx hb dX11_said_39 rfl (lv_at hl 0 rfl) ?_
          refine va_get (C := RX11) (T := TX11) (N := 11) (v := .ref wl) hx hb hts hi_X11_said_X11 hown hK hP 0 rfl rfl 4 (by decide) (hts (.fieldLink RX11 33 "BothWays" "walk" "LBothWays$Walk;") (by decide +kernel)) (fun _ h => h) rfl dX11_said_40 ?_
          refine va_getN (C := RX10) (T := TX10) (N := 7) (v := .int 0) hx hb hts hi_X11_said_X10 hown hK hP 4 rfl rfl 2 (by decide) (nf_2 hN) (fun _ h => h) rfl dX11_said_43 ?_
          refine icmp_ge_t hx hb 61 dX11_said_46 (by decide) c_9 ?_
          refine lv_iconst (v := (-1)) hx hb dX11_said_61 (by decide) ?_
          exact rt_i hx hb hr hlocks hQ hP hD hS () [] dX11_said_62 rfl (Nat.le_of_ble_eq_true rfl) (Nat.le_of_ble_eq_true rfl) rfl (by decide) (lf_c_said_2 kk c_9)
        · skip
          refine lv_bipush (v := (-3)) hx hb dX11_said_14 (by decide) ?_
          exact rt_i hx hb hr hlocks hQ hP hD hS () [] dX11_said_16 rfl (Nat.le_of_ble_eq_true rfl) (Nat.le_of_ble_eq_true rfl) rfl (by decide) (lf_c_said_3 kk c_9)
    · skip
      refine if_ne_f hx hb dX11_said_4 10 (by decide) (by decide) ?_
      refine lv_bipush (v := (-2)) hx hb dX11_said_7 (by decide) ?_
      exact rt_i hx hb hr hlocks hQ hP hD hS () [] dX11_said_9 rfl (Nat.le_of_ble_eq_true rfl) (Nat.le_of_ble_eq_true rfl) rfl (by decide) (lf_c_said_4 x kk h_4)
  rw [hH, hlo] at hgo
  exact hgo
theorem hi_X11_table_X11 : ∀ w ∈ wsX110, w ∈ wsX11_table := fun _ h => List.mem_cons_of_mem _ (List.mem_append_left _ (List.mem_append_right _ h))
abbrev rm_c_table : Room := { frames := 1, cells := 0, slots := 0, locals := 21 }
theorem lf_c_table_0 (y : Int32) (q : Int32) (h_7 : q = 0) (c_9 : y < 0) : ((-3) : Int32) = sp_table 0 y q := by (unfold sp_table; rw [if_pos, if_pos] <;> (simp only [true_or, or_true, false_or, or_false, true_and, and_true, false_and, and_false, not_true_eq_false, not_false_eq_true, i_lt, i_le, i_eq, j_lt, j_le, j_eq, Int32.toInt_toInt64, li_0, lj_0, li_1, lj_1, li_2, lj_2, li_3, lj_3, li_4, lj_4, li_5, lj_5, li_6, lj_6, li_7, lj_7, li_8, lj_8, li_10, lj_10, li_11, lj_11, li_12, lj_12, li_24, lj_24, li_25, lj_25, li_50, lj_50, li_130, lj_130, li_160, lj_160, li_800, lj_800, li_4000, lj_4000, li_10000, lj_10000, li_16384, lj_16384, li_26, lj_26, li_32, lj_32, li_48, lj_48, li_57, lj_57, li_59, lj_59, li_97, lj_97, li_99, lj_99, li_122, lj_122, li_m1, lj_m1, li_m2, lj_m2, li_m3, lj_m3, li_m4, lj_m4, li_m5, lj_m5, li_m6, lj_m6] at * <;> omega))
theorem lf_c_table_1 (y : Int32) (q : Int32) (h_7 : q = 0) (c_9 : ¬ y < 0) (c_10 : y ≤ 1) : ((-4) : Int32) = sp_table 0 y q := by (unfold sp_table; rw [if_pos, if_neg] <;> (simp only [true_or, or_true, false_or, or_false, true_and, and_true, false_and, and_false, not_true_eq_false, not_false_eq_true, i_lt, i_le, i_eq, j_lt, j_le, j_eq, Int32.toInt_toInt64, li_0, lj_0, li_1, lj_1, li_2, lj_2, li_3, lj_3, li_4, lj_4, li_5, lj_5, li_6, lj_6, li_7, lj_7, li_8, lj_8, li_10, lj_10, li_11, lj_11, li_12, lj_12, li_24, lj_24, li_25, lj_25, li_50, lj_50, li_130, lj_130, li_160, lj_160, li_800, lj_800, li_4000, lj_4000, li_10000, lj_10000, li_16384, lj_16384, li_26, lj_26, li_32, lj_32, li_48, lj_48, li_57, lj_57, li_59, lj_59, li_97, lj_97, li_99, lj_99, li_122, lj_122, li_m1, lj_m1, li_m2, lj_m2, li_m3, lj_m3, li_m4, lj_m4, li_m5, lj_m5, li_m6, lj_m6] at * <;> omega))
theorem lf_c_table_2 (y : Int32) (q : Int32) (h_7 : q = 0) (c_9 : ¬ y < 0) (c_10 : ¬ y ≤ 1) : ((-3) : Int32) = sp_table 0 y q := by (unfold sp_table; rw [if_pos, if_pos] <;> (simp only [true_or, or_true, false_or, or_false, true_and, and_true, false_and, and_false, not_true_eq_false, not_false_eq_true, i_lt, i_le, i_eq, j_lt, j_le, j_eq, Int32.toInt_toInt64, li_0, lj_0, li_1, lj_1, li_2, lj_2, li_3, lj_3, li_4, lj_4, li_5, lj_5, li_6, lj_6, li_7, lj_7, li_8, lj_8, li_10, lj_10, li_11, lj_11, li_12, lj_12, li_24, lj_24, li_25, lj_25, li_50, lj_50, li_130, lj_130, li_160, lj_160, li_800, lj_800, li_4000, lj_4000, li_10000, lj_10000, li_16384, lj_16384, li_26, lj_26, li_32, lj_32, li_48, lj_48, li_57, lj_57, li_59, lj_59, li_97, lj_97, li_99, lj_99, li_122, lj_122, li_m1, lj_m1, li_m2, lj_m2, li_m3, lj_m3, li_m4, lj_m4, li_m5, lj_m5, li_m6, lj_m6] at * <;> omega))
theorem lf_c_table_3 (y : Int32) (q : Int32) (h_8 : ¬ q = 0) : ((-2) : Int32) = sp_table 0 y q := by (unfold sp_table; rw [if_neg] <;> (simp only [true_or, or_true, false_or, or_false, true_and, and_true, false_and, and_false, not_true_eq_false, not_false_eq_true, i_lt, i_le, i_eq, j_lt, j_le, j_eq, Int32.toInt_toInt64, li_0, lj_0, li_1, lj_1, li_2, lj_2, li_3, lj_3, li_4, lj_4, li_5, lj_5, li_6, lj_6, li_7, lj_7, li_8, lj_8, li_10, lj_10, li_11, lj_11, li_12, lj_12, li_24, lj_24, li_25, lj_25, li_50, lj_50, li_130, lj_130, li_160, lj_160, li_800, lj_800, li_4000, lj_4000, li_10000, lj_10000, li_16384, lj_16384, li_26, lj_26, li_32, lj_32, li_48, lj_48, li_57, lj_57, li_59, lj_59, li_97, lj_97, li_99, lj_99, li_122, lj_122, li_m1, lj_m1, li_m2, lj_m2, li_m3, lj_m3, li_m4, lj_m4, li_m5, lj_m5, li_m6, lj_m6] at * <;> omega))
theorem lf_c_table_4 (y : Int32) (q : Int32) (h_13 : q = 0) (c_15 : y < 0) : ((-3) : Int32) = sp_table 1 y q := by (unfold sp_table; rw [if_pos, if_pos] <;> (simp only [true_or, or_true, false_or, or_false, true_and, and_true, false_and, and_false, not_true_eq_false, not_false_eq_true, i_lt, i_le, i_eq, j_lt, j_le, j_eq, Int32.toInt_toInt64, li_0, lj_0, li_1, lj_1, li_2, lj_2, li_3, lj_3, li_4, lj_4, li_5, lj_5, li_6, lj_6, li_7, lj_7, li_8, lj_8, li_10, lj_10, li_11, lj_11, li_12, lj_12, li_24, lj_24, li_25, lj_25, li_50, lj_50, li_130, lj_130, li_160, lj_160, li_800, lj_800, li_4000, lj_4000, li_10000, lj_10000, li_16384, lj_16384, li_26, lj_26, li_32, lj_32, li_48, lj_48, li_57, lj_57, li_59, lj_59, li_97, lj_97, li_99, lj_99, li_122, lj_122, li_m1, lj_m1, li_m2, lj_m2, li_m3, lj_m3, li_m4, lj_m4, li_m5, lj_m5, li_m6, lj_m6] at * <;> omega))
theorem lf_c_table_5 (y : Int32) (q : Int32) (h_13 : q = 0) (c_15 : ¬ y < 0) (c_16 : y ≤ 1) : ((-4) : Int32) = sp_table 1 y q := by (unfold sp_table; rw [if_pos, if_neg] <;> (simp only [true_or, or_true, false_or, or_false, true_and, and_true, false_and, and_false, not_true_eq_false, not_false_eq_true, i_lt, i_le, i_eq, j_lt, j_le, j_eq, Int32.toInt_toInt64, li_0, lj_0, li_1, lj_1, li_2, lj_2, li_3, lj_3, li_4, lj_4, li_5, lj_5, li_6, lj_6, li_7, lj_7, li_8, lj_8, li_10, lj_10, li_11, lj_11, li_12, lj_12, li_24, lj_24, li_25, lj_25, li_50, lj_50, li_130, lj_130, li_160, lj_160, li_800, lj_800, li_4000, lj_4000, li_10000, lj_10000, li_16384, lj_16384, li_26, lj_26, li_32, lj_32, li_48, lj_48, li_57, lj_57, li_59, lj_59, li_97, lj_97, li_99, lj_99, li_122, lj_122, li_m1, lj_m1, li_m2, lj_m2, li_m3, lj_m3, li_m4, lj_m4, li_m5, lj_m5, li_m6, lj_m6] at * <;> omega))
theorem lf_c_table_6 (y : Int32) (q : Int32) (h_13 : q = 0) (c_15 : ¬ y < 0) (c_16 : ¬ y ≤ 1) : ((-3) : Int32) = sp_table 1 y q := by (unfold sp_table; rw [if_pos, if_pos] <;> (simp only [true_or, or_true, false_or, or_false, true_and, and_true, false_and, and_false, not_true_eq_false, not_false_eq_true, i_lt, i_le, i_eq, j_lt, j_le, j_eq, Int32.toInt_toInt64, li_0, lj_0, li_1, lj_1, li_2, lj_2, li_3, lj_3, li_4, lj_4, li_5, lj_5, li_6, lj_6, li_7, lj_7, li_8, lj_8, li_10, lj_10, li_11, lj_11, li_12, lj_12, li_24, lj_24, li_25, lj_25, li_50, lj_50, li_130, lj_130, li_160, lj_160, li_800, lj_800, li_4000, lj_4000, li_10000, lj_10000, li_16384, lj_16384, li_26, lj_26, li_32, lj_32, li_48, lj_48, li_57, lj_57, li_59, lj_59, li_97, lj_97, li_99, lj_99, li_122, lj_122, li_m1, lj_m1, li_m2, lj_m2, li_m3, lj_m3, li_m4, lj_m4, li_m5, lj_m5, li_m6, lj_m6] at * <;> omega))
theorem lf_c_table_7 (y : Int32) (q : Int32) (h_14 : ¬ q = 0) : ((-2) : Int32) = sp_table 1 y q := by (unfold sp_table; rw [if_neg] <;> (simp only [true_or, or_true, false_or, or_false, true_and, and_true, false_and, and_false, not_true_eq_false, not_false_eq_true, i_lt, i_le, i_eq, j_lt, j_le, j_eq, Int32.toInt_toInt64, li_0, lj_0, li_1, lj_1, li_2, lj_2, li_3, lj_3, li_4, lj_4, li_5, lj_5, li_6, lj_6, li_7, lj_7, li_8, lj_8, li_10, lj_10, li_11, lj_11, li_12, lj_12, li_24, lj_24, li_25, lj_25, li_50, lj_50, li_130, lj_130, li_160, lj_160, li_800, lj_800, li_4000, lj_4000, li_10000, lj_10000, li_16384, lj_16384, li_26, lj_26, li_32, lj_32, li_48, lj_48, li_57, lj_57, li_59, lj_59, li_97, lj_97, li_99, lj_99, li_122, lj_122, li_m1, lj_m1, li_m2, lj_m2, li_m3, lj_m3, li_m4, lj_m4, li_m5, lj_m5, li_m6, lj_m6] at * <;> omega))
theorem lf_c_table_8 (x : Int32) (y : Int32) (q : Int32) (h_4 : ¬ (x = 0 ∨ x = 1)) : ((-2) : Int32) = sp_table x y q := by (unfold sp_table; rw [if_neg] <;> (simp only [true_or, or_true, false_or, or_false, true_and, and_true, false_and, and_false, not_true_eq_false, not_false_eq_true, i_lt, i_le, i_eq, j_lt, j_le, j_eq, Int32.toInt_toInt64, li_0, lj_0, li_1, lj_1, li_2, lj_2, li_3, lj_3, li_4, lj_4, li_5, lj_5, li_6, lj_6, li_7, lj_7, li_8, lj_8, li_10, lj_10, li_11, lj_11, li_12, lj_12, li_24, lj_24, li_25, lj_25, li_50, lj_50, li_130, lj_130, li_160, lj_160, li_800, lj_800, li_4000, lj_4000, li_10000, lj_10000, li_16384, lj_16384, li_26, lj_26, li_32, lj_32, li_48, lj_48, li_57, lj_57, li_59, lj_59, li_97, lj_97, li_99, lj_99, li_122, lj_122, li_m1, lj_m1, li_m2, lj_m2, li_m3, lj_m3, li_m4, lj_m4, li_m5, lj_m5, li_m6, lj_m6] at * <;> omega))
set_option maxHeartbeats 4000000 in
set_option maxRecDepth 100000 in
theorem c_table (l : Launch) (g : va_G) (cT : Nat → ClassId) (sz : Nat) (o : Nat) (ra : Nat) (tx : Nat) (lt : Nat) (wl : Nat) (rw : Nat) (kA : Nat) (bA : Nat) (lA : Nat) (r0 : Nat) (r1 : Nat) (a0 : Nat) (a1 : Nat) (x : Int32) (y : Int32) (q : Int32)  : Ctr l g cT sz yX11_table wsX11_table rm_c_table [.ref o, .int x, .int y, .int q] [(o, .inr (11, [.ref ra, .ref tx, .ref lt, .int 0, .ref wl, .ref rw, .ref kA, .ref bA, .ref lA, .null, .null])), (ra, .inl (cT 3, 2, .inr (.inr (.inr (.inr (va_up (va_up (fun _ => none) 0 (some r0)) 1 (some r1))))))), (r0, .inr (6, [.int 1, .int 0, .int 0, .int 0, .ref a0])), (a0, .inl (cT 0, 25, .inl (fun _ => (-1)))), (r1, .inr (6, [.int 1, .int 0, .int 0, .int 0, .ref a1])), (a1, .inl (cT 0, 25, .inl (fun _ => (-1))))] (QI g (fun (r : Int32) (u : Unit) => r = sp_table x y q) (fun (u : Unit) => [])) 0 0 := by
  refine mk_ctr (cc := cX11_table) (maxL := 4) (ret := (some .int)) (by decide) rfl (Nat.le_of_ble_eq_true rfl) ?_
  intro p e s m args below meth c A Q hx hb hr hts hown hlocks hin hml hP hK hD hN hZ hA hS hQ ls hl
  have hl : lv_has ls 4 [(0, .ref o), (1, .int x), (2, .int y), (3, .int q)] := hl
  obtain ⟨H, hH⟩ : ∃ H : Heap, H = s.heap := ⟨_, rfl⟩
  obtain ⟨locs, hlo⟩ : ∃ x : List Loc, x = [] := ⟨_, rfl⟩
  rw [← hH] at hP
  have hS : va_S A s.heap H locs := by rw [hH, hlo]; exact hS
  have hgo : W p l e rm_c_table s m args below meth c H locs 0 0 Q (F0 m 0 ls []) := by
    clear hH hlo
    refine lv_iload_n hx hb dX11_table_0 rfl (lv_at hl 1 rfl) ?_
    refine cp_i (va_runS (As := [.int x]) (rest := []) ⟨hx, hb, hml, hown, hts⟩ (c_isReader l g cT H.size x) (va_cwS 1 hts gX11_table_X11_isReader rfl rfl rfl yd_X11_isReader.2 ⟨(Nat.le_of_ble_eq_true rfl), (Nat.le_of_ble_eq_true rfl)⟩) (preS (ws := []) (wc := []) rfl (fun _ _ h => by simp at h) (va_D_nil (A := A)) hK hN hZ hS hA [] rfl rfl) rfl rfl hl.1 rfl (lv_room (Nat.le_of_ble_eq_true rfl)) dX11_table_1 ⟨(Nat.le_of_ble_eq_true rfl), (Nat.le_of_ble_eq_true rfl)⟩) hP hS hA (fun r_1 u H locs h_2 hP hS => ?_)
    rcases h_2 with ⟨rfl, h_3⟩ | ⟨rfl, h_4⟩
    · skip
      rcases h_3 with rfl | rfl
      · skip
        refine if_eq_f hx hb dX11_table_4 20 (by decide) (by decide) ?_
        refine lv_aload_n hx hb dX11_table_7 rfl (lv_at hl 0 rfl) ?_
        refine va_get (C := RX11) (T := TX11) (N := 11) (v := .ref ra) hx hb hts hi_X11_table_X11 hown hK hP 0 rfl rfl 0 (by decide) (hts (.fieldLink RX11 11 "BothWays" "readers" "[LBothWays$Reader;") (by decide +kernel)) (fun _ h => h) rfl dX11_table_8 ?_
        refine lv_iload_n hx hb dX11_table_11 rfl (lv_at hl 1 rfl) ?_
        refine w_aald (v := .ref r0) hx hb hK hP 1 3 rfl rfl dX11_table_12 (inC (by decide)) rfl ?_
        refine lv_iload_n hx hb dX11_table_13 rfl (lv_at hl 3 rfl) ?_
        refine cj_i 0 0 (wr := [(o, .inr (11, [.ref ra, .ref tx, .ref lt, .int 0, .ref wl, .ref rw, .ref kA, .ref bA, .ref lA, .null, .null])), (ra, .inl (cT 3, 2, .inr (.inr (.inr (.inr (va_up (va_up (fun _ => none) 0 (some r0)) 1 (some r1))))))), (a0, .inl (cT 0, 25, .inl (fun _ => (-1)))), (r1, .inr (6, [.int 1, .int 0, .int 0, .int 0, .ref a1])), (a1, .inl (cT 0, 25, .inl (fun _ => (-1))))]) (va_runV (As := [.int q]) (rest := []) ⟨hx, hb, hml, hown, hts⟩ (c_R_hasState l g cT H.size r0 a0 0 q) (cwV 1 hts gX11_table_X6_hasState rfl rfl rfl yd_X6_hasState ⟨(Nat.le_of_ble_eq_true rfl), (Nat.le_of_ble_eq_true rfl)⟩) (preV (wc := [(r0, .inr (6, [.int 1, .int 0, .int 0, .int 0, .ref a0]))]) rfl hP hD hK hN hZ hS hA [2] rfl (by decide) (ci := 6) (q0 := 2) rfl rfl) rfl rfl hl.1 rfl (lv_room (Nat.le_of_ble_eq_true rfl)) dX11_table_14 ⟨(Nat.le_of_ble_eq_true rfl), (Nat.le_of_ble_eq_true rfl)⟩) hP hD hS hA [2] [0, 1, 3, 4, 5] rfl rfl (by decide) (by decide) (Nat.le_of_ble_eq_true rfl) (Nat.le_of_ble_eq_true rfl) (fun r_5 u H locs h_6 hP hD hS => ?_)
        have hP : va_P g vwCl [(o, .inr (11, [.ref ra, .ref tx, .ref lt, .int 0, .ref wl, .ref rw, .ref kA, .ref bA, .ref lA, .null, .null])), (ra, .inl (cT 3, 2, .inr (.inr (.inr (.inr (va_up (va_up (fun _ => none) 0 (some r0)) 1 (some r1))))))), (a0, .inl (cT 0, 25, .inl (fun _ => (-1)))), (r1, .inr (6, [.int 1, .int 0, .int 0, .int 0, .ref a1])), (a1, .inl (cT 0, 25, .inl (fun _ => (-1)))), (r0, .inr (6, [.int 1, .int 0, .int 0, .int 0, .ref a0]))] H := hP
        have hD : va_D A [(o, .inr (11, [.ref ra, .ref tx, .ref lt, .int 0, .ref wl, .ref rw, .ref kA, .ref bA, .ref lA, .null, .null])), (ra, .inl (cT 3, 2, .inr (.inr (.inr (.inr (va_up (va_up (fun _ => none) 0 (some r0)) 1 (some r1))))))), (a0, .inl (cT 0, 25, .inl (fun _ => (-1)))), (r1, .inr (6, [.int 1, .int 0, .int 0, .int 0, .ref a1])), (a1, .inl (cT 0, 25, .inl (fun _ => (-1)))), (r0, .inr (6, [.int 1, .int 0, .int 0, .int 0, .ref a0]))] := hD
        rcases h_6 with ⟨rfl, h_7⟩ | ⟨rfl, h_8⟩
        · skip
          refine if_ne_t hx hb 23 dX11_table_17 (by decide) (by decide) ?_
          refine lv_iload_n hx hb dX11_table_23 rfl (lv_at hl 2 rfl) ?_
          refine lv_if_lt (tgt := 32) hx hb dX11_table_24 (by decide) (fun c_9 => ?_) (fun c_9 => ?_)
          · skip
            refine lv_bipush (v := (-3)) hx hb dX11_table_32 (by decide) ?_
            exact rt_i hx hb hr hlocks hQ hP hD hS () [] dX11_table_34 rfl (Nat.le_of_ble_eq_true rfl) (Nat.le_of_ble_eq_true rfl) rfl (by decide) (lf_c_table_0 y q h_7 c_9)
          · skip
            refine lv_iload_n hx hb dX11_table_27 rfl (lv_at hl 2 rfl) ?_
            refine lv_iconst (v := 1) hx hb dX11_table_28 (by decide) ?_
            refine lv_icmp_le (tgt := 35) hx hb dX11_table_29 (by decide) (fun c_10 => ?_) (fun c_10 => ?_)
            · skip
              refine lv_aload_n hx hb dX11_table_35 rfl (lv_at hl 0 rfl) ?_
              refine va_get (C := RX11) (T := TX11) (N := 11) (v := .int 0) hx hb hts hi_X11_table_X11 hown hK hP 0 rfl rfl 3 (by decide) (hts (.fieldLink RX11 26 "BothWays" "length" "I") (by decide +kernel)) (fun _ h => h) rfl dX11_table_36 ?_
              refine if_ne_f hx hb dX11_table_39 45 (by decide) (by decide) ?_
              refine lv_bipush (v := (-4)) hx hb dX11_table_42 (by decide) ?_
              exact rt_i hx hb hr hlocks hQ hP hD hS () [] dX11_table_44 rfl (Nat.le_of_ble_eq_true rfl) (Nat.le_of_ble_eq_true rfl) rfl (by decide) (lf_c_table_1 y q h_7 c_9 c_10)
            · skip
              refine lv_bipush (v := (-3)) hx hb dX11_table_32 (by decide) ?_
              exact rt_i hx hb hr hlocks hQ hP hD hS () [] dX11_table_34 rfl (Nat.le_of_ble_eq_true rfl) (Nat.le_of_ble_eq_true rfl) rfl (by decide) (lf_c_table_2 y q h_7 c_9 c_10)
        · skip
          refine if_ne_f hx hb dX11_table_17 23 (by decide) (by decide) ?_
          refine lv_bipush (v := (-2)) hx hb dX11_table_20 (by decide) ?_
          exact rt_i hx hb hr hlocks hQ hP hD hS () [] dX11_table_22 rfl (Nat.le_of_ble_eq_true rfl) (Nat.le_of_ble_eq_true rfl) rfl (by decide) (lf_c_table_3 y q h_8)
      · skip
        refine if_eq_f hx hb dX11_table_4 20 (by decide) (by decide) ?_
        refine lv_aload_n hx hb dX11_table_7 rfl (lv_at hl 0 rfl) ?_
        refine va_get (C := RX11) (T := TX11) (N := 11) (v := .ref ra) hx hb hts hi_X11_table_X11 hown hK hP 0 rfl rfl 0 (by decide) (hts (.fieldLink RX11 11 "BothWays" "readers" "[LBothWays$Reader;") (by decide +kernel)) (fun _ h => h) rfl dX11_table_8 ?_
        refine lv_iload_n hx hb dX11_table_11 rfl (lv_at hl 1 rfl) ?_
        refine w_aald (v := .ref r1) hx hb hK hP 1 3 rfl rfl dX11_table_12 (inC (by decide)) rfl ?_
        refine lv_iload_n hx hb dX11_table_13 rfl (lv_at hl 3 rfl) ?_
        refine cj_i 0 0 (wr := [(o, .inr (11, [.ref ra, .ref tx, .ref lt, .int 0, .ref wl, .ref rw, .ref kA, .ref bA, .ref lA, .null, .null])), (ra, .inl (cT 3, 2, .inr (.inr (.inr (.inr (va_up (va_up (fun _ => none) 0 (some r0)) 1 (some r1))))))), (r0, .inr (6, [.int 1, .int 0, .int 0, .int 0, .ref a0])), (a0, .inl (cT 0, 25, .inl (fun _ => (-1)))), (a1, .inl (cT 0, 25, .inl (fun _ => (-1))))]) (va_runV (As := [.int q]) (rest := []) ⟨hx, hb, hml, hown, hts⟩ (c_R_hasState l g cT H.size r1 a1 0 q) (cwV 1 hts gX11_table_X6_hasState rfl rfl rfl yd_X6_hasState ⟨(Nat.le_of_ble_eq_true rfl), (Nat.le_of_ble_eq_true rfl)⟩) (preV (wc := [(r1, .inr (6, [.int 1, .int 0, .int 0, .int 0, .ref a1]))]) rfl hP hD hK hN hZ hS hA [4] rfl (by decide) (ci := 6) (q0 := 4) rfl rfl) rfl rfl hl.1 rfl (lv_room (Nat.le_of_ble_eq_true rfl)) dX11_table_14 ⟨(Nat.le_of_ble_eq_true rfl), (Nat.le_of_ble_eq_true rfl)⟩) hP hD hS hA [4] [0, 1, 2, 3, 5] rfl rfl (by decide) (by decide) (Nat.le_of_ble_eq_true rfl) (Nat.le_of_ble_eq_true rfl) (fun r_11 u H locs h_12 hP hD hS => ?_)
        have hP : va_P g vwCl [(o, .inr (11, [.ref ra, .ref tx, .ref lt, .int 0, .ref wl, .ref rw, .ref kA, .ref bA, .ref lA, .null, .null])), (ra, .inl (cT 3, 2, .inr (.inr (.inr (.inr (va_up (va_up (fun _ => none) 0 (some r0)) 1 (some r1))))))), (r0, .inr (6, [.int 1, .int 0, .int 0, .int 0, .ref a0])), (a0, .inl (cT 0, 25, .inl (fun _ => (-1)))), (a1, .inl (cT 0, 25, .inl (fun _ => (-1)))), (r1, .inr (6, [.int 1, .int 0, .int 0, .int 0, .ref a1]))] H := hP
        have hD : va_D A [(o, .inr (11, [.ref ra, .ref tx, .ref lt, .int 0, .ref wl, .ref rw, .ref kA, .ref bA, .ref lA, .null, .null])), (ra, .inl (cT 3, 2, .inr (.inr (.inr (.inr (va_up (va_up (fun _ => none) 0 (some r0)) 1 (some r1))))))), (r0, .inr (6, [.int 1, .int 0, .int 0, .int 0, .ref a0])), (a0, .inl (cT 0, 25, .inl (fun _ => (-1)))), (a1, .inl (cT 0, 25, .inl (fun _ => (-1)))), (r1, .inr (6, [.int 1, .int 0, .int 0, .int 0, .ref a1]))] := hD
        rcases h_12 with ⟨rfl, h_13⟩ | ⟨rfl, h_14⟩
        · skip
          refine if_ne_t hx hb 23 dX11_table_17 (by decide) (by decide) ?_
          refine lv_iload_n hx hb dX11_table_23 rfl (lv_at hl 2 rfl) ?_
          refine lv_if_lt (tgt := 32) hx hb dX11_table_24 (by decide) (fun c_15 => ?_) (fun c_15 => ?_)
          · skip
            refine lv_bipush (v := (-3)) hx hb dX11_table_32 (by decide) ?_
            exact rt_i hx hb hr hlocks hQ hP hD hS () [] dX11_table_34 rfl (Nat.le_of_ble_eq_true rfl) (Nat.le_of_ble_eq_true rfl) rfl (by decide) (lf_c_table_4 y q h_13 c_15)
          · skip
            refine lv_iload_n hx hb dX11_table_27 rfl (lv_at hl 2 rfl) ?_
            refine lv_iconst (v := 1) hx hb dX11_table_28 (by decide) ?_
            refine lv_icmp_le (tgt := 35) hx hb dX11_table_29 (by decide) (fun c_16 => ?_) (fun c_16 => ?_)
            · skip
              refine lv_aload_n hx hb dX11_table_35 rfl (lv_at hl 0 rfl) ?_
              refine va_get (C := RX11) (T := TX11) (N := 11) (v := .int 0) hx hb hts hi_X11_table_X11 hown hK hP 0 rfl rfl 3 (by decide) (hts (.fieldLink RX11 26 "BothWays" "length" "I") (by decide +kernel)) (fun _ h => h) rfl dX11_table_36 ?_
              refine if_ne_f hx hb dX11_table_39 45 (by decide) (by decide) ?_
              refine lv_bipush (v := (-4)) hx hb dX11_table_42 (by decide) ?_
              exact rt_i hx hb hr hlocks hQ hP hD hS () [] dX11_table_44 rfl (Nat.le_of_ble_eq_true rfl) (Nat.le_of_ble_eq_true rfl) rfl (by decide) (lf_c_table_5 y q h_13 c_15 c_16)
            · skip
              refine lv_bipush (v := (-3)) hx hb dX11_table_32 (by decide) ?_
              exact rt_i hx hb hr hlocks hQ hP hD hS () [] dX11_table_34 rfl (Nat.le_of_ble_eq_true rfl) (Nat.le_of_ble_eq_true rfl) rfl (by decide) (lf_c_table_6 y q h_13 c_15 c_16)
        · skip
          refine if_ne_f hx hb dX11_table_17 23 (by decide) (by decide) ?_
          refine lv_bipush (v := (-2)) hx hb dX11_table_20 (by decide) ?_
          exact rt_i hx hb hr hlocks hQ hP hD hS () [] dX11_table_22 rfl (Nat.le_of_ble_eq_true rfl) (Nat.le_of_ble_eq_true rfl) rfl (by decide) (lf_c_table_7 y q h_14)
    · skip
      refine if_eq_t hx hb 20 dX11_table_4 (by decide) (by decide) ?_
      refine lv_bipush (v := (-2)) hx hb dX11_table_20 (by decide) ?_
      exact rt_i hx hb hr hlocks hQ hP hD hS () [] dX11_table_22 rfl (Nat.le_of_ble_eq_true rfl) (Nat.le_of_ble_eq_true rfl) rfl (by decide) (lf_c_table_8 x y q h_4)
  rw [hH, hlo] at hgo
  exact hgo
theorem hi_X11_like_X11 : ∀ w ∈ wsX110, w ∈ wsX11_like := fun _ h => List.mem_cons_of_mem _ (List.mem_append_left _ (List.mem_append_left _ (List.mem_append_left _ (List.mem_append_left _ (List.mem_append_right _ h)))))
abbrev rm_c_like : Room := { frames := 1, cells := 0, slots := 0, locals := 20 }
theorem lf_c_like_0 (x : Int32) (kk : Int32) (h_3 : x = 0 ∨ x = 1) (c_5 : (-1) ≤ kk) : ((-4) : Int32) = sp_like x kk := by (unfold sp_like; rw [if_pos, if_neg] <;> (simp only [true_or, or_true, false_or, or_false, true_and, and_true, false_and, and_false, not_true_eq_false, not_false_eq_true, i_lt, i_le, i_eq, j_lt, j_le, j_eq, Int32.toInt_toInt64, li_0, lj_0, li_1, lj_1, li_2, lj_2, li_3, lj_3, li_4, lj_4, li_5, lj_5, li_6, lj_6, li_7, lj_7, li_8, lj_8, li_10, lj_10, li_11, lj_11, li_12, lj_12, li_24, lj_24, li_25, lj_25, li_50, lj_50, li_130, lj_130, li_160, lj_160, li_800, lj_800, li_4000, lj_4000, li_10000, lj_10000, li_16384, lj_16384, li_26, lj_26, li_32, lj_32, li_48, lj_48, li_57, lj_57, li_59, lj_59, li_97, lj_97, li_99, lj_99, li_122, lj_122, li_m1, lj_m1, li_m2, lj_m2, li_m3, lj_m3, li_m4, lj_m4, li_m5, lj_m5, li_m6, lj_m6] at * <;> omega))
theorem lf_c_like_1 (x : Int32) (kk : Int32) (h_3 : x = 0 ∨ x = 1) (c_5 : ¬ (-1) ≤ kk) : ((-3) : Int32) = sp_like x kk := by (unfold sp_like; rw [if_pos, if_pos] <;> (simp only [true_or, or_true, false_or, or_false, true_and, and_true, false_and, and_false, not_true_eq_false, not_false_eq_true, i_lt, i_le, i_eq, j_lt, j_le, j_eq, Int32.toInt_toInt64, li_0, lj_0, li_1, lj_1, li_2, lj_2, li_3, lj_3, li_4, lj_4, li_5, lj_5, li_6, lj_6, li_7, lj_7, li_8, lj_8, li_10, lj_10, li_11, lj_11, li_12, lj_12, li_24, lj_24, li_25, lj_25, li_50, lj_50, li_130, lj_130, li_160, lj_160, li_800, lj_800, li_4000, lj_4000, li_10000, lj_10000, li_16384, lj_16384, li_26, lj_26, li_32, lj_32, li_48, lj_48, li_57, lj_57, li_59, lj_59, li_97, lj_97, li_99, lj_99, li_122, lj_122, li_m1, lj_m1, li_m2, lj_m2, li_m3, lj_m3, li_m4, lj_m4, li_m5, lj_m5, li_m6, lj_m6] at * <;> omega))
theorem lf_c_like_2 (x : Int32) (kk : Int32) (h_4 : ¬ (x = 0 ∨ x = 1)) : ((-2) : Int32) = sp_like x kk := by (unfold sp_like; rw [if_neg] <;> (simp only [true_or, or_true, false_or, or_false, true_and, and_true, false_and, and_false, not_true_eq_false, not_false_eq_true, i_lt, i_le, i_eq, j_lt, j_le, j_eq, Int32.toInt_toInt64, li_0, lj_0, li_1, lj_1, li_2, lj_2, li_3, lj_3, li_4, lj_4, li_5, lj_5, li_6, lj_6, li_7, lj_7, li_8, lj_8, li_10, lj_10, li_11, lj_11, li_12, lj_12, li_24, lj_24, li_25, lj_25, li_50, lj_50, li_130, lj_130, li_160, lj_160, li_800, lj_800, li_4000, lj_4000, li_10000, lj_10000, li_16384, lj_16384, li_26, lj_26, li_32, lj_32, li_48, lj_48, li_57, lj_57, li_59, lj_59, li_97, lj_97, li_99, lj_99, li_122, lj_122, li_m1, lj_m1, li_m2, lj_m2, li_m3, lj_m3, li_m4, lj_m4, li_m5, lj_m5, li_m6, lj_m6] at * <;> omega))
set_option maxHeartbeats 4000000 in
set_option maxRecDepth 100000 in
theorem c_like (l : Launch) (g : va_G) (cT : Nat → ClassId) (sz : Nat) (o : Nat) (ra : Nat) (tx : Nat) (lt : Nat) (wl : Nat) (rw : Nat) (kA : Nat) (bA : Nat) (lA : Nat) (x : Int32) (kk : Int32)  : Ctr l g cT sz yX11_like wsX11_like rm_c_like [.ref o, .int x, .int kk] [(o, .inr (11, [.ref ra, .ref tx, .ref lt, .int 0, .ref wl, .ref rw, .ref kA, .ref bA, .ref lA, .null, .null]))] (QI g (fun (r : Int32) (u : Unit) => r = sp_like x kk) (fun (u : Unit) => [])) 0 0 := by
  refine mk_ctr (cc := cX11_like) (maxL := 6) (ret := (some .int)) (by decide) rfl (Nat.le_of_ble_eq_true rfl) ?_
  intro p e s m args below meth c A Q hx hb hr hts hown hlocks hin hml hP hK hD hN hZ hA hS hQ ls hl
  have hl : lv_has ls 6 [(0, .ref o), (1, .int x), (2, .int kk)] := hl
  obtain ⟨H, hH⟩ : ∃ H : Heap, H = s.heap := ⟨_, rfl⟩
  obtain ⟨locs, hlo⟩ : ∃ x : List Loc, x = [] := ⟨_, rfl⟩
  rw [← hH] at hP
  have hS : va_S A s.heap H locs := by rw [hH, hlo]; exact hS
  have hgo : W p l e rm_c_like s m args below meth c H locs 0 0 Q (F0 m 0 ls []) := by
    clear hH hlo
    refine lv_iload_n hx hb dX11_like_0 rfl (lv_at hl 1 rfl) ?_
    refine cp_i (va_runS (As := [.int x]) (rest := []) ⟨hx, hb, hml, hown, hts⟩ (c_isReader l g cT H.size x) (va_cwS 1 hts gX11_like_X11_isReader rfl rfl rfl yd_X11_isReader.2 ⟨(Nat.le_of_ble_eq_true rfl), (Nat.le_of_ble_eq_true rfl)⟩) (preS (ws := []) (wc := []) rfl (fun _ _ h => by simp at h) (va_D_nil (A := A)) hK hN hZ hS hA [] rfl rfl) rfl rfl hl.1 rfl (lv_room (Nat.le_of_ble_eq_true rfl)) dX11_like_1 ⟨(Nat.le_of_ble_eq_true rfl), (Nat.le_of_ble_eq_true rfl)⟩) hP hS hA (fun r_1 u H locs h_2 hP hS => ?_)
    rcases h_2 with ⟨rfl, h_3⟩ | ⟨rfl, h_4⟩
    · skip
      refine if_ne_t hx hb 10 dX11_like_4 (by decide) (by decide) ?_
      refine lv_iload_n hx hb dX11_like_10 rfl (lv_at hl 2 rfl) ?_
      refine lv_iconst (v := (-1)) hx hb dX11_like_11 (by decide) ?_
      refine lv_icmp_ge (tgt := 18) hx hb dX11_like_12 (by decide) (fun c_5 => ?_) (fun c_5 => ?_)
      · skip
        refine lv_aload_n hx hb dX11_like_18 rfl (lv_at hl 0 rfl) ?_
        refine va_get (C := RX11) (T := TX11) (N := 11) (v := .int 0) hx hb hts hi_X11_like_X11 hown hK hP 0 rfl rfl 3 (by decide) (hts (.fieldLink RX11 26 "BothWays" "length" "I") (by decide +kernel)) (fun _ h => h) rfl dX11_like_19 ?_
        refine if_ne_f hx hb dX11_like_22 28 (by decide) (by decide) ?_
        refine lv_bipush (v := (-4)) hx hb dX11_like_25 (by decide) ?_
        exact rt_i hx hb hr hlocks hQ hP hD hS () [] dX11_like_27 rfl (Nat.le_of_ble_eq_true rfl) (Nat.le_of_ble_eq_true rfl) rfl (by decide) (lf_c_like_0 x kk h_3 c_5)
      · skip
        refine lv_bipush (v := (-3)) hx hb dX11_like_15 (by decide) ?_
        exact rt_i hx hb hr hlocks hQ hP hD hS () [] dX11_like_17 rfl (Nat.le_of_ble_eq_true rfl) (Nat.le_of_ble_eq_true rfl) rfl (by decide) (lf_c_like_1 x kk h_3 c_5)
    · skip
      refine if_ne_f hx hb dX11_like_4 10 (by decide) (by decide) ?_
      refine lv_bipush (v := (-2)) hx hb dX11_like_7 (by decide) ?_
      exact rt_i hx hb hr hlocks hQ hP hD hS () [] dX11_like_9 rfl (Nat.le_of_ble_eq_true rfl) (Nat.le_of_ble_eq_true rfl) rfl (by decide) (lf_c_like_2 x kk h_4)
  rw [hH, hlo] at hgo
  exact hgo
