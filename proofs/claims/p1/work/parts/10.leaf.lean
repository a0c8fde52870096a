abbrev rm_c_fillI : Room := { frames := 0, cells := 0, slots := 0, locals := 0 }
set_option maxHeartbeats 4000000 in
set_option maxRecDepth 100000 in
theorem c_fillI (l : Launch) (g : va_G) (cT : Nat → ClassId) (sz : Nat) (a : Nat) (n : Nat) (f : Nat → Int32) (v : Int32) (hn : n < 2 ^ 31) : Ctr l g cT sz yJ7_fill_53178 wsJ7_fill_53178 rm_c_fillI [.ref a, .int v] [(a, .inl (cT 0, n, .inl f))] (QV g (fun (u : Unit) => True) (fun (u : Unit) => [(a, .inl (cT 0, n, .inl (fun _ => v)))])) 0 0 := by
  refine mk_ctr (cc := cJ7_fill_53178) (maxL := 4) (ret := none) (by decide) rfl (Nat.le_of_ble_eq_true rfl) ?_
  intro p e s m args below meth c A Q hx hb hr hts hown hlocks hin hml hP hK hD hN hZ hA hS hQ ls hl
  have hl : lv_has ls 4 [(0, .ref a), (1, .int v)] := hl
  obtain ⟨H, hH⟩ : ∃ H : Heap, H = s.heap := ⟨_, rfl⟩
  obtain ⟨locs, hlo⟩ : ∃ x : List Loc, x = [] := ⟨_, rfl⟩
  rw [← hH] at hP
  have hS : va_S A s.heap H locs := by rw [hH, hlo]; exact hS
  have hgo : W p l e rm_c_fillI s m args below meth c H locs 0 0 Q (F0 m 0 ls []) := by
    clear hH hlo
    refine lv_iconst (v := 0) hx hb dJ7_fill_53178_0 (by decide) ?_
    refine lv_istore_n (lv' := [(2, .int 0), (0, .ref a), (1, .int v)]) hx hb dJ7_fill_53178_1 rfl hl (by decide) rfl (fun ls hl => ?_)
    refine lv_aload_n hx hb dJ7_fill_53178_2 rfl (lv_at hl 1 rfl) ?_
    refine va_alen (v := (nI n)) hx hb hK hP 0 0 rfl rfl rfl dJ7_fill_53178_3 ?_
    refine lv_istore_n (lv' := [(3, .int (nI n)), (2, .int 0), (0, .ref a), (1, .int v)]) hx hb dJ7_fill_53178_4 rfl hl (by decide) rfl (fun ls hl => ?_)
    have loop_1 : ∀ (fuel : Nat) (j : Nat) (f2 : Nat → Int32), j ≤ n → (∀ k, k < j → f2 k = v) → n - j < fuel → ∀ (H : Heap) (locs : List Loc), va_P g vwCl [(a, .inl (cT 0, n, .inl f2))] H → va_D A [(a, .inl (cT 0, n, .inl f2))] → va_S A s.heap H locs → ∀ ls : Array Slot, lv_has ls 4 [(3, .int (nI n)), (2, .int (nI j)), (0, .ref a), (1, .int v)] → W p l e rm_c_fillI s m args below meth c H locs 0 0 Q (F0 m 5 ls []) := by
      intro fuel
      induction fuel with
      | zero => intro j f2 hj hf hfu; omega
      | succ fuel ih_loop_1 =>
        intro j f2 hj hf hfu H locs hP hD hS ls hl
        refine lv_iload_n hx hb dJ7_fill_53178_5 rfl (lv_at hl 1 rfl) ?_
        refine lv_iload_n hx hb dJ7_fill_53178_6 rfl (lv_at hl 0 rfl) ?_
        refine lv_icmp_ge (tgt := 20) hx hb dJ7_fill_53178_7 (by decide) (fun c_2 => ?_) (fun c_2 => ?_)
        · skip
          have hge : n ≤ j := (nI_leI hn (by omega)).mp c_2
          obtain ⟨hP, hD⟩ := swI hP hD 0 (fun _ => v) rfl (fun k hk => hf k (by omega))
          have hP : va_P g vwCl [(a, .inl (cT 0, n, .inl (fun _ => v)))] H := hP
          have hD : va_D A [(a, .inl (cT 0, n, .inl (fun _ => v)))] := hD
          exact rt_v hx hb hr hlocks hQ hP hD hS () [0] dJ7_fill_53178_20 (Nat.le_of_ble_eq_true rfl) (Nat.le_of_ble_eq_true rfl) rfl (by decide) trivial
        · skip
          have hlt : j < n := Nat.lt_of_not_le (fun h => c_2 (nI_le h (by omega)))
          refine lv_aload_n hx hb dJ7_fill_53178_10 rfl (lv_at hl 2 rfl) ?_
          refine lv_iload_n hx hb dJ7_fill_53178_11 rfl (lv_at hl 1 rfl) ?_
          refine lv_iload_n hx hb dJ7_fill_53178_12 rfl (lv_at hl 3 rfl) ?_
          obtain ⟨f_3, ef_3⟩ : ∃ z, z = upd f2 (nI j).toNatClampNeg v := ⟨_, rfl⟩
          refine w_iast (f' := f_3) hx hb hK hP hD hS 0 rfl dJ7_fill_53178_13 (vp_in_nI hlt hn) ef_3.symm (fun H locs hP hD hS => ?_)
          have hP : va_P g vwCl [(a, .inl (cT 0, n, .inl f_3))] H := hP
          have hD : va_D A [(a, .inl (cT 0, n, .inl f_3))] := hD
          refine lv_iinc (v := (nI (j + 1))) (lv' := [(2, .int (nI (j + 1))), (3, .int (nI n)), (0, .ref a), (1, .int v)]) hx hb dJ7_fill_53178_14 hl (k := 1) rfl (nI_1 j) (by decide) rfl (fun ls hl => ?_)
          refine lv_goto (tgt := 5) hx hb dJ7_fill_53178_17 (by decide) ?_
          exact ih_loop_1 (j + 1) f_3 (by omega) (fun k hk => by rw [ef_3]; simp only [upd, nI_clamp (show j < 2 ^ 31 by omega)]; split; rfl; exact hf k (by omega)) (by omega) _ _ (hP.sub [0] rfl) (hD.sub [0] (by decide) rfl) hS ls (lv_sub hl [1, 0, 2, 3] rfl)
    exact loop_1 _ 0 f (Nat.zero_le _) (fun k hk => absurd hk (Nat.not_lt_zero k)) (Nat.lt_succ_self _) _ _ (hP.sub [0] rfl) (hD.sub [0] (by decide) rfl) hS ls (lv_sub hl [0, 1, 2, 3] rfl)
  rw [hH, hlo] at hgo
  exact hgo
abbrev rm_c_fillJ : Room := { frames := 0, cells := 0, slots := 0, locals := 0 }
set_option maxHeartbeats 4000000 in
set_option maxRecDepth 100000 in
theorem c_fillJ (l : Launch) (g : va_G) (cT : Nat → ClassId) (sz : Nat) (a : Nat) (n : Nat) (f : Nat → Int64) (v : Int64) (hn : n < 2 ^ 31) : Ctr l g cT sz yJ7_fill_d0a16 wsJ7_fill_d0a16 rm_c_fillJ [.ref a, .long v] [(a, .inl (cT 1, n, .inr (.inl f)))] (QV g (fun (u : Unit) => True) (fun (u : Unit) => [(a, .inl (cT 1, n, .inr (.inl (fun _ => v))))])) 0 0 := by
  refine mk_ctr (cc := cJ7_fill_d0a16) (maxL := 5) (ret := none) (by decide) rfl (Nat.le_of_ble_eq_true rfl) ?_
  intro p e s m args below meth c A Q hx hb hr hts hown hlocks hin hml hP hK hD hN hZ hA hS hQ ls hl
  have hl : lv_has ls 5 [(0, .ref a), (1, .long v)] := hl
  obtain ⟨H, hH⟩ : ∃ H : Heap, H = s.heap := ⟨_, rfl⟩
  obtain ⟨locs, hlo⟩ : ∃ x : List Loc, x = [] := ⟨_, rfl⟩
  rw [← hH] at hP
  have hS : va_S A s.heap H locs := by rw [hH, hlo]; exact hS
  have hgo : W p l e rm_c_fillJ s m args below meth c H locs 0 0 Q (F0 m 0 ls []) := by
    clear hH hlo
    refine lv_iconst (v := 0) hx hb dJ7_fill_d0a16_0 (by decide) ?_
    refine lv_istore_n (lv' := [(3, .int 0), (0, .ref a), (1, .long v)]) hx hb dJ7_fill_d0a16_1 rfl hl (by decide) rfl (fun ls hl => ?_)
    refine lv_aload_n hx hb dJ7_fill_d0a16_2 rfl (lv_at hl 1 rfl) ?_
    refine va_alen (v := (nI n)) hx hb hK hP 0 1 rfl rfl rfl dJ7_fill_d0a16_3 ?_
    refine lv_istore (lv' := [(4, .int (nI n)), (3, .int 0), (0, .ref a), (1, .long v)]) hx hb dJ7_fill_d0a16_4 hl (by decide) rfl (fun ls hl => ?_)
    have loop_1 : ∀ (fuel : Nat) (j : Nat) (f2 : Nat → Int64), j ≤ n → (∀ k, k < j → f2 k = v) → n - j < fuel → ∀ (H : Heap) (locs : List Loc), va_P g vwCl [(a, .inl (cT 1, n, .inr (.inl f2)))] H → va_D A [(a, .inl (cT 1, n, .inr (.inl f2)))] → va_S A s.heap H locs → ∀ ls : Array Slot, lv_has ls 5 [(4, .int (nI n)), (3, .int (nI j)), (0, .ref a), (1, .long v)] → W p l e rm_c_fillJ s m args below meth c H locs 0 0 Q (F0 m 6 ls []) := by
      intro fuel
      induction fuel with
      | zero => intro j f2 hj hf hfu; omega
      | succ fuel ih_loop_1 =>
        intro j f2 hj hf hfu H locs hP hD hS ls hl
        refine lv_iload_n hx hb dJ7_fill_d0a16_6 rfl (lv_at hl 1 rfl) ?_
        refine lv_iload hx hb dJ7_fill_d0a16_7 (lv_at hl 0 rfl) ?_
        refine lv_icmp_ge (tgt := 22) hx hb dJ7_fill_d0a16_9 (by decide) (fun c_2 => ?_) (fun c_2 => ?_)
        · skip
          have hge : n ≤ j := (nI_leI hn (by omega)).mp c_2
          obtain ⟨hP, hD⟩ := swL hP hD 0 (fun _ => v) rfl (fun k hk => hf k (by omega))
          have hP : va_P g vwCl [(a, .inl (cT 1, n, .inr (.inl (fun _ => v))))] H := hP
          have hD : va_D A [(a, .inl (cT 1, n, .inr (.inl (fun _ => v))))] := hD
          exact rt_v hx hb hr hlocks hQ hP hD hS () [0] dJ7_fill_d0a16_22 (Nat.le_of_ble_eq_true rfl) (Nat.le_of_ble_eq_true rfl) rfl (by decide) trivial
        · skip
          have hlt : j < n := Nat.lt_of_not_le (fun h => c_2 (nI_le h (by omega)))
          refine lv_aload_n hx hb dJ7_fill_d0a16_12 rfl (lv_at hl 2 rfl) ?_
          refine lv_iload_n hx hb dJ7_fill_d0a16_13 rfl (lv_at hl 1 rfl) ?_
          refine lv_lload_n hx hb dJ7_fill_d0a16_14 rfl (lv_at hl 3 rfl) ?_
          obtain ⟨f_3, ef_3⟩ : ∃ z, z = vp_updL f2 (nI j).toNatClampNeg v := ⟨_, rfl⟩
          refine w_last (f' := f_3) hx hb hK hP hD hS 0 rfl dJ7_fill_d0a16_15 (vp_in_nI hlt hn) ef_3.symm (fun H locs hP hD hS => ?_)
          have hP : va_P g vwCl [(a, .inl (cT 1, n, .inr (.inl f_3)))] H := hP
          have hD : va_D A [(a, .inl (cT 1, n, .inr (.inl f_3)))] := hD
          refine lv_iinc (v := (nI (j + 1))) (lv' := [(3, .int (nI (j + 1))), (4, .int (nI n)), (0, .ref a), (1, .long v)]) hx hb dJ7_fill_d0a16_16 hl (k := 1) rfl (nI_1 j) (by decide) rfl (fun ls hl => ?_)
          refine lv_goto (tgt := 6) hx hb dJ7_fill_d0a16_19 (by decide) ?_
          exact ih_loop_1 (j + 1) f_3 (by omega) (fun k hk => by rw [ef_3]; simp only [vp_updL, nI_clamp (show j < 2 ^ 31 by omega)]; split; rfl; exact hf k (by omega)) (by omega) _ _ (hP.sub [0] rfl) (hD.sub [0] (by decide) rfl) hS ls (lv_sub hl [1, 0, 2, 3] rfl)
    exact loop_1 _ 0 f (Nat.zero_le _) (fun k hk => absurd hk (Nat.not_lt_zero k)) (Nat.lt_succ_self _) _ _ (hP.sub [0] rfl) (hD.sub [0] (by decide) rfl) hS ls (lv_sub hl [0, 1, 2, 3] rfl)
  rw [hH, hlo] at hgo
  exact hgo
abbrev rm_c_isReader : Room := { frames := 0, cells := 0, slots := 0, locals := 0 }
theorem lf_c_isReader_0 (r0 : Int32) (c_1 : r0 < 0) : ¬ (r0 = 0 ∨ r0 = 1) := by (simp only [true_or, or_true, false_or, or_false, true_and, and_true, false_and, and_false, not_true_eq_false, not_false_eq_true, i_lt, i_le, i_eq, j_lt, j_le, j_eq, Int32.toInt_toInt64, li_0, lj_0, li_1, lj_1, li_2, lj_2, li_3, lj_3, li_4, lj_4, li_5, lj_5, li_6, lj_6, li_7, lj_7, li_8, lj_8, li_10, lj_10, li_11, lj_11, li_12, lj_12, li_24, lj_24, li_25, lj_25, li_50, lj_50, li_130, lj_130, li_160, lj_160, li_800, lj_800, li_4000, lj_4000, li_10000, lj_10000, li_16384, lj_16384, li_26, lj_26, li_32, lj_32, li_48, lj_48, li_57, lj_57, li_59, lj_59, li_97, lj_97, li_99, lj_99, li_122, lj_122, li_m1, lj_m1, li_m2, lj_m2, li_m3, lj_m3, li_m4, lj_m4, li_m5, lj_m5, li_m6, lj_m6] at * <;> omega)
theorem lf_c_isReader_1 (r0 : Int32) (c_1 : ¬ r0 < 0) (c_2 : 2 ≤ r0) : ¬ (r0 = 0 ∨ r0 = 1) := by (simp only [true_or, or_true, false_or, or_false, true_and, and_true, false_and, and_false, not_true_eq_false, not_false_eq_true, i_lt, i_le, i_eq, j_lt, j_le, j_eq, Int32.toInt_toInt64, li_0, lj_0, li_1, lj_1, li_2, lj_2, li_3, lj_3, li_4, lj_4, li_5, lj_5, li_6, lj_6, li_7, lj_7, li_8, lj_8, li_10, lj_10, li_11, lj_11, li_12, lj_12, li_24, lj_24, li_25, lj_25, li_50, lj_50, li_130, lj_130, li_160, lj_160, li_800, lj_800, li_4000, lj_4000, li_10000, lj_10000, li_16384, lj_16384, li_26, lj_26, li_32, lj_32, li_48, lj_48, li_57, lj_57, li_59, lj_59, li_97, lj_97, li_99, lj_99, li_122, lj_122, li_m1, lj_m1, li_m2, lj_m2, li_m3, lj_m3, li_m4, lj_m4, li_m5, lj_m5, li_m6, lj_m6] at * <;> omega)
theorem lf_c_isReader_2 (r0 : Int32) (c_1 : ¬ r0 < 0) (c_2 : ¬ 2 ≤ r0) : r0 = 0 ∨ r0 = 1 := by (simp only [true_or, or_true, false_or, or_false, true_and, and_true, false_and, and_false, not_true_eq_false, not_false_eq_true, i_lt, i_le, i_eq, j_lt, j_le, j_eq, Int32.toInt_toInt64, li_0, lj_0, li_1, lj_1, li_2, lj_2, li_3, lj_3, li_4, lj_4, li_5, lj_5, li_6, lj_6, li_7, lj_7, li_8, lj_8, li_10, lj_10, li_11, lj_11, li_12, lj_12, li_24, lj_24, li_25, lj_25, li_50, lj_50, li_130, lj_130, li_160, lj_160, li_800, lj_800, li_4000, lj_4000, li_10000, lj_10000, li_16384, lj_16384, li_26, lj_26, li_32, lj_32, li_48, lj_48, li_57, lj_57, li_59, lj_59, li_97, lj_97, li_99, lj_99, li_122, lj_122, li_m1, lj_m1, li_m2, lj_m2, li_m3, lj_m3, li_m4, lj_m4, li_m5, lj_m5, li_m6, lj_m6] at * <;> omega)
set_option maxHeartbeats 4000000 in
set_option maxRecDepth 100000 in
theorem c_isReader (l : Launch) (g : va_G) (cT : Nat → ClassId) (sz : Nat) (r0 : Int32)  : Ctr l g cT sz yX11_isReader wsX11_isReader rm_c_isReader [.int r0] [] (QI g (fun (r : Int32) (u : Unit) => (r = 1 ∧ (r0 = 0 ∨ r0 = 1)) ∨ (r = 0 ∧ (¬ (r0 = 0 ∨ r0 = 1)))) (fun (u : Unit) => [])) 0 0 := by
  refine mk_ctr (cc := cX11_isReader) (maxL := 1) (ret := (some .boolean)) (by decide) rfl (Nat.le_of_ble_eq_true rfl) ?_
  intro p e s m args below meth c A Q hx hb hr hts hown hlocks hin hml hP hK hD hN hZ hA hS hQ ls hl
  have hl : lv_has ls 1 [(0, .int r0)] := hl
  obtain ⟨H, hH⟩ : ∃ H : Heap, H = s.heap := ⟨_, rfl⟩
  obtain ⟨locs, hlo⟩ : ∃ x : List Loc, x = [] := ⟨_, rfl⟩
  rw [← hH] at hP
  have hS : va_S A s.heap H locs := by rw [hH, hlo]; exact hS
  have hgo : W p l e rm_c_isReader s m args below meth c H locs 0 0 Q (F0 m 0 ls []) := by
    clear hH hlo
    refine lv_iload_n hx hb dX11_isReader_0 rfl (lv_at hl 0 rfl) ?_
    refine lv_if_lt (tgt := 13) hx hb dX11_isReader_1 (by decide) (fun c_1 => ?_) (fun c_1 => ?_)
    · skip
      refine lv_iconst (v := 0) hx hb dX11_isReader_13 (by decide) ?_
      exact rt_i hx hb hr hlocks hQ hP hD hS () [] dX11_isReader_14 rfl (Nat.le_of_ble_eq_true rfl) (Nat.le_of_ble_eq_true rfl) rfl (by decide) (Or.inr ⟨rfl, (lf_c_isReader_0 r0 c_1)⟩)
    · skip
      refine lv_iload_n hx hb dX11_isReader_4 rfl (lv_at hl 0 rfl) ?_
      refine lv_iconst (v := 2) hx hb dX11_isReader_5 (by decide) ?_
      refine lv_icmp_ge (tgt := 13) hx hb dX11_isReader_6 (by decide) (fun c_2 => ?_) (fun c_2 => ?_)
      · skip
        refine lv_iconst (v := 0) hx hb dX11_isReader_13 (by decide) ?_
        exact rt_i hx hb hr hlocks hQ hP hD hS () [] dX11_isReader_14 rfl (Nat.le_of_ble_eq_true rfl) (Nat.le_of_ble_eq_true rfl) rfl (by decide) (Or.inr ⟨rfl, (lf_c_isReader_1 r0 c_1 c_2)⟩)
      · skip
        refine lv_iconst (v := 1) hx hb dX11_isReader_9 (by decide) ?_
        refine lv_goto (tgt := 14) hx hb dX11_isReader_10 (by decide) ?_
        exact rt_i hx hb hr hlocks hQ hP hD hS () [] dX11_isReader_14 rfl (Nat.le_of_ble_eq_true rfl) (Nat.le_of_ble_eq_true rfl) rfl (by decide) (Or.inl ⟨rfl, (lf_c_isReader_2 r0 c_1 c_2)⟩)
  rw [hH, hlo] at hgo
  exact hgo
abbrev rm_c_isSign : Room := { frames := 0, cells := 0, slots := 0, locals := 0 }
theorem lf_c_isSign_0 (r0 : Int32) (c_1 : r0 < 0) : ¬ (0 ≤ r0 ∧ r0 ≤ 4) := by (simp only [true_or, or_true, false_or, or_false, true_and, and_true, false_and, and_false, not_true_eq_false, not_false_eq_true, i_lt, i_le, i_eq, j_lt, j_le, j_eq, Int32.toInt_toInt64, li_0, lj_0, li_1, lj_1, li_2, lj_2, li_3, lj_3, li_4, lj_4, li_5, lj_5, li_6, lj_6, li_7, lj_7, li_8, lj_8, li_10, lj_10, li_11, lj_11, li_12, lj_12, li_24, lj_24, li_25, lj_25, li_50, lj_50, li_130, lj_130, li_160, lj_160, li_800, lj_800, li_4000, lj_4000, li_10000, lj_10000, li_16384, lj_16384, li_26, lj_26, li_32, lj_32, li_48, lj_48, li_57, lj_57, li_59, lj_59, li_97, lj_97, li_99, lj_99, li_122, lj_122, li_m1, lj_m1, li_m2, lj_m2, li_m3, lj_m3, li_m4, lj_m4, li_m5, lj_m5, li_m6, lj_m6] at * <;> omega)
theorem lf_c_isSign_1 (r0 : Int32) (c_1 : ¬ r0 < 0) (c_2 : 5 ≤ r0) : ¬ (0 ≤ r0 ∧ r0 ≤ 4) := by (simp only [true_or, or_true, false_or, or_false, true_and, and_true, false_and, and_false, not_true_eq_false, not_false_eq_true, i_lt, i_le, i_eq, j_lt, j_le, j_eq, Int32.toInt_toInt64, li_0, lj_0, li_1, lj_1, li_2, lj_2, li_3, lj_3, li_4, lj_4, li_5, lj_5, li_6, lj_6, li_7, lj_7, li_8, lj_8, li_10, lj_10, li_11, lj_11, li_12, lj_12, li_24, lj_24, li_25, lj_25, li_50, lj_50, li_130, lj_130, li_160, lj_160, li_800, lj_800, li_4000, lj_4000, li_10000, lj_10000, li_16384, lj_16384, li_26, lj_26, li_32, lj_32, li_48, lj_48, li_57, lj_57, li_59, lj_59, li_97, lj_97, li_99, lj_99, li_122, lj_122, li_m1, lj_m1, li_m2, lj_m2, li_m3, lj_m3, li_m4, lj_m4, li_m5, lj_m5, li_m6, lj_m6] at * <;> omega)
theorem lf_c_isSign_2 (r0 : Int32) (c_1 : ¬ r0 < 0) (c_2 : ¬ 5 ≤ r0) : 0 ≤ r0 ∧ r0 ≤ 4 := by (simp only [true_or, or_true, false_or, or_false, true_and, and_true, false_and, and_false, not_true_eq_false, not_false_eq_true, i_lt, i_le, i_eq, j_lt, j_le, j_eq, Int32.toInt_toInt64, li_0, lj_0, li_1, lj_1, li_2, lj_2, li_3, lj_3, li_4, lj_4, li_5, lj_5, li_6, lj_6, li_7, lj_7, li_8, lj_8, li_10, lj_10, li_11, lj_11, li_12, lj_12, li_24, lj_24, li_25, lj_25, li_50, lj_50, li_130, lj_130, li_160, lj_160, li_800, lj_800, li_4000, lj_4000, li_10000, lj_10000, li_16384, lj_16384, li_26, lj_26, li_32, lj_32, li_48, lj_48, li_57, lj_57, li_59, lj_59, li_97, lj_97, li_99, lj_99, li_122, lj_122, li_m1, lj_m1, li_m2, lj_m2, li_m3, lj_m3, li_m4, lj_m4, li_m5, lj_m5, li_m6, lj_m6] at * <;> omega)
set_option maxHeartbeats 4000000 in
set_option maxRecDepth 100000 in
theorem c_isSign (l : Launch) (g : va_G) (cT : Nat → ClassId) (sz : Nat) (r0 : Int32)  : Ctr l g cT sz yX11_isSign wsX11_isSign rm_c_isSign [.int r0] [] (QI g (fun (r : Int32) (u : Unit) => (r = 1 ∧ (0 ≤ r0 ∧ r0 ≤ 4)) ∨ (r = 0 ∧ (¬ (0 ≤ r0 ∧ r0 ≤ 4)))) (fun (u : Unit) => [])) 0 0 := by
  refine mk_ctr (cc := cX11_isSign) (maxL := 1) (ret := (some .boolean)) (by decide) rfl (Nat.le_of_ble_eq_true rfl) ?_
  intro p e s m args below meth c A Q hx hb hr hts hown hlocks hin hml hP hK hD hN hZ hA hS hQ ls hl
  have hl : lv_has ls 1 [(0, .int r0)] := hl
  obtain ⟨H, hH⟩ : ∃ H : Heap, H = s.heap := ⟨_, rfl⟩
  obtain ⟨locs, hlo⟩ : ∃ x : List Loc, x = [] := ⟨_, rfl⟩
  rw [← hH] at hP
  have hS : va_S A s.heap H locs := by rw [hH, hlo]; exact hS
  have hgo : W p l e rm_c_isSign s m args below meth c H locs 0 0 Q (F0 m 0 ls []) := by
    clear hH hlo
    refine lv_iload_n hx hb dX11_isSign_0 rfl (lv_at hl 0 rfl) ?_
    refine lv_if_lt (tgt := 13) hx hb dX11_isSign_1 (by decide) (fun c_1 => ?_) (fun c_1 => ?_)
    · skip
      refine lv_iconst (v := 0) hx hb dX11_isSign_13 (by decide) ?_
      exact rt_i hx hb hr hlocks hQ hP hD hS () [] dX11_isSign_14 rfl (Nat.le_of_ble_eq_true rfl) (Nat.le_of_ble_eq_true rfl) rfl (by decide) (Or.inr ⟨rfl, (lf_c_isSign_0 r0 c_1)⟩)
    · skip
      refine lv_iload_n hx hb dX11_isSign_4 rfl (lv_at hl 0 rfl) ?_
      refine lv_iconst (v := 5) hx hb dX11_isSign_5 (by decide) ?_
      refine lv_icmp_ge (tgt := 13) hx hb dX11_isSign_6 (by decide) (fun c_2 => ?_) (fun c_2 => ?_)
      · skip
        refine lv_iconst (v := 0) hx hb dX11_isSign_13 (by decide) ?_
        exact rt_i hx hb hr hlocks hQ hP hD hS () [] dX11_isSign_14 rfl (Nat.le_of_ble_eq_true rfl) (Nat.le_of_ble_eq_true rfl) rfl (by decide) (Or.inr ⟨rfl, (lf_c_isSign_1 r0 c_1 c_2)⟩)
      · skip
        refine lv_iconst (v := 1) hx hb dX11_isSign_9 (by decide) ?_
        refine lv_goto (tgt := 14) hx hb dX11_isSign_10 (by decide) ?_
        exact rt_i hx hb hr hlocks hQ hP hD hS () [] dX11_isSign_14 rfl (Nat.le_of_ble_eq_true rfl) (Nat.le_of_ble_eq_true rfl) rfl (by decide) (Or.inl ⟨rfl, (lf_c_isSign_2 r0 c_1 c_2)⟩)
  rw [hH, hlo] at hgo
  exact hgo
abbrev rm_c_isLetter : Room := { frames := 0, cells := 0, slots := 0, locals := 0 }
theorem lf_c_isLetter_0 (r0 : Int32) (c_1 : r0 < 0) : ¬ (0 ≤ r0 ∧ r0 ≤ 2) := by (simp only [true_or, or_true, false_or, or_false, true_and, and_true, false_and, and_false, not_true_eq_false, not_false_eq_true, i_lt, i_le, i_eq, j_lt, j_le, j_eq, Int32.toInt_toInt64, li_0, lj_0, li_1, lj_1, li_2, lj_2, li_3, lj_3, li_4, lj_4, li_5, lj_5, li_6, lj_6, li_7, lj_7, li_8, lj_8, li_10, lj_10, li_11, lj_11, li_12, lj_12, li_24, lj_24, li_25, lj_25, li_50, lj_50, li_130, lj_130, li_160, lj_160, li_800, lj_800, li_4000, lj_4000, li_10000, lj_10000, li_16384, lj_16384, li_26, lj_26, li_32, lj_32, li_48, lj_48, li_57, lj_57, li_59, lj_59, li_97, lj_97, li_99, lj_99, li_122, lj_122, li_m1, lj_m1, li_m2, lj_m2, li_m3, lj_m3, li_m4, lj_m4, li_m5, lj_m5, li_m6, lj_m6] at * <;> omega)
theorem lf_c_isLetter_1 (r0 : Int32) (c_1 : ¬ r0 < 0) (c_2 : 3 ≤ r0) : ¬ (0 ≤ r0 ∧ r0 ≤ 2) := by (simp only [true_or, or_true, false_or, or_false, true_and, and_true, false_and, and_false, not_true_eq_false, not_false_eq_true, i_lt, i_le, i_eq, j_lt, j_le, j_eq, Int32.toInt_toInt64, li_0, lj_0, li_1, lj_1, li_2, lj_2, li_3, lj_3, li_4, lj_4, li_5, lj_5, li_6, lj_6, li_7, lj_7, li_8, lj_8, li_10, lj_10, li_11, lj_11, li_12, lj_12, li_24, lj_24, li_25, lj_25, li_50, lj_50, li_130, lj_130, li_160, lj_160, li_800, lj_800, li_4000, lj_4000, li_10000, lj_10000, li_16384, lj_16384, li_26, lj_26, li_32, lj_32, li_48, lj_48, li_57, lj_57, li_59, lj_59, li_97, lj_97, li_99, lj_99, li_122, lj_122, li_m1, lj_m1, li_m2, lj_m2, li_m3, lj_m3, li_m4, lj_m4, li_m5, lj_m5, li_m6, lj_m6] at * <;> omega)
theorem lf_c_isLetter_2 (r0 : Int32) (c_1 : ¬ r0 < 0) (c_2 : ¬ 3 ≤ r0) : 0 ≤ r0 ∧ r0 ≤ 2 := by (simp only [true_or, or_true, false_or, or_false, true_and, and_true, false_and, and_false, not_true_eq_false, not_false_eq_true, i_lt, i_le, i_eq, j_lt, j_le, j_eq, Int32.toInt_toInt64, li_0, lj_0, li_1, lj_1, li_2, lj_2, li_3, lj_3, li_4, lj_4, li_5, lj_5, li_6, lj_6, li_7, lj_7, li_8, lj_8, li_10, lj_10, li_11, lj_11, li_12, lj_12, li_24, lj_24, li_25, lj_25, li_50, lj_50, li_130, lj_130, li_160, lj_160, li_800, lj_800, li_4000, lj_4000, li_10000, lj_10000, li_16384, lj_16384, li_26, lj_26, li_32, lj_32, li_48, lj_48, li_57, lj_57, li_59, lj_59, li_97, lj_97, li_99, lj_99, li_122, lj_122, li_m1, lj_m1, li_m2, lj_m2, li_m3, lj_m3, li_m4, lj_m4, li_m5, lj_m5, li_m6, lj_m6] at * <;> omega)
set_option maxHeartbeats 4000000 in
set_option maxRecDepth 100000 in
theorem c_isLetter (l : Launch) (g : va_G) (cT : Nat → ClassId) (sz : Nat) (r0 : Int32)  : Ctr l g cT sz yX11_isLetter wsX11_isLetter rm_c_isLetter [.int r0] [] (QI g (fun (r : Int32) (u : Unit) => (r = 1 ∧ (0 ≤ r0 ∧ r0 ≤ 2)) ∨ (r = 0 ∧ (¬ (0 ≤ r0 ∧ r0 ≤ 2)))) (fun (u : Unit) => [])) 0 0 := by
  refine mk_ctr (cc := cX11_isLetter) (maxL := 1) (ret := (some .boolean)) (by decide) rfl (Nat.le_of_ble_eq_true rfl) ?_
  intro p e s m args below meth c A Q hx hb hr hts hown hlocks hin hml hP hK hD hN hZ hA hS hQ ls hl
  have hl : lv_has ls 1 [(0, .int r0)] := hl
  obtain ⟨H, hH⟩ : ∃ H : Heap, H = s.heap := ⟨_, rfl⟩
  obtain ⟨locs, hlo⟩ : ∃ x : List Loc, x = [] := ⟨_, rfl⟩
  rw [← hH] at hP
  have hS : va_S A s.heap H locs := by rw [hH, hlo]; exact hS
  have hgo : W p l e rm_c_isLetter s m args below meth c H locs 0 0 Q (F0 m 0 ls []) := by
    clear hH hlo
    refine lv_iload_n hx hb dX11_isLetter_0 rfl (lv_at hl 0 rfl) ?_
    refine lv_if_lt (tgt := 13) hx hb dX11_isLetter_1 (by decide) (fun c_1 => ?_) (fun c_1 => ?_)
    · skip
      refine lv_iconst (v := 0) hx hb dX11_isLetter_13 (by decide) ?_
      exact rt_i hx hb hr hlocks hQ hP hD hS () [] dX11_isLetter_14 rfl (Nat.le_of_ble_eq_true rfl) (Nat.le_of_ble_eq_true rfl) rfl (by decide) (Or.inr ⟨rfl, (lf_c_isLetter_0 r0 c_1)⟩)
    · skip
      refine lv_iload_n hx hb dX11_isLetter_4 rfl (lv_at hl 0 rfl) ?_
      refine lv_iconst (v := 3) hx hb dX11_isLetter_5 (by decide) ?_
      refine lv_icmp_ge (tgt := 13) hx hb dX11_isLetter_6 (by decide) (fun c_2 => ?_) (fun c_2 => ?_)
      · skip
        refine lv_iconst (v := 0) hx hb dX11_isLetter_13 (by decide) ?_
        exact rt_i hx hb hr hlocks hQ hP hD hS () [] dX11_isLetter_14 rfl (Nat.le_of_ble_eq_true rfl) (Nat.le_of_ble_eq_true rfl) rfl (by decide) (Or.inr ⟨rfl, (lf_c_isLetter_1 r0 c_1 c_2)⟩)
      · skip
        refine lv_iconst (v := 1) hx hb dX11_isLetter_9 (by decide) ?_
        refine lv_goto (tgt := 14) hx hb dX11_isLetter_10 (by decide) ?_
        exact rt_i hx hb hr hlocks hQ hP hD hS () [] dX11_isLetter_14 rfl (Nat.le_of_ble_eq_true rfl) (Nat.le_of_ble_eq_true rfl) rfl (by decide) (Or.inl ⟨rfl, (lf_c_isLetter_2 r0 c_1 c_2)⟩)
  rw [hH, hlo] at hgo
  exact hgo
abbrev rm_c_letterIn : Room := { frames := 0, cells := 0, slots := 0, locals := 0 }
set_option maxHeartbeats 4000000 in
set_option maxRecDepth 100000 in
theorem c_letterIn (l : Launch) (g : va_G) (cT : Nat → ClassId) (sz : Nat) (b : Int64) (i : Int32)  : Ctr l g cT sz yX11_letterIn wsX11_letterIn rm_c_letterIn [.long b, .int i] [] (QI g (fun (r : Int32) (u : Unit) => r = ((b >>> (((2 : Int32) * i).toInt64 &&& 63)) &&& (3 : Int64)).toInt32) (fun (u : Unit) => [])) 0 0 := by
  refine mk_ctr (cc := cX11_letterIn) (maxL := 3) (ret := (some .int)) (by decide) rfl (Nat.le_of_ble_eq_true rfl) ?_
  intro p e s m args below meth c A Q hx hb hr hts hown hlocks hin hml hP hK hD hN hZ hA hS hQ ls hl
  have hl : lv_has ls 3 [(0, .long b), (2, .int i)] := hl
  obtain ⟨H, hH⟩ : ∃ H : Heap, H = s.heap := ⟨_, rfl⟩
  obtain ⟨locs, hlo⟩ : ∃ x : List Loc, x = [] := ⟨_, rfl⟩
  rw [← hH] at hP
  have hS : va_S A s.heap H locs := by rw [hH, hlo]; exact hS
  have hgo : W p l e rm_c_letterIn s m args below meth c H locs 0 0 Q (F0 m 0 ls []) := by
    clear hH hlo
    refine lv_lload_n hx hb dX11_letterIn_0 rfl (lv_at hl 0 rfl) ?_
    refine lv_iconst (v := 2) hx hb dX11_letterIn_1 (by decide) ?_
    refine lv_iload_n hx hb dX11_letterIn_2 rfl (lv_at hl 1 rfl) ?_
    refine w_imul (v := (2 : Int32) * i) hx hb dX11_letterIn_3 rfl ?_
    refine lv_lshr (v := b >>> (((2 : Int32) * i).toInt64 &&& 63)) hx hb dX11_letterIn_4 rfl ?_
    refine lv_ldc2 (v := 3) hx hb hown (hts (.constantLong RX11 244 (3)) (by decide +kernel)) dX11_letterIn_5 ?_
    refine w_land (v := (b >>> (((2 : Int32) * i).toInt64 &&& 63)) &&& (3 : Int64)) hx hb dX11_letterIn_8 rfl ?_
    refine lv_l2i (v := ((b >>> (((2 : Int32) * i).toInt64 &&& 63)) &&& (3 : Int64)).toInt32) hx hb dX11_letterIn_9 rfl ?_
    exact rt_i hx hb hr hlocks hQ hP hD hS () [] dX11_letterIn_10 rfl (Nat.le_of_ble_eq_true rfl) (Nat.le_of_ble_eq_true rfl) rfl (by decide) rfl
  rw [hH, hlo] at hgo
  exact hgo
theorem hi_X6_init_X6 : ∀ w ∈ wsX60, w ∈ wsX6_init := fun _ h => List.mem_cons_of_mem _ (List.mem_append_right _ h)
theorem yd_J7_fill_53178 : yJ7_fill_53178.cls = RJ7 ∧ yJ7_fill_53178.cls ≠ "java/lang/invoke/MethodHandle" ∧ yJ7_fill_53178.cls ≠ "java/lang/invoke/VarHandle" ∧ (parseMethodDescriptor yJ7_fill_53178.desc).map (fun d => d.parameters.length) = some 2 := by decide +kernel
abbrev rm_c_R_init : Room := { frames := 1, cells := 1, slots := 25, locals := 23 }
set_option maxHeartbeats 4000000 in
set_option maxRecDepth 100000 in
theorem c_R_init (l : Launch) (g : va_G) (cT : Nat → ClassId) (sz : Nat) (o : Nat)  : Ctr l g cT sz yX6_init wsX6_init rm_c_R_init [.ref o] [(o, .inr (6, [.int 0, .int 0, .int 0, .int 0, .null]))] (QV g (fun (u : Nat) => True) (fun (u : Nat) => [(o, .inr (6, [.int 1, .int 0, .int 0, .int 0, .ref u])), (u, .inl (cT 0, 25, .inl (fun _ => (-1))))])) 1 25 := by
  refine mk_ctr (cc := cX6_init) (maxL := 1) (ret := none) (by decide) rfl (Nat.le_of_ble_eq_true rfl) ?_
  intro p e s m args below meth c A Q hx hb hr hts hown hlocks hin hml hP hK hD hN hZ hA hS hQ ls hl
  have hl : lv_has ls 1 [(0, .ref o)] := hl
  obtain ⟨H, hH⟩ : ∃ H : Heap, H = s.heap := ⟨_, rfl⟩
  obtain ⟨locs, hlo⟩ : ∃ x : List Loc, x = [] := ⟨_, rfl⟩
  rw [← hH] at hP
  have hS : va_S A s.heap H locs := by rw [hH, hlo]; exact hS
  have hgo : W p l e rm_c_R_init s m args below meth c H locs 0 0 Q (F0 m 0 ls []) := by
    clear hH hlo
    refine lv_aload_n hx hb dX6_init_0 rfl (lv_at hl 0 rfl) ?_
    refine W.objInit hx hb hown (hts (.methodLink RX6 3 objectInit) (by decide +kernel)) (hts (.instanceMethod objectInit) (by decide +kernel)) (hts _ (List.mem_cons_of_mem _ (List.mem_append_left _ (List.mem_of_getElem? (i := 2) rfl)))) rfl (by rw [hml]; exact hl.1) rfl dX6_init_1 (Nat.le_of_ble_eq_true rfl) (Nat.le_of_ble_eq_true rfl) ?_
    refine W.eq (g2 := F0 m 4 ls []) rfl ?_
    refine lv_aload_n hx hb dX6_init_4 rfl (lv_at hl 0 rfl) ?_
    refine lv_iconst (v := 1) hx hb dX6_init_5 (by decide) ?_
    refine va_put (C := RX6) (T := TX6) (N := 5) (v := .int 1) (ty := .int) hx hb hts hi_X6_init_X6 tyX6 tyX6_ok nmX6 hown hK hP hD hS 0 rfl rfl 0 (by decide) (hts (.fieldLink RX6 9 "BothWays$Reader" "states" "I") (by decide +kernel)) (fun _ h => h) rfl (by decide +kernel) rfl rfl (Nat.le_of_ble_eq_true rfl) dX6_init_6 (fun H locs hP hD hS => ?_)
    have hP : va_P g vwCl [(o, .inr (6, [.int 1, .int 0, .int 0, .int 0, .null]))] H := hP
    have hD : va_D A [(o, .inr (6, [.int 1, .int 0, .int 0, .int 0, .null]))] := hD
    refine lv_aload_n hx hb dX6_init_9 rfl (lv_at hl 0 rfl) ?_
    refine lv_iconst (v := 0) hx hb dX6_init_10 (by decide) ?_
    refine va_put (C := RX6) (T := TX6) (N := 5) (v := .int 0) (ty := .int) hx hb hts hi_X6_init_X6 tyX6 tyX6_ok nmX6 hown hK hP hD hS 0 rfl rfl 1 (by decide) (hts (.fieldLink RX6 15 "BothWays$Reader" "takes" "I") (by decide +kernel)) (fun _ h => h) rfl (by decide +kernel) rfl rfl (Nat.le_of_ble_eq_true rfl) dX6_init_11 (fun H locs hP hD hS => ?_)
    have hP : va_P g vwCl [(o, .inr (6, [.int 1, .int 0, .int 0, .int 0, .null]))] H := hP
    have hD : va_D A [(o, .inr (6, [.int 1, .int 0, .int 0, .int 0, .null]))] := hD
    refine lv_aload_n hx hb dX6_init_14 rfl (lv_at hl 0 rfl) ?_
    refine lv_iconst (v := 0) hx hb dX6_init_15 (by decide) ?_
    refine va_put (C := RX6) (T := TX6) (N := 5) (v := .int 0) (ty := .int) hx hb hts hi_X6_init_X6 tyX6 tyX6_ok nmX6 hown hK hP hD hS 0 rfl rfl 2 (by decide) (hts (.fieldLink RX6 18 "BothWays$Reader" "size" "I") (by decide +kernel)) (fun _ h => h) rfl (by decide +kernel) rfl rfl (Nat.le_of_ble_eq_true rfl) dX6_init_16 (fun H locs hP hD hS => ?_)
    have hP : va_P g vwCl [(o, .inr (6, [.int 1, .int 0, .int 0, .int 0, .null]))] H := hP
    have hD : va_D A [(o, .inr (6, [.int 1, .int 0, .int 0, .int 0, .null]))] := hD
    refine lv_aload_n hx hb dX6_init_19 rfl (lv_at hl 0 rfl) ?_
    refine lv_iconst (v := 0) hx hb dX6_init_20 (by decide) ?_
    refine va_put (C := RX6) (T := TX6) (N := 5) (v := .int 0) (ty := .int) hx hb hts hi_X6_init_X6 tyX6 tyX6_ok nmX6 hown hK hP hD hS 0 rfl rfl 3 (by decide) (hts (.fieldLink RX6 21 "BothWays$Reader" "version" "I") (by decide +kernel)) (fun _ h => h) rfl (by decide +kernel) rfl rfl (Nat.le_of_ble_eq_true rfl) dX6_init_21 (fun H locs hP hD hS => ?_)
    have hP : va_P g vwCl [(o, .inr (6, [.int 1, .int 0, .int 0, .int 0, .null]))] H := hP
    have hD : va_D A [(o, .inr (6, [.int 1, .int 0, .int 0, .int 0, .null]))] := hD
    refine lv_aload_n hx hb dX6_init_24 rfl (lv_at hl 0 rfl) ?_
    refine lv_bipush (v := 25) hx hb dX6_init_25 (by decide) ?_
    refine w_newI hx hb (hts (.arrayClass .int) (by decide +kernel)) hK hP hD hS hA 25 1 25 dX6_init_27 (by decide) (by decide) (by decide) (Nat.le_of_ble_eq_true rfl) (Nat.le_of_ble_eq_true rfl) (Nat.le_of_ble_eq_true rfl) (Nat.le_of_ble_eq_true rfl) (fun q_1 H hP hD hS => ?_)
    have hP : va_P g vwCl [(o, .inr (6, [.int 1, .int 0, .int 0, .int 0, .null])), (q_1, .inl (cT 0, 25, .inl (fun _ => 0)))] H := hP
    have hD : va_D A [(o, .inr (6, [.int 1, .int 0, .int 0, .int 0, .null])), (q_1, .inl (cT 0, 25, .inl (fun _ => 0)))] := hD
    refine va_putF (C := RX6) (T := TX6) (N := 5) (v := .ref q_1) (ty := .array .int) hx hb hts hi_X6_init_X6 tyX6 tyX6_ok nmX6 hown hK hP hD hS 0 rfl rfl 4 (by decide) (hts (.fieldLink RX6 24 "BothWays$Reader" "packed" "[I") (by decide +kernel)) (fun _ h => h) rfl hin rfl (by decide +kernel) rfl rfl (Nat.le_of_ble_eq_true rfl) dX6_init_29 (fun H locs hP hD hS => ?_)
    have hP : va_P g vwCl [(o, .inr (6, [.int 1, .int 0, .int 0, .int 0, .ref q_1])), (q_1, .inl (cT 0, 25, .inl (fun _ => 0)))] H := hP
    have hD : va_D A [(o, .inr (6, [.int 1, .int 0, .int 0, .int 0, .ref q_1])), (q_1, .inl (cT 0, 25, .inl (fun _ => 0)))] := hD
    refine lv_aload_n hx hb dX6_init_32 rfl (lv_at hl 0 rfl) ?_
    refine va_get (C := RX6) (T := TX6) (N := 5) (v := .ref q_1) hx hb hts hi_X6_init_X6 hown hK hP 0 rfl rfl 4 (by decide) (hts (.fieldLink RX6 24 "BothWays$Reader" "packed" "[I") (by decide +kernel)) (fun _ h => h) rfl dX6_init_33 ?_
    refine lv_iconst (v := (-1)) hx hb dX6_init_36 (by decide) ?_
    refine cj_v 1 25 (wr := [(o, .inr (6, [.int 1, .int 0, .int 0, .int 0, .ref q_1]))]) (va_runS (As := [.ref q_1, .int (-1)]) (rest := []) ⟨hx, hb, hml, hown, hts⟩ (c_fillI l g cT H.size q_1 25 (fun _ => 0) (-1) (by decide)) (va_cwS 2 hts gX6_init_J7_fill_53178 rfl rfl rfl yd_J7_fill_53178.2 ⟨(Nat.le_of_ble_eq_true rfl), (Nat.le_of_ble_eq_true rfl)⟩) (preS (wc := [(q_1, .inl (cT 0, 25, .inl (fun _ => 0)))]) rfl hP hD hK hN hZ hS hA [1] rfl (by decide)) rfl rfl hl.1 rfl (lv_room (Nat.le_of_ble_eq_true rfl)) dX6_init_37 ⟨(Nat.le_of_ble_eq_true rfl), (Nat.le_of_ble_eq_true rfl)⟩) hP hD hS hA [1] [0] rfl rfl (by decide) (by decide) (Nat.le_of_ble_eq_true rfl) (Nat.le_of_ble_eq_true rfl) (fun u H locs h_3 hP hD hS => ?_)
    have hP : va_P g vwCl [(o, .inr (6, [.int 1, .int 0, .int 0, .int 0, .ref q_1])), (q_1, .inl (cT 0, 25, .inl (fun _ => (-1))))] H := hP
    have hD : va_D A [(o, .inr (6, [.int 1, .int 0, .int 0, .int 0, .ref q_1])), (q_1, .inl (cT 0, 25, .inl (fun _ => (-1))))] := hD
    exact rt_v hx hb hr hlocks hQ hP hD hS q_1 [0, 1] dX6_init_40 (Nat.le_of_ble_eq_true rfl) (Nat.le_of_ble_eq_true rfl) rfl (by decide) trivial
  rw [hH, hlo] at hgo
  exact hgo
theorem hi_X6_become_X6 : ∀ w ∈ wsX60, w ∈ wsX6_become := fun _ h => List.mem_cons_of_mem _ (List.mem_append_right _ h)
abbrev rm_c_R_become : Room := { frames := 1, cells := 0, slots := 0, locals := 23 }
set_option maxHeartbeats 4000000 in
set_option maxRecDepth 100000 in
theorem c_R_become (l : Launch) (g : va_G) (cT : Nat → ClassId) (sz : Nat) (o : Nat) (a : Nat) (v : Int32) (n : Int32) (t : Int32)  : Ctr l g cT sz yX6_become wsX6_become rm_c_R_become [.ref o, .int n, .int t] [(o, .inr (6, [.int 1, .int 0, .int 0, .int v, .ref a])), (a, .inl (cT 0, 25, .inl (fun _ => (-1))))] (QV g (fun (u : Unit) => True) (fun (u : Unit) => [])) 0 0 := by
  refine mk_ctr (cc := cX6_become) (maxL := 3) (ret := none) (by decide) rfl (Nat.le_of_ble_eq_true rfl) ?_
  intro p e s m args below meth c A Q hx hb hr hts hown hlocks hin hml hP hK hD hN hZ hA hS hQ ls hl
  have hl : lv_has ls 3 [(0, .ref o), (1, .int n), (2, .int t)] := hl
  obtain ⟨H, hH⟩ : ∃ H : Heap, H = s.heap := ⟨_, rfl⟩
  obtain ⟨locs, hlo⟩ : ∃ x : List Loc, x = [] := ⟨_, rfl⟩
  rw [← hH] at hP
  have hS : va_S A s.heap H locs := by rw [hH, hlo]; exact hS
  have hgo : W p l e rm_c_R_become s m args below meth c H locs 0 0 Q (F0 m 0 ls []) := by
    clear hH hlo
    refine lv_aload_n hx hb dX6_become_0 rfl (lv_at hl 0 rfl) ?_
    refine lv_iload_n hx hb dX6_become_1 rfl (lv_at hl 1 rfl) ?_
    refine va_put (C := RX6) (T := TX6) (N := 5) (v := .int n) (ty := .int) hx hb hts hi_X6_become_X6 tyX6 tyX6_ok nmX6 hown hK hP hD hS 0 rfl rfl 0 (by decide) (hts (.fieldLink RX6 9 "BothWays$Reader" "states" "I") (by decide +kernel)) (fun _ h => h) rfl (by decide +kernel) rfl rfl (Nat.le_of_ble_eq_true rfl) dX6_become_2 (fun H locs hP hD hS => ?_)
    have hP : va_P g vwCl [(o, .inr (6, [.int n, .int 0, .int 0, .int v, .ref a])), (a, .inl (cT 0, 25, .inl (fun _ => (-1))))] H := hP
    have hD : va_D A [(o, .inr (6, [.int n, .int 0, .int 0, .int v, .ref a])), (a, .inl (cT 0, 25, .inl (fun _ => (-1))))] := hD
    refine lv_aload_n hx hb dX6_become_5 rfl (lv_at hl 0 rfl) ?_
    refine lv_iload_n hx hb dX6_become_6 rfl (lv_at hl 2 rfl) ?_
    refine va_put (C := RX6) (T := TX6) (N := 5) (v := .int t) (ty := .int) hx hb hts hi_X6_become_X6 tyX6 tyX6_ok nmX6 hown hK hP hD hS 0 rfl rfl 1 (by decide) (hts (.fieldLink RX6 15 "BothWays$Reader" "takes" "I") (by decide +kernel)) (fun _ h => h) rfl (by decide +kernel) rfl rfl (Nat.le_of_ble_eq_true rfl) dX6_become_7 (fun H locs hP hD hS => ?_)
    have hP : va_P g vwCl [(o, .inr (6, [.int n, .int t, .int 0, .int v, .ref a])), (a, .inl (cT 0, 25, .inl (fun _ => (-1))))] H := hP
    have hD : va_D A [(o, .inr (6, [.int n, .int t, .int 0, .int v, .ref a])), (a, .inl (cT 0, 25, .inl (fun _ => (-1))))] := hD
    refine lv_aload_n hx hb dX6_become_10 rfl (lv_at hl 0 rfl) ?_
    refine lv_iconst (v := 0) hx hb dX6_become_11 (by decide) ?_
    refine va_put (C := RX6) (T := TX6) (N := 5) (v := .int 0) (ty := .int) hx hb hts hi_X6_become_X6 tyX6 tyX6_ok nmX6 hown hK hP hD hS 0 rfl rfl 2 (by decide) (hts (.fieldLink RX6 18 "BothWays$Reader" "size" "I") (by decide +kernel)) (fun _ h => h) rfl (by decide +kernel) rfl rfl (Nat.le_of_ble_eq_true rfl) dX6_become_12 (fun H locs hP hD hS => ?_)
    have hP : va_P g vwCl [(o, .inr (6, [.int n, .int t, .int 0, .int v, .ref a])), (a, .inl (cT 0, 25, .inl (fun _ => (-1))))] H := hP
    have hD : va_D A [(o, .inr (6, [.int n, .int t, .int 0, .int v, .ref a])), (a, .inl (cT 0, 25, .inl (fun _ => (-1))))] := hD
    refine lv_aload_n hx hb dX6_become_15 rfl (lv_at hl 0 rfl) ?_
    refine va_get (C := RX6) (T := TX6) (N := 5) (v := .ref a) hx hb hts hi_X6_become_X6 hown hK hP 0 rfl rfl 4 (by decide) (hts (.fieldLink RX6 24 "BothWays$Reader" "packed" "[I") (by decide +kernel)) (fun _ h => h) rfl dX6_become_16 ?_
    refine lv_iconst (v := (-1)) hx hb dX6_become_19 (by decide) ?_
    refine cj_v 0 0 (wr := [(o, .inr (6, [.int n, .int t, .int 0, .int v, .ref a]))]) (va_runS (As := [.ref a, .int (-1)]) (rest := []) ⟨hx, hb, hml, hown, hts⟩ (c_fillI l g cT H.size a 25 (fun _ => (-1)) (-1) (by decide)) (va_cwS 2 hts gX6_become_J7_fill_53178 rfl rfl rfl yd_J7_fill_53178.2 ⟨(Nat.le_of_ble_eq_true rfl), (Nat.le_of_ble_eq_true rfl)⟩) (preS (wc := [(a, .inl (cT 0, 25, .inl (fun _ => (-1))))]) rfl hP hD hK hN hZ hS hA [1] rfl (by decide)) rfl rfl hl.1 rfl (lv_room (Nat.le_of_ble_eq_true rfl)) dX6_become_20 ⟨(Nat.le_of_ble_eq_true rfl), (Nat.le_of_ble_eq_true rfl)⟩) hP hD hS hA [1] [0] rfl rfl (by decide) (by decide) (Nat.le_of_ble_eq_true rfl) (Nat.le_of_ble_eq_true rfl) (fun u H locs h_2 hP hD hS => ?_)
    have hP : va_P g vwCl [(o, .inr (6, [.int n, .int t, .int 0, .int v, .ref a])), (a, .inl (cT 0, 25, .inl (fun _ => (-1))))] H := hP
    have hD : va_D A [(o, .inr (6, [.int n, .int t, .int 0, .int v, .ref a])), (a, .inl (cT 0, 25, .inl (fun _ => (-1))))] := hD
    refine lv_aload_n hx hb dX6_become_23 rfl (lv_at hl 0 rfl) ?_
    refine lv_dup hx hb dX6_become_24 rfl ?_
    refine va_get (C := RX6) (T := TX6) (N := 5) (v := .int v) hx hb hts hi_X6_become_X6 hown hK hP 0 rfl rfl 3 (by decide) (hts (.fieldLink RX6 21 "BothWays$Reader" "version" "I") (by decide +kernel)) (fun _ h => h) rfl dX6_become_25 ?_
    refine lv_iconst (v := 1) hx hb dX6_become_28 (by decide) ?_
    refine w_iadd (v := v + (1 : Int32)) hx hb dX6_become_29 rfl ?_
    refine va_put (C := RX6) (T := TX6) (N := 5) (v := .int (v + (1 : Int32))) (ty := .int) hx hb hts hi_X6_become_X6 tyX6 tyX6_ok nmX6 hown hK hP hD hS 0 rfl rfl 3 (by decide) (hts (.fieldLink RX6 21 "BothWays$Reader" "version" "I") (by decide +kernel)) (fun _ h => h) rfl (by decide +kernel) rfl rfl (Nat.le_of_ble_eq_true rfl) dX6_become_30 (fun H locs hP hD hS => ?_)
    have hP : va_P g vwCl [(o, .inr (6, [.int n, .int t, .int 0, .int (v + (1 : Int32)), .ref a])), (a, .inl (cT 0, 25, .inl (fun _ => (-1))))] H := hP
    have hD : va_D A [(o, .inr (6, [.int n, .int t, .int 0, .int (v + (1 : Int32)), .ref a])), (a, .inl (cT 0, 25, .inl (fun _ => (-1))))] := hD
    exact rt_v hx hb hr hlocks hQ hP hD hS () [] dX6_become_33 (Nat.le_of_ble_eq_true rfl) (Nat.le_of_ble_eq_true rfl) rfl (by decide) trivial
  rw [hH, hlo] at hgo
  exact hgo
theorem hi_X6_hasState_X6 : ∀ w ∈ wsX60, w ∈ wsX6_hasState := fun _ h => List.mem_cons_of_mem _ (List.mem_append_right _ h)
abbrev rm_c_R_hasState : Room := { frames := 0, cells := 0, slots := 0, locals := 0 }
theorem lf_c_R_hasState_0 (q : Int32) (c_1 : q < 0) : ¬ q = 0 := by (simp only [true_or, or_true, false_or, or_false, true_and, and_true, false_and, and_false, not_true_eq_false, not_false_eq_true, i_lt, i_le, i_eq, j_lt, j_le, j_eq, Int32.toInt_toInt64, li_0, lj_0, li_1, lj_1, li_2, lj_2, li_3, lj_3, li_4, lj_4, li_5, lj_5, li_6, lj_6, li_7, lj_7, li_8, lj_8, li_10, lj_10, li_11, lj_11, li_12, lj_12, li_24, lj_24, li_25, lj_25, li_50, lj_50, li_130, lj_130, li_160, lj_160, li_800, lj_800, li_4000, lj_4000, li_10000, lj_10000, li_16384, lj_16384, li_26, lj_26, li_32, lj_32, li_48, lj_48, li_57, lj_57, li_59, lj_59, li_97, lj_97, li_99, lj_99, li_122, lj_122, li_m1, lj_m1, li_m2, lj_m2, li_m3, lj_m3, li_m4, lj_m4, li_m5, lj_m5, li_m6, lj_m6] at * <;> omega)
theorem lf_c_R_hasState_1 (q : Int32) (c_1 : ¬ q < 0) (c_2 : 1 ≤ q) : ¬ q = 0 := by (simp only [true_or, or_true, false_or, or_false, true_and, and_true, false_and, and_false, not_true_eq_false, not_false_eq_true, i_lt, i_le, i_eq, j_lt, j_le, j_eq, Int32.toInt_toInt64, li_0, lj_0, li_1, lj_1, li_2, lj_2, li_3, lj_3, li_4, lj_4, li_5, lj_5, li_6, lj_6, li_7, lj_7, li_8, lj_8, li_10, lj_10, li_11, lj_11, li_12, lj_12, li_24, lj_24, li_25, lj_25, li_50, lj_50, li_130, lj_130, li_160, lj_160, li_800, lj_800, li_4000, lj_4000, li_10000, lj_10000, li_16384, lj_16384, li_26, lj_26, li_32, lj_32, li_48, lj_48, li_57, lj_57, li_59, lj_59, li_97, lj_97, li_99, lj_99, li_122, lj_122, li_m1, lj_m1, li_m2, lj_m2, li_m3, lj_m3, li_m4, lj_m4, li_m5, lj_m5, li_m6, lj_m6] at * <;> omega)
theorem lf_c_R_hasState_2 (q : Int32) (c_1 : ¬ q < 0) (c_2 : ¬ 1 ≤ q) : q = 0 := by (simp only [true_or, or_true, false_or, or_false, true_and, and_true, false_and, and_false, not_true_eq_false, not_false_eq_true, i_lt, i_le, i_eq, j_lt, j_le, j_eq, Int32.toInt_toInt64, li_0, lj_0, li_1, lj_1, li_2, lj_2, li_3, lj_3, li_4, lj_4, li_5, lj_5, li_6, lj_6, li_7, lj_7, li_8, lj_8, li_10, lj_10, li_11, lj_11, li_12, lj_12, li_24, lj_24, li_25, lj_25, li_50, lj_50, li_130, lj_130, li_160, lj_160, li_800, lj_800, li_4000, lj_4000, li_10000, lj_10000, li_16384, lj_16384, li_26, lj_26, li_32, lj_32, li_48, lj_48, li_57, lj_57, li_59, lj_59, li_97, lj_97, li_99, lj_99, li_122, lj_122, li_m1, lj_m1, li_m2, lj_m2, li_m3, lj_m3, li_m4, lj_m4, li_m5, lj_m5, li_m6, lj_m6] at * <;> omega)
set_option maxHeartbeats 4000000 in
set_option maxRecDepth 100000 in
theorem c_R_hasState (l : Launch) (g : va_G) (cT : Nat → ClassId) (sz : Nat) (o : Nat) (a : Nat) (v : Int32) (q : Int32)  : Ctr l g cT sz yX6_hasState wsX6_hasState rm_c_R_hasState [.ref o, .int q] [(o, .inr (6, [.int 1, .int 0, .int 0, .int v, .ref a]))] (QI g (fun (r : Int32) (u : Unit) => (r = 1 ∧ q = 0) ∨ (r = 0 ∧ ¬ q = 0)) (fun (u : Unit) => [(o, .inr (6, [.int 1, .int 0, .int 0, .int v, .ref a]))])) 0 0 := by
  refine mk_ctr (cc := cX6_hasState) (maxL := 2) (ret := (some .boolean)) (by decide) rfl (Nat.le_of_ble_eq_true rfl) ?_
  intro p e s m args below meth c A Q hx hb hr hts hown hlocks hin hml hP hK hD hN hZ hA hS hQ ls hl
  have hl : lv_has ls 2 [(0, .ref o), (1, .int q)] := hl
  obtain ⟨H, hH⟩ : ∃ H : Heap, H = s.heap := ⟨_, rfl⟩
  obtain ⟨locs, hlo⟩ : ∃ x : List Loc, x = [] := ⟨_, rfl⟩
  rw [← hH] at hP
  have hS : va_S A s.heap H locs := by rw [hH, hlo]; exact hS
  have hgo : W p l e rm_c_R_hasState s m args below meth c H locs 0 0 Q (F0 m 0 ls []) := by
    clear hH hlo
    refine lv_iload_n hx hb dX6_hasState_0 rfl (lv_at hl 1 rfl) ?_
    refine lv_if_lt (tgt := 16) hx hb dX6_hasState_1 (by decide) (fun c_1 => ?_) (fun c_1 => ?_)
    · skip
      refine lv_iconst (v := 0) hx hb dX6_hasState_16 (by decide) ?_
      exact rt_i hx hb hr hlocks hQ hP hD hS () [0] dX6_hasState_17 rfl (Nat.le_of_ble_eq_true rfl) (Nat.le_of_ble_eq_true rfl) rfl (by decide) (Or.inr ⟨rfl, (lf_c_R_hasState_0 q c_1)⟩)
    · skip
      refine lv_iload_n hx hb dX6_hasState_4 rfl (lv_at hl 1 rfl) ?_
      refine lv_aload_n hx hb dX6_hasState_5 rfl (lv_at hl 0 rfl) ?_
      refine va_get (C := RX6) (T := TX6) (N := 5) (v := .int 1) hx hb hts hi_X6_hasState_X6 hown hK hP 0 rfl rfl 0 (by decide) (hts (.fieldLink RX6 9 "BothWays$Reader" "states" "I") (by decide +kernel)) (fun _ h => h) rfl dX6_hasState_6 ?_
      refine lv_icmp_ge (tgt := 16) hx hb dX6_hasState_9 (by decide) (fun c_2 => ?_) (fun c_2 => ?_)
      · skip
        refine lv_iconst (v := 0) hx hb dX6_hasState_16 (by decide) ?_
        exact rt_i hx hb hr hlocks hQ hP hD hS () [0] dX6_hasState_17 rfl (Nat.le_of_ble_eq_true rfl) (Nat.le_of_ble_eq_true rfl) rfl (by decide) (Or.inr ⟨rfl, (lf_c_R_hasState_1 q c_1 c_2)⟩)
      · skip
        refine lv_iconst (v := 1) hx hb dX6_hasState_12 (by decide) ?_
        refine lv_goto (tgt := 17) hx hb dX6_hasState_13 (by decide) ?_
        exact rt_i hx hb hr hlocks hQ hP hD hS () [0] dX6_hasState_17 rfl (Nat.le_of_ble_eq_true rfl) (Nat.le_of_ble_eq_true rfl) rfl (by decide) (Or.inl ⟨rfl, (lf_c_R_hasState_2 q c_1 c_2)⟩)
  rw [hH, hlo] at hgo
  exact hgo
theorem hi_X6_moveOf_X6 : ∀ w ∈ wsX60, w ∈ wsX6_moveOf := fun _ h => List.mem_cons_of_mem _ (List.mem_append_right _ h)
abbrev rm_c_R_moveOf : Room := { frames := 0, cells := 0, slots := 0, locals := 0 }
theorem lf_c_R_moveOf_0 (q : Int32) (z : Int32) (c_1 : ¬ q < 0) (c_2 : ¬ 1 ≤ q) (c_3 : ¬ z < 0) (c_4 : ¬ 5 ≤ z) : q = 0 := by (simp only [true_or, or_true, false_or, or_false, true_and, and_true, false_and, and_false, not_true_eq_false, not_false_eq_true, i_lt, i_le, i_eq, j_lt, j_le, j_eq, Int32.toInt_toInt64, li_0, lj_0, li_1, lj_1, li_2, lj_2, li_3, lj_3, li_4, lj_4, li_5, lj_5, li_6, lj_6, li_7, lj_7, li_8, lj_8, li_10, lj_10, li_11, lj_11, li_12, lj_12, li_24, lj_24, li_25, lj_25, li_50, lj_50, li_130, lj_130, li_160, lj_160, li_800, lj_800, li_4000, lj_4000, li_10000, lj_10000, li_16384, lj_16384, li_26, lj_26, li_32, lj_32, li_48, lj_48, li_57, lj_57, li_59, lj_59, li_97, lj_97, li_99, lj_99, li_122, lj_122, li_m1, lj_m1, li_m2, lj_m2, li_m3, lj_m3, li_m4, lj_m4, li_m5, lj_m5, li_m6, lj_m6] at * <;> omega)
theorem lf_c_R_moveOf_1 (z : Int32) (c_1 : ¬ (0 : Int32) < 0) (c_2 : ¬ 1 ≤ (0 : Int32)) (c_3 : ¬ z < 0) (c_4 : ¬ 5 ≤ z) : z = 0 ∨ z = 1 ∨ z = 2 ∨ z = 3 ∨ z = 4 := by (simp only [true_or, or_true, false_or, or_false, true_and, and_true, false_and, and_false, not_true_eq_false, not_false_eq_true, i_lt, i_le, i_eq, j_lt, j_le, j_eq, Int32.toInt_toInt64, li_0, lj_0, li_1, lj_1, li_2, lj_2, li_3, lj_3, li_4, lj_4, li_5, lj_5, li_6, lj_6, li_7, lj_7, li_8, lj_8, li_10, lj_10, li_11, lj_11, li_12, lj_12, li_24, lj_24, li_25, lj_25, li_50, lj_50, li_130, lj_130, li_160, lj_160, li_800, lj_800, li_4000, lj_4000, li_10000, lj_10000, li_16384, lj_16384, li_26, lj_26, li_32, lj_32, li_48, lj_48, li_57, lj_57, li_59, lj_59, li_97, lj_97, li_99, lj_99, li_122, lj_122, li_m1, lj_m1, li_m2, lj_m2, li_m3, lj_m3, li_m4, lj_m4, li_m5, lj_m5, li_m6, lj_m6] at * <;> omega)
set_option maxHeartbeats 4000000 in
set_option maxRecDepth 100000 in
theorem c_R_moveOf (l : Launch) (g : va_G) (cT : Nat → ClassId) (sz : Nat) (o : Nat) (a : Nat) (v : Int32) (q : Int32) (z : Int32)  : Ctr l g cT sz yX6_moveOf wsX6_moveOf rm_c_R_moveOf [.ref o, .int q, .int z] [(o, .inr (6, [.int 1, .int 0, .int 0, .int v, .ref a])), (a, .inl (cT 0, 25, .inl (fun _ => (-1))))] (QI g (fun (r : Int32) (u : Unit) => r = (-1)) (fun (u : Unit) => [(o, .inr (6, [.int 1, .int 0, .int 0, .int v, .ref a])), (a, .inl (cT 0, 25, .inl (fun _ => (-1))))])) 0 0 := by
  refine mk_ctr (cc := cX6_moveOf) (maxL := 4) (ret := (some .int)) (by decide) rfl (Nat.le_of_ble_eq_true rfl) ?_
  intro p e s m args below meth c A Q hx hb hr hts hown hlocks hin hml hP hK hD hN hZ hA hS hQ ls hl
  have hl : lv_has ls 4 [(0, .ref o), (1, .int q), (2, .int z)] := hl
  obtain ⟨H, hH⟩ : ∃ H : Heap, H = s.heap := ⟨_, rfl⟩
  obtain ⟨locs, hlo⟩ : ∃ x : List Loc, x = [] := ⟨_, rfl⟩
  rw [← hH] at hP
  have hS : va_S A s.heap H locs := by rw [hH, hlo]; exact hS
  have hgo : W p l e rm_c_R_moveOf s m args below meth c H locs 0 0 Q (F0 m 0 ls []) := by
    clear hH hlo
    refine lv_iload_n hx hb dX6_moveOf_0 rfl (lv_at hl 1 rfl) ?_
    refine lv_if_lt (tgt := 25) hx hb dX6_moveOf_1 (by decide) (fun c_1 => ?_) (fun c_1 => ?_)
    · skip
      refine lv_iconst (v := 0) hx hb dX6_moveOf_25 (by decide) ?_
      refine lv_istore_n (lv' := [(3, .int 0), (0, .ref o), (1, .int q), (2, .int z)]) hx hb dX6_moveOf_26 rfl hl (by decide) rfl (fun ls hl => ?_)
      refine lv_iload_n hx hb dX6_moveOf_27 rfl (lv_at hl 0 rfl) ?_
      refine if_eq_t hx hb 44 dX6_moveOf_28 (by decide) (by decide) ?_
      refine lv_iconst (v := (-1)) hx hb dX6_moveOf_44 (by decide) ?_
      exact rt_i hx hb hr hlocks hQ hP hD hS () [0, 1] dX6_moveOf_45 rfl (Nat.le_of_ble_eq_true rfl) (Nat.le_of_ble_eq_true rfl) rfl (by decide) rfl
    · skip
      refine lv_iload_n hx hb dX6_moveOf_4 rfl (lv_at hl 1 rfl) ?_
      refine lv_aload_n hx hb dX6_moveOf_5 rfl (lv_at hl 0 rfl) ?_
      refine va_get (C := RX6) (T := TX6) (N := 5) (v := .int 1) hx hb hts hi_X6_moveOf_X6 hown hK hP 0 rfl rfl 0 (by decide) (hts (.fieldLink RX6 9 "BothWays$Reader" "states" "I") (by decide +kernel)) (fun _ h => h) rfl dX6_moveOf_6 ?_
      refine lv_icmp_ge (tgt := 25) hx hb dX6_moveOf_9 (by decide) (fun c_2 => ?_) (fun c_2 => ?_)
      · skip
        refine lv_iconst (v := 0) hx hb dX6_moveOf_25 (by decide) ?_
        refine lv_istore_n (lv' := [(3, .int 0), (0, .ref o), (1, .int q), (2, .int z)]) hx hb dX6_moveOf_26 rfl hl (by decide) rfl (fun ls hl => ?_)
        refine lv_iload_n hx hb dX6_moveOf_27 rfl (lv_at hl 0 rfl) ?_
        refine if_eq_t hx hb 44 dX6_moveOf_28 (by decide) (by decide) ?_
        refine lv_iconst (v := (-1)) hx hb dX6_moveOf_44 (by decide) ?_
        exact rt_i hx hb hr hlocks hQ hP hD hS () [0, 1] dX6_moveOf_45 rfl (Nat.le_of_ble_eq_true rfl) (Nat.le_of_ble_eq_true rfl) rfl (by decide) rfl
      · skip
        refine lv_iload_n hx hb dX6_moveOf_12 rfl (lv_at hl 2 rfl) ?_
        refine lv_if_lt (tgt := 25) hx hb dX6_moveOf_13 (by decide) (fun c_3 => ?_) (fun c_3 => ?_)
        · skip
          refine lv_iconst (v := 0) hx hb dX6_moveOf_25 (by decide) ?_
          refine lv_istore_n (lv' := [(3, .int 0), (0, .ref o), (1, .int q), (2, .int z)]) hx hb dX6_moveOf_26 rfl hl (by decide) rfl (fun ls hl => ?_)
          refine lv_iload_n hx hb dX6_moveOf_27 rfl (lv_at hl 0 rfl) ?_
          refine if_eq_t hx hb 44 dX6_moveOf_28 (by decide) (by decide) ?_
          refine lv_iconst (v := (-1)) hx hb dX6_moveOf_44 (by decide) ?_
          exact rt_i hx hb hr hlocks hQ hP hD hS () [0, 1] dX6_moveOf_45 rfl (Nat.le_of_ble_eq_true rfl) (Nat.le_of_ble_eq_true rfl) rfl (by decide) rfl
        · skip
          refine lv_iload_n hx hb dX6_moveOf_16 rfl (lv_at hl 2 rfl) ?_
          refine lv_iconst (v := 5) hx hb dX6_moveOf_17 (by decide) ?_
          refine lv_icmp_ge (tgt := 25) hx hb dX6_moveOf_18 (by decide) (fun c_4 => ?_) (fun c_4 => ?_)
          · skip
            refine lv_iconst (v := 0) hx hb dX6_moveOf_25 (by decide) ?_
            refine lv_istore_n (lv' := [(3, .int 0), (0, .ref o), (1, .int q), (2, .int z)]) hx hb dX6_moveOf_26 rfl hl (by decide) rfl (fun ls hl => ?_)
            refine lv_iload_n hx hb dX6_moveOf_27 rfl (lv_at hl 0 rfl) ?_
            refine if_eq_t hx hb 44 dX6_moveOf_28 (by decide) (by decide) ?_
            refine lv_iconst (v := (-1)) hx hb dX6_moveOf_44 (by decide) ?_
            exact rt_i hx hb hr hlocks hQ hP hD hS () [0, 1] dX6_moveOf_45 rfl (Nat.le_of_ble_eq_true rfl) (Nat.le_of_ble_eq_true rfl) rfl (by decide) rfl
          · skip
            obtain rfl : q = 0 := (lf_c_R_moveOf_0 q z c_1 c_2 c_3 c_4)
            rcases (lf_c_R_moveOf_1 z c_1 c_2 c_3 c_4) with rfl | rfl | rfl | rfl | rfl
            · skip
              refine lv_iconst (v := 1) hx hb dX6_moveOf_21 (by decide) ?_
              refine lv_goto (tgt := 26) hx hb dX6_moveOf_22 (by decide) ?_
              refine lv_istore_n (lv' := [(3, .int 1), (0, .ref o), (1, .int 0), (2, .int 0)]) hx hb dX6_moveOf_26 rfl hl (by decide) rfl (fun ls hl => ?_)
              refine lv_iload_n hx hb dX6_moveOf_27 rfl (lv_at hl 0 rfl) ?_
              refine if_eq_f hx hb dX6_moveOf_28 44 (by decide) (by decide) ?_
              refine lv_aload_n hx hb dX6_moveOf_31 rfl (lv_at hl 1 rfl) ?_
              refine va_get (C := RX6) (T := TX6) (N := 5) (v := .ref a) hx hb hts hi_X6_moveOf_X6 hown hK hP 0 rfl rfl 4 (by decide) (hts (.fieldLink RX6 24 "BothWays$Reader" "packed" "[I") (by decide +kernel)) (fun _ h => h) rfl dX6_moveOf_32 ?_
              refine lv_iload_n hx hb dX6_moveOf_35 rfl (lv_at hl 2 rfl) ?_
              refine lv_iconst (v := 5) hx hb dX6_moveOf_36 (by decide) ?_
              refine w_imul (v := 0) hx hb dX6_moveOf_37 (by decide) ?_
              refine lv_iload_n hx hb dX6_moveOf_38 rfl (lv_at hl 3 rfl) ?_
              refine w_iadd (v := 0) hx hb dX6_moveOf_39 (by decide) ?_
              refine w_iald (v := (-1)) hx hb hK hP 1 rfl dX6_moveOf_40 (inC (by decide)) rfl ?_
              refine lv_goto (tgt := 45) hx hb dX6_moveOf_41 (by decide) ?_
              exact rt_i hx hb hr hlocks hQ hP hD hS () [0, 1] dX6_moveOf_45 rfl (Nat.le_of_ble_eq_true rfl) (Nat.le_of_ble_eq_true rfl) rfl (by decide) rfl
            · skip
              refine lv_iconst (v := 1) hx hb dX6_moveOf_21 (by decide) ?_
              refine lv_goto (tgt := 26) hx hb dX6_moveOf_22 (by decide) ?_
              refine lv_istore_n (lv' := [(3, .int 1), (0, .ref o), (1, .int 0), (2, .int 1)]) hx hb dX6_moveOf_26 rfl hl (by decide) rfl (fun ls hl => ?_)
              refine lv_iload_n hx hb dX6_moveOf_27 rfl (lv_at hl 0 rfl) ?_
              refine if_eq_f hx hb dX6_moveOf_28 44 (by decide) (by decide) ?_
              refine lv_aload_n hx hb dX6_moveOf_31 rfl (lv_at hl 1 rfl) ?_
              refine va_get (C := RX6) (T := TX6) (N := 5) (v := .ref a) hx hb hts hi_X6_moveOf_X6 hown hK hP 0 rfl rfl 4 (by decide) (hts (.fieldLink RX6 24 "BothWays$Reader" "packed" "[I") (by decide +kernel)) (fun _ h => h) rfl dX6_moveOf_32 ?_
              refine lv_iload_n hx hb dX6_moveOf_35 rfl (lv_at hl 2 rfl) ?_
              refine lv_iconst (v := 5) hx hb dX6_moveOf_36 (by decide) ?_
              refine w_imul (v := 0) hx hb dX6_moveOf_37 (by decide) ?_
              refine lv_iload_n hx hb dX6_moveOf_38 rfl (lv_at hl 3 rfl) ?_
              refine w_iadd (v := 1) hx hb dX6_moveOf_39 (by decide) ?_
              refine w_iald (v := (-1)) hx hb hK hP 1 rfl dX6_moveOf_40 (inC (by decide)) rfl ?_
              refine lv_goto (tgt := 45) hx hb dX6_moveOf_41 (by decide) ?_
              exact rt_i hx hb hr hlocks hQ hP hD hS () [0, 1] dX6_moveOf_45 rfl (Nat.le_of_ble_eq_true rfl) (Nat.le_of_ble_eq_true rfl) rfl (by decide) rfl
            · skip
              refine lv_iconst (v := 1) hx hb dX6_moveOf_21 (by decide) ?_
              refine lv_goto (tgt := 26) hx hb dX6_moveOf_22 (by decide) ?_
              refine lv_istore_n (lv' := [(3, .int 1), (0, .ref o), (1, .int 0), (2, .int 2)]) hx hb dX6_moveOf_26 rfl hl (by decide) rfl (fun ls hl => ?_)
              refine lv_iload_n hx hb dX6_moveOf_27 rfl (lv_at hl 0 rfl) ?_
              refine if_eq_f hx hb dX6_moveOf_28 44 (by decide) (by decide) ?_
              refine lv_aload_n hx hb dX6_moveOf_31 rfl (lv_at hl 1 rfl) ?_
              refine va_get (C := RX6) (T := TX6) (N := 5) (v := .ref a) hx hb hts hi_X6_moveOf_X6 hown hK hP 0 rfl rfl 4 (by decide) (hts (.fieldLink RX6 24 "BothWays$Reader" "packed" "[I") (by decide +kernel)) (fun _ h => h) rfl dX6_moveOf_32 ?_
              refine lv_iload_n hx hb dX6_moveOf_35 rfl (lv_at hl 2 rfl) ?_
              refine lv_iconst (v := 5) hx hb dX6_moveOf_36 (by decide) ?_
              refine w_imul (v := 0) hx hb dX6_moveOf_37 (by decide) ?_
              refine lv_iload_n hx hb dX6_moveOf_38 rfl (lv_at hl 3 rfl) ?_
              refine w_iadd (v := 2) hx hb dX6_moveOf_39 (by decide) ?_
              refine w_iald (v := (-1)) hx hb hK hP 1 rfl dX6_moveOf_40 (inC (by decide)) rfl ?_
              refine lv_goto (tgt := 45) hx hb dX6_moveOf_41 (by decide) ?_
              exact rt_i hx hb hr hlocks hQ hP hD hS () [0, 1] dX6_moveOf_45 rfl (Nat.le_of_ble_eq_true rfl) (Nat.le_of_ble_eq_true rfl) rfl (by decide) rfl
            · skip
              refine lv_iconst (v := 1) hx hb dX6_moveOf_21 (by decide) ?_
              refine lv_goto (tgt := 26) hx hb dX6_moveOf_22 (by decide) ?_
              refine lv_istore_n (lv' := [(3, .int 1), (0, .ref o), (1, .int 0), (2, .int 3)]) hx hb dX6_moveOf_26 rfl hl (by decide) rfl (fun ls hl => ?_)
              refine lv_iload_n hx hb dX6_moveOf_27 rfl (lv_at hl 0 rfl) ?_
              refine if_eq_f hx hb dX6_moveOf_28 44 (by decide) (by decide) ?_
              refine lv_aload_n hx hb dX6_moveOf_31 rfl (lv_at hl 1 rfl) ?_
              refine va_get (C := RX6) (T := TX6) (N := 5) (v := .ref a) hx hb hts hi_X6_moveOf_X6 hown hK hP 0 rfl rfl 4 (by decide) (hts (.fieldLink RX6 24 "BothWays$Reader" "packed" "[I") (by decide +kernel)) (fun _ h => h) rfl dX6_moveOf_32 ?_
              refine lv_iload_n hx hb dX6_moveOf_35 rfl (lv_at hl 2 rfl) ?_
              refine lv_iconst (v := 5) hx hb dX6_moveOf_36 (by decide) ?_
              refine w_imul (v := 0) hx hb dX6_moveOf_37 (by decide) ?_
              refine lv_iload_n hx hb dX6_moveOf_38 rfl (lv_at hl 3 rfl) ?_
              refine w_iadd (v := 3) hx hb dX6_moveOf_39 (by decide) ?_
              refine w_iald (v := (-1)) hx hb hK hP 1 rfl dX6_moveOf_40 (inC (by decide)) rfl ?_
              refine lv_goto (tgt := 45) hx hb dX6_moveOf_41 (by decide) ?_
              exact rt_i hx hb hr hlocks hQ hP hD hS () [0, 1] dX6_moveOf_45 rfl (Nat.le_of_ble_eq_true rfl) (Nat.le_of_ble_eq_true rfl) rfl (by decide) rfl
            · skip
              refine lv_iconst (v := 1) hx hb dX6_moveOf_21 (by decide) ?_
              refine lv_goto (tgt := 26) hx hb dX6_moveOf_22 (by decide) ?_
              refine lv_istore_n (lv' := [(3, .int 1), (0, .ref o), (1, .int 0), (2, .int 4)]) hx hb dX6_moveOf_26 rfl hl (by decide) rfl (fun ls hl => ?_)
              refine lv_iload_n hx hb dX6_moveOf_27 rfl (lv_at hl 0 rfl) ?_
              refine if_eq_f hx hb dX6_moveOf_28 44 (by decide) (by decide) ?_
              refine lv_aload_n hx hb dX6_moveOf_31 rfl (lv_at hl 1 rfl) ?_
              refine va_get (C := RX6) (T := TX6) (N := 5) (v := .ref a) hx hb hts hi_X6_moveOf_X6 hown hK hP 0 rfl rfl 4 (by decide) (hts (.fieldLink RX6 24 "BothWays$Reader" "packed" "[I") (by decide +kernel)) (fun _ h => h) rfl dX6_moveOf_32 ?_
              refine lv_iload_n hx hb dX6_moveOf_35 rfl (lv_at hl 2 rfl) ?_
              refine lv_iconst (v := 5) hx hb dX6_moveOf_36 (by decide) ?_
              refine w_imul (v := 0) hx hb dX6_moveOf_37 (by decide) ?_
              refine lv_iload_n hx hb dX6_moveOf_38 rfl (lv_at hl 3 rfl) ?_
              refine w_iadd (v := 4) hx hb dX6_moveOf_39 (by decide) ?_
              refine w_iald (v := (-1)) hx hb hK hP 1 rfl dX6_moveOf_40 (inC (by decide)) rfl ?_
              refine lv_goto (tgt := 45) hx hb dX6_moveOf_41 (by decide) ?_
              exact rt_i hx hb hr hlocks hQ hP hD hS () [0, 1] dX6_moveOf_45 rfl (Nat.le_of_ble_eq_true rfl) (Nat.le_of_ble_eq_true rfl) rfl (by decide) rfl
  rw [hH, hlo] at hgo
  exact hgo
