theorem hi_X9_init_X9 : ∀ w ∈ wsX90, w ∈ wsX9_init := fun _ h => List.mem_cons_of_mem _ (List.mem_append_right _ h)
abbrev rm_c_T_init : Room := { frames := 1, cells := 1, slots := 160, locals := 20 }
set_option maxHeartbeats 4000000 in
set_option maxRecDepth 100000 in
theorem c_T_init (l : Launch) (g : va_G) (cT : Nat → ClassId) (sz : Nat) (o : Nat)  : Ctr l g cT sz yX9_init wsX9_init rm_c_T_init [.ref o] [(o, .inr (9, [.null, .int 0, .int 0, .int 0, .int 0, .int 0, .int 0, .int 0, .int 0]))] (QV g (fun (u : Nat) => True) (fun (u : Nat) => [(o, .inr (9, [.ref u, .int 0, .int 0, .int 0, .int 0, .int 0, .int 0, .int 0, .int 0])), (u, .inl (cT 0, 160, .inl (fun _ => 0)))])) 1 160 := by
  refine mk_ctr (cc := cX9_init) (maxL := 1) (ret := none) (by decide) rfl (Nat.le_of_ble_eq_true rfl) ?_
  intro p e s m args below meth c A Q hx hb hr hts hown hlocks hin hml hP hK hD hN hZ hA hS hQ ls hl
  have hl : lv_has ls 1 [(0, .ref o)] := hl
  obtain ⟨H, hH⟩ : ∃ H : Heap, H = s.heap := ⟨_, rfl⟩
  obtain ⟨locs, hlo⟩ : ∃ x : List Loc, x = [] := ⟨_, rfl⟩
  rw [← hH] at hP
  have hS : va_S A s.heap H locs := by rw [hH, hlo]; exact hS
  have hgo : W p l e rm_c_T_init s m args below meth c H locs 0 0 Q (F0 m 0 ls []) := by
    clear hH hlo
    refine lv_aload_n hx hb dX9_init_0 rfl (lv_at hl 0 rfl) ?_
    refine W.objInit hx hb hown (hts (.methodLink RX9 3 objectInit) (by decide +kernel)) (hts (.instanceMethod objectInit) (by decide +kernel)) (hts _ (List.mem_cons_of_mem _ (List.mem_append_left _ (List.mem_of_getElem? (i := 2) rfl)))) rfl (by rw [hml]; exact hl.1) rfl dX9_init_1 (Nat.le_of_ble_eq_true rfl) (Nat.le_of_ble_eq_true rfl) ?_
    refine W.eq (g2 := F0 m 4 ls []) rfl ?_
    refine lv_aload_n hx hb dX9_init_4 rfl (lv_at hl 0 rfl) ?_
    refine lv_sipush (v := 160) hx hb dX9_init_5 (by decide) ?_
    refine w_newI hx hb (hts (.arrayClass .int) (by decide +kernel)) hK hP hD hS hA 160 1 160 dX9_init_8 (by decide) (by decide) (by decide) (Nat.le_of_ble_eq_true rfl) (Nat.le_of_ble_eq_true rfl) (Nat.le_of_ble_eq_true rfl) (Nat.le_of_ble_eq_true rfl) (fun q_1 H hP hD hS => ?_)
    have hP : va_P g vwCl [(o, .inr (9, [.null, .int 0, .int 0, .int 0, .int 0, .int 0, .int 0, .int 0, .int 0])), (q_1, .inl (cT 0, 160, .inl (fun _ => 0)))] H := hP
    have hD : va_D A [(o, .inr (9, [.null, .int 0, .int 0, .int 0, .int 0, .int 0, .int 0, .int 0, .int 0])), (q_1, .inl (cT 0, 160, .inl (fun _ => 0)))] := hD
    refine va_putF (C := RX9) (T := TX9) (N := 9) (v := .ref q_1) (ty := .array .int) hx hb hts hi_X9_init_X9 tyX9 tyX9_ok nmX9 hown hK hP hD hS 0 rfl rfl 0 (by decide) (hts (.fieldLink RX9 9 "BothWays$Text" "bytes" "[I") (by decide +kernel)) (fun _ h => h) rfl hin rfl (by decide +kernel) rfl rfl (Nat.le_of_ble_eq_true rfl) dX9_init_10 (fun H locs hP hD hS => ?_)
    have hP : va_P g vwCl [(o, .inr (9, [.ref q_1, .int 0, .int 0, .int 0, .int 0, .int 0, .int 0, .int 0, .int 0])), (q_1, .inl (cT 0, 160, .inl (fun _ => 0)))] H := hP
    have hD : va_D A [(o, .inr (9, [.ref q_1, .int 0, .int 0, .int 0, .int 0, .int 0, .int 0, .int 0, .int 0])), (q_1, .inl (cT 0, 160, .inl (fun _ => 0)))] := hD
    refine lv_aload_n hx hb dX9_init_13 rfl (lv_at hl 0 rfl) ?_
    refine lv_iconst (v := 0) hx hb dX9_init_14 (by decide) ?_
    refine va_put (C := RX9) (T := TX9) (N := 9) (v := .int 0) (ty := .int) hx hb hts hi_X9_init_X9 tyX9 tyX9_ok nmX9 hown hK hP hD hS 0 rfl rfl 1 (by decide) (hts (.fieldLink RX9 15 "BothWays$Text" "size" "I") (by decide +kernel)) (fun _ h => h) rfl (by decide +kernel) rfl rfl (Nat.le_of_ble_eq_true rfl) dX9_init_15 (fun H locs hP hD hS => ?_)
    have hP : va_P g vwCl [(o, .inr (9, [.ref q_1, .int 0, .int 0, .int 0, .int 0, .int 0, .int 0, .int 0, .int 0])), (q_1, .inl (cT 0, 160, .inl (fun _ => 0)))] H := hP
    have hD : va_D A [(o, .inr (9, [.ref q_1, .int 0, .int 0, .int 0, .int 0, .int 0, .int 0, .int 0, .int 0])), (q_1, .inl (cT 0, 160, .inl (fun _ => 0)))] := hD
    exact rt_v hx hb hr hlocks hQ hP hD hS q_1 [0, 1] dX9_init_18 (Nat.le_of_ble_eq_true rfl) (Nat.le_of_ble_eq_true rfl) rfl (by decide) trivial
  rw [hH, hlo] at hgo
  exact hgo
theorem hi_X9_append_X9 : ∀ w ∈ wsX90, w ∈ wsX9_append := fun _ h => List.mem_cons_of_mem _ (List.mem_append_right _ h)
abbrev rm_c_T_append : Room := { frames := 0, cells := 0, slots := 0, locals := 0 }
set_option maxHeartbeats 4000000 in
set_option maxRecDepth 100000 in
theorem c_T_append (l : Launch) (g : va_G) (cT : Nat → ClassId) (sz : Nat) (o : Nat) (a : Nat) (b : Int64) (N : Nat) (hM : N ≤ 8) : Ctr l g cT sz yX9_append wsX9_append rm_c_T_append [.ref o, .long b, .int (nI N)] [(o, .inr (9, [.ref a, .int 0, .int 0, .int 0, .int 0, .int 0, .int 0, .int 0, .int 0])), (a, .inl (cT 0, 160, .inl (fun _ => 0)))] (QI g (fun (r : Int32) (u : Unit) => r = 1) (fun (u : Unit) => [(o, .inr (9, [.ref a, .int (nI N), .int 0, .int 0, .int 0, .int 0, .int 0, .int 0, .int 0]))])) 0 0 := by
  refine mk_ctr (cc := cX9_append) (maxL := 5) (ret := (some .boolean)) (by decide) rfl (Nat.le_of_ble_eq_true rfl) ?_
  intro p e s m args below meth c A Q hx hb hr hts hown hlocks hin hml hP hK hD hN hZ hA hS hQ ls hl
  have hl : lv_has ls 5 [(0, .ref o), (1, .long b), (3, .int (nI N))] := hl
  obtain ⟨H, hH⟩ : ∃ H : Heap, H = s.heap := ⟨_, rfl⟩
  obtain ⟨locs, hlo⟩ : ∃ x : List Loc, x = [] := ⟨_, rfl⟩
  rw [← hH] at hP
  have hS : va_S A s.heap H locs := by rw [hH, hlo]; exact hS
  have hgo : W p l e rm_c_T_append s m args below meth c H locs 0 0 Q (F0 m 0 ls []) := by
    clear hH hlo
    refine lv_aload_n hx hb dX9_append_0 rfl (lv_at hl 0 rfl) ?_
    refine va_get (C := RX9) (T := TX9) (N := 9) (v := .int 0) hx hb hts hi_X9_append_X9 hown hK hP 0 rfl rfl 1 (by decide) (hts (.fieldLink RX9 15 "BothWays$Text" "size" "I") (by decide +kernel)) (fun _ h => h) rfl dX9_append_1 ?_
    refine lv_iload_n hx hb dX9_append_4 rfl (lv_at hl 2 rfl) ?_
    refine w_iadd (v := (nI N)) hx hb dX9_append_5 (Int32.zero_add _) ?_
    refine lv_sipush (v := 160) hx hb dX9_append_6 (by decide) ?_
    refine icmp_le_t hx hb 14 dX9_append_9 (by decide) (nI_le (b := 160) (by omega) (by decide)) ?_
    refine lv_iconst (v := 0) hx hb dX9_append_14 (by decide) ?_
    refine lv_istore (lv' := [(4, .int 0), (0, .ref o), (1, .long b), (3, .int (nI N))]) hx hb dX9_append_15 hl (by decide) rfl (fun ls hl => ?_)
    have loop_1 : ∀ (fuel : Nat) (j : Nat) (f2 : Nat → Int32), j ≤ N → N - j < fuel → ∀ (H : Heap) (locs : List Loc), va_P g vwCl [(o, .inr (9, [.ref a, .int 0, .int 0, .int 0, .int 0, .int 0, .int 0, .int 0, .int 0])), (a, .inl (cT 0, 160, .inl f2))] H → va_D A [(o, .inr (9, [.ref a, .int 0, .int 0, .int 0, .int 0, .int 0, .int 0, .int 0, .int 0])), (a, .inl (cT 0, 160, .inl f2))] → va_S A s.heap H locs → ∀ ls : Array Slot, lv_has ls 5 [(4, .int (nI j)), (0, .ref o), (1, .long b), (3, .int (nI N))] → W p l e rm_c_T_append s m args below meth c H locs 0 0 Q (F0 m 17 ls []) := by
      intro fuel
      induction fuel with
      | zero => intro j f2 hj hfu; omega
      | succ fuel ih_loop_1 =>
        intro j f2 hj hfu H locs hP hD hS ls hl
        refine lv_iload hx hb dX9_append_17 (lv_at hl 0 rfl) ?_
        refine lv_iload_n hx hb dX9_append_19 rfl (lv_at hl 3 rfl) ?_
        refine lv_icmp_ge (tgt := 53) hx hb dX9_append_20 (by decide) (fun c_2 => ?_) (fun c_2 => ?_)
        · skip
          refine lv_aload_n hx hb dX9_append_53 rfl (lv_at hl 1 rfl) ?_
          refine lv_dup hx hb dX9_append_54 rfl ?_
          refine va_get (C := RX9) (T := TX9) (N := 9) (v := .int 0) hx hb hts hi_X9_append_X9 hown hK hP 0 rfl rfl 1 (by decide) (hts (.fieldLink RX9 15 "BothWays$Text" "size" "I") (by decide +kernel)) (fun _ h => h) rfl dX9_append_55 ?_
          refine lv_iload_n hx hb dX9_append_58 rfl (lv_at hl 3 rfl) ?_
          refine w_iadd (v := (nI N)) hx hb dX9_append_59 (Int32.zero_add _) ?_
          refine va_put (C := RX9) (T := TX9) (N := 9) (v := .int (nI N)) (ty := .int) hx hb hts hi_X9_append_X9 tyX9 tyX9_ok nmX9 hown hK hP hD hS 0 rfl rfl 1 (by decide) (hts (.fieldLink RX9 15 "BothWays$Text" "size" "I") (by decide +kernel)) (fun _ h => h) rfl (by decide +kernel) rfl rfl (Nat.le_of_ble_eq_true rfl) dX9_append_60 (fun H locs hP hD hS => ?_)
          have hP : va_P g vwCl [(o, .inr (9, [.ref a, .int (nI N), .int 0, .int 0, .int 0, .int 0, .int 0, .int 0, .int 0])), (a, .inl (cT 0, 160, .inl f2))] H := hP
          have hD : va_D A [(o, .inr (9, [.ref a, .int (nI N), .int 0, .int 0, .int 0, .int 0, .int 0, .int 0, .int 0])), (a, .inl (cT 0, 160, .inl f2))] := hD
          refine lv_iconst (v := 1) hx hb dX9_append_63 (by decide) ?_
          exact rt_i hx hb hr hlocks hQ hP hD hS () [0] dX9_append_64 rfl (Nat.le_of_ble_eq_true rfl) (Nat.le_of_ble_eq_true rfl) rfl (by decide) rfl
        · skip
          have hlt : j < N := Nat.lt_of_not_le (fun h => c_2 (nI_le h (by omega)))
          refine lv_aload_n hx hb dX9_append_23 rfl (lv_at hl 1 rfl) ?_
          refine va_get (C := RX9) (T := TX9) (N := 9) (v := .ref a) hx hb hts hi_X9_append_X9 hown hK hP 0 rfl rfl 0 (by decide) (hts (.fieldLink RX9 9 "BothWays$Text" "bytes" "[I") (by decide +kernel)) (fun _ h => h) rfl dX9_append_24 ?_
          refine lv_aload_n hx hb dX9_append_27 rfl (lv_at hl 1 rfl) ?_
          refine va_get (C := RX9) (T := TX9) (N := 9) (v := .int 0) hx hb hts hi_X9_append_X9 hown hK hP 0 rfl rfl 1 (by decide) (hts (.fieldLink RX9 15 "BothWays$Text" "size" "I") (by decide +kernel)) (fun _ h => h) rfl dX9_append_28 ?_
          refine lv_iload hx hb dX9_append_31 (lv_at hl 0 rfl) ?_
          refine w_iadd (v := (nI j)) hx hb dX9_append_33 (Int32.zero_add _) ?_
          refine lv_lload_n hx hb dX9_append_34 rfl (lv_at hl 2 rfl) ?_
          refine lv_bipush (v := 8) hx hb dX9_append_35 (by decide) ?_
          refine lv_iload hx hb dX9_append_37 (lv_at hl 0 rfl) ?_
          refine w_imul (v := (8 : Int32) * (nI j)) hx hb dX9_append_39 rfl ?_
          refine lv_lshr (v := b >>> (((8 : Int32) * (nI j)).toInt64 &&& 63)) hx hb dX9_append_40 rfl ?_
          refine lv_ldc2 (v := 255) hx hb hown (hts (.constantLong RX9 19 (255)) (by decide +kernel)) dX9_append_41 ?_
          refine w_land (v := (b >>> (((8 : Int32) * (nI j)).toInt64 &&& 63)) &&& (255 : Int64)) hx hb dX9_append_44 rfl ?_
          refine lv_l2i (v := ((b >>> (((8 : Int32) * (nI j)).toInt64 &&& 63)) &&& (255 : Int64)).toInt32) hx hb dX9_append_45 rfl ?_
          obtain ⟨f_3, ef_3⟩ : ∃ z, z = upd f2 (nI j).toNatClampNeg (((b >>> (((8 : Int32) * (nI j)).toInt64 &&& 63)) &&& (255 : Int64)).toInt32) := ⟨_, rfl⟩
          refine w_iast (f' := f_3) hx hb hK hP hD hS 1 rfl dX9_append_46 (vp_in_nI (show j < 160 by omega) (by decide)) ef_3.symm (fun H locs hP hD hS => ?_)
          have hP : va_P g vwCl [(o, .inr (9, [.ref a, .int 0, .int 0, .int 0, .int 0, .int 0, .int 0, .int 0, .int 0])), (a, .inl (cT 0, 160, .inl f_3))] H := hP
          have hD : va_D A [(o, .inr (9, [.ref a, .int 0, .int 0, .int 0, .int 0, .int 0, .int 0, .int 0, .int 0])), (a, .inl (cT 0, 160, .inl f_3))] := hD
          refine lv_iinc (v := (nI (j + 1))) (lv' := [(4, .int (nI (j + 1))), (0, .ref o), (1, .long b), (3, .int (nI N))]) hx hb dX9_append_47 hl (k := 0) rfl (nI_1 j) (by decide) rfl (fun ls hl => ?_)
          refine lv_goto (tgt := 17) hx hb dX9_append_50 (by decide) ?_
          exact ih_loop_1 (j + 1) f_3 (by omega) (by omega) _ _ (hP.sub [0, 1] rfl) (hD.sub [0, 1] (by decide) rfl) hS ls (lv_sub hl [0, 1, 2, 3] rfl)
    exact loop_1 _ 0 (fun _ => 0) (Nat.zero_le _) (Nat.lt_succ_self _) _ _ (hP.sub [0, 1] rfl) (hD.sub [0, 1] (by decide) rfl) hS ls (lv_sub hl [0, 1, 2, 3] rfl)
  rw [hH, hlo] at hgo
  exact hgo
theorem hi_X9_byteAt_X9 : ∀ w ∈ wsX90, w ∈ wsX9_byteAt := fun _ h => List.mem_cons_of_mem _ (List.mem_append_right _ h)
abbrev rm_c_T_byteAt : Room := { frames := 0, cells := 0, slots := 0, locals := 0 }
set_option maxHeartbeats 4000000 in
set_option maxRecDepth 100000 in
theorem c_T_byteAt (l : Launch) (g : va_G) (cT : Nat → ClassId) (sz : Nat) (o : Nat) (a : Nat) (y1 : Int32) (y2 : Int32)  : Ctr l g cT sz yX9_byteAt wsX9_byteAt rm_c_T_byteAt [.ref o, .int 0] [(o, .inr (9, [.ref a, .int 0, .int y1, .int y2, .int 0, .int 0, .int 0, .int 0, .int 0]))] (QI g (fun (r : Int32) (u : Unit) => r = (-1)) (fun (u : Unit) => [(o, .inr (9, [.ref a, .int 0, .int y1, .int y2, .int 0, .int 0, .int 0, .int 0, .int 0]))])) 0 0 := by
  refine mk_ctr (cc := cX9_byteAt) (maxL := 2) (ret := (some .int)) (by decide) rfl (Nat.le_of_ble_eq_true rfl) ?_
  intro p e s m args below meth c A Q hx hb hr hts hown hlocks hin hml hP hK hD hN hZ hA hS hQ ls hl
  have hl : lv_has ls 2 [(0, .ref o), (1, .int 0)] := hl
  obtain ⟨H, hH⟩ : ∃ H : Heap, H = s.heap := ⟨_, rfl⟩
  obtain ⟨locs, hlo⟩ : ∃ x : List Loc, x = [] := ⟨_, rfl⟩
  rw [← hH] at hP
  have hS : va_S A s.heap H locs := by rw [hH, hlo]; exact hS
  have hgo : W p l e rm_c_T_byteAt s m args below meth c H locs 0 0 Q (F0 m 0 ls []) := by
    clear hH hlo
    refine lv_iload_n hx hb dX9_byteAt_0 rfl (lv_at hl 1 rfl) ?_
    refine if_lt_f hx hb dX9_byteAt_1 21 (by decide) (by decide) ?_
    refine lv_iload_n hx hb dX9_byteAt_4 rfl (lv_at hl 1 rfl) ?_
    refine lv_aload_n hx hb dX9_byteAt_5 rfl (lv_at hl 0 rfl) ?_
    refine va_get (C := RX9) (T := TX9) (N := 9) (v := .int 0) hx hb hts hi_X9_byteAt_X9 hown hK hP 0 rfl rfl 1 (by decide) (hts (.fieldLink RX9 15 "BothWays$Text" "size" "I") (by decide +kernel)) (fun _ h => h) rfl dX9_byteAt_6 ?_
    refine icmp_ge_t hx hb 21 dX9_byteAt_9 (by decide) (by decide) ?_
    refine lv_iconst (v := (-1)) hx hb dX9_byteAt_21 (by decide) ?_
    exact rt_i hx hb hr hlocks hQ hP hD hS () [0] dX9_byteAt_22 rfl (Nat.le_of_ble_eq_true rfl) (Nat.le_of_ble_eq_true rfl) rfl (by decide) rfl
  rw [hH, hlo] at hgo
  exact hgo
theorem yd_X9_byteAt : yX9_byteAt.cls = RX9 ∧ yX9_byteAt.cls ≠ "java/lang/invoke/MethodHandle" ∧ yX9_byteAt.cls ≠ "java/lang/invoke/VarHandle" ∧ (parseMethodDescriptor yX9_byteAt.desc).map (fun d => d.parameters.length) = some 1 := by decide +kernel
abbrev rm_c_T_kindAt : Room := { frames := 1, cells := 0, slots := 0, locals := 21 }
set_option maxHeartbeats 4000000 in
set_option maxRecDepth 100000 in
theorem c_T_kindAt (l : Launch) (g : va_G) (cT : Nat → ClassId) (sz : Nat) (o : Nat) (a : Nat) (y1 : Int32) (y2 : Int32)  : Ctr l g cT sz yX9_kindAt wsX9_kindAt rm_c_T_kindAt [.ref o, .int 0] [(o, .inr (9, [.ref a, .int 0, .int y1, .int y2, .int 0, .int 0, .int 0, .int 0, .int 0]))] (QI g (fun (r : Int32) (u : Unit) => r = 0) (fun (u : Unit) => [(o, .inr (9, [.ref a, .int 0, .int y1, .int y2, .int 0, .int 0, .int 0, .int 0, .int 0]))])) 0 0 := by
  refine mk_ctr (cc := cX9_kindAt) (maxL := 3) (ret := (some .int)) (by decide) rfl (Nat.le_of_ble_eq_true rfl) ?_
  intro p e s m args below meth c A Q hx hb hr hts hown hlocks hin hml hP hK hD hN hZ hA hS hQ ls hl
  have hl : lv_has ls 3 [(0, .ref o), (1, .int 0)] := hl
  obtain ⟨H, hH⟩ : ∃ H : Heap, H = s.heap := ⟨_, rfl⟩
  obtain ⟨locs, hlo⟩ : ∃ x : List Loc, x = [] := ⟨_, rfl⟩
  rw [← hH] at hP
  have hS : va_S A s.heap H locs := by rw [hH, hlo]; exact hS
  have hgo : W p l e rm_c_T_kindAt s m args below meth c H locs 0 0 Q (F0 m 0 ls []) := by
    clear hH hlo
    refine lv_aload_n hx hb dX9_kindAt_0 rfl (lv_at hl 0 rfl) ?_
    refine lv_iload_n hx hb dX9_kindAt_1 rfl (lv_at hl 1 rfl) ?_
    refine cj_i 0 0 (wr := []) (va_runV (As := [.int 0]) (rest := []) ⟨hx, hb, hml, hown, hts⟩ (c_T_byteAt l g cT H.size o a y1 y2) (cwV 1 hts gX9_kindAt_X9_byteAt rfl rfl rfl yd_X9_byteAt ⟨(Nat.le_of_ble_eq_true rfl), (Nat.le_of_ble_eq_true rfl)⟩) (preV (wc := [(o, .inr (9, [.ref a, .int 0, .int y1, .int y2, .int 0, .int 0, .int 0, .int 0, .int 0]))]) rfl hP hD hK hN hZ hS hA [0] rfl (by decide) (ci := 9) (q0 := 0) rfl rfl) rfl rfl hl.1 rfl (lv_room (Nat.le_of_ble_eq_true rfl)) dX9_kindAt_2 ⟨(Nat.le_of_ble_eq_true rfl), (Nat.le_of_ble_eq_true rfl)⟩) hP hD hS hA [0] [] rfl rfl (by decide) (by decide) (Nat.le_of_ble_eq_true rfl) (Nat.le_of_ble_eq_true rfl) (fun r_1 u H locs h_2 hP hD hS => ?_)
    have hP : va_P g vwCl [(o, .inr (9, [.ref a, .int 0, .int y1, .int y2, .int 0, .int 0, .int 0, .int 0, .int 0]))] H := hP
    have hD : va_D A [(o, .inr (9, [.ref a, .int 0, .int y1, .int y2, .int 0, .int 0, .int 0, .int 0, .int 0]))] := hD
    subst h_2
    refine lv_istore_n (lv' := [(2, .int (-1)), (0, .ref o), (1, .int 0)]) hx hb dX9_kindAt_5 rfl hl (by decide) rfl (fun ls hl => ?_)
    refine lv_iload_n hx hb dX9_kindAt_6 rfl (lv_at hl 0 rfl) ?_
    refine lv_bipush (v := 97) hx hb dX9_kindAt_7 (by decide) ?_
    refine icmp_lt_t hx hb 22 dX9_kindAt_9 (by decide) (by decide) ?_
    refine lv_iload_n hx hb dX9_kindAt_22 rfl (lv_at hl 0 rfl) ?_
    refine lv_bipush (v := 48) hx hb dX9_kindAt_23 (by decide) ?_
    refine icmp_lt_t hx hb 38 dX9_kindAt_25 (by decide) (by decide) ?_
    refine lv_iconst (v := 0) hx hb dX9_kindAt_38 (by decide) ?_
    exact rt_i hx hb hr hlocks hQ hP hD hS () [0] dX9_kindAt_39 rfl (Nat.le_of_ble_eq_true rfl) (Nat.le_of_ble_eq_true rfl) rfl (by decide) rfl
  rw [hH, hlo] at hgo
  exact hgo
theorem hi_X9_findToken_X9 : ∀ w ∈ wsX90, w ∈ wsX9_findToken := fun _ h => List.mem_cons_of_mem _ (List.mem_append_right _ h)
theorem yd_X9_kindAt : yX9_kindAt.cls = RX9 ∧ yX9_kindAt.cls ≠ "java/lang/invoke/MethodHandle" ∧ yX9_kindAt.cls ≠ "java/lang/invoke/VarHandle" ∧ (parseMethodDescriptor yX9_kindAt.desc).map (fun d => d.parameters.length) = some 1 := by decide +kernel
abbrev rm_c_T_findToken : Room := { frames := 2, cells := 0, slots := 0, locals := 43 }
set_option maxHeartbeats 4000000 in
set_option maxRecDepth 100000 in
theorem c_T_findToken (l : Launch) (g : va_G) (cT : Nat → ClassId) (sz : Nat) (o : Nat) (a : Nat)  : Ctr l g cT sz yX9_findToken wsX9_findToken rm_c_T_findToken [.ref o] [(o, .inr (9, [.ref a, .int 0, .int 0, .int 0, .int 0, .int 0, .int 0, .int 0, .int 0]))] (QV g (fun (u : Unit) => True) (fun (u : Unit) => [(o, .inr (9, [.ref a, .int 0, .int 0, .int 1, .int 0, .int 0, .int 0, .int 0, .int 0]))])) 0 0 := by
  refine mk_ctr (cc := cX9_findToken) (maxL := 2) (ret := none) (by decide) rfl (Nat.le_of_ble_eq_true rfl) ?_
  intro p e s m args below meth c A Q hx hb hr hts hown hlocks hin hml hP hK hD hN hZ hA hS hQ ls hl
  have hl : lv_has ls 2 [(0, .ref o)] := hl
  obtain ⟨H, hH⟩ : ∃ H : Heap, H = s.heap := ⟨_, rfl⟩
  obtain ⟨locs, hlo⟩ : ∃ x : List Loc, x = [] := ⟨_, rfl⟩
  rw [← hH] at hP
  have hS : va_S A s.heap H locs := by rw [hH, hlo]; exact hS
  have hgo : W p l e rm_c_T_findToken s m args below meth c H locs 0 0 Q (F0 m 0 ls []) := by
    clear hH hlo
    refine lv_aload_n hx hb dX9_findToken_0 rfl (lv_at hl 0 rfl) ?_
    refine lv_aload_n hx hb dX9_findToken_1 rfl (lv_at hl 0 rfl) ?_
    refine va_get (C := RX9) (T := TX9) (N := 9) (v := .int 0) hx hb hts hi_X9_findToken_X9 hown hK hP 0 rfl rfl 3 (by decide) (hts (.fieldLink RX9 21 "BothWays$Text" "end" "I") (by decide +kernel)) (fun _ h => h) rfl dX9_findToken_2 ?_
    refine va_put (C := RX9) (T := TX9) (N := 9) (v := .int 0) (ty := .int) hx hb hts hi_X9_findToken_X9 tyX9 tyX9_ok nmX9 hown hK hP hD hS 0 rfl rfl 2 (by decide) (hts (.fieldLink RX9 27 "BothWays$Text" "start" "I") (by decide +kernel)) (fun _ h => h) rfl (by decide +kernel) rfl rfl (Nat.le_of_ble_eq_true rfl) dX9_findToken_5 (fun H locs hP hD hS => ?_)
    have hP : va_P g vwCl [(o, .inr (9, [.ref a, .int 0, .int 0, .int 0, .int 0, .int 0, .int 0, .int 0, .int 0]))] H := hP
    have hD : va_D A [(o, .inr (9, [.ref a, .int 0, .int 0, .int 0, .int 0, .int 0, .int 0, .int 0, .int 0]))] := hD
    refine lv_aload_n hx hb dX9_findToken_8 rfl (lv_at hl 0 rfl) ?_
    refine va_get (C := RX9) (T := TX9) (N := 9) (v := .int 0) hx hb hts hi_X9_findToken_X9 hown hK hP 0 rfl rfl 2 (by decide) (hts (.fieldLink RX9 27 "BothWays$Text" "start" "I") (by decide +kernel)) (fun _ h => h) rfl dX9_findToken_9 ?_
    refine lv_aload_n hx hb dX9_findToken_12 rfl (lv_at hl 0 rfl) ?_
    refine va_get (C := RX9) (T := TX9) (N := 9) (v := .int 0) hx hb hts hi_X9_findToken_X9 hown hK hP 0 rfl rfl 1 (by decide) (hts (.fieldLink RX9 15 "BothWays$Text" "size" "I") (by decide +kernel)) (fun _ h => h) rfl dX9_findToken_13 ?_
    refine icmp_ge_t hx hb 46 dX9_findToken_16 (by decide) (by decide) ?_
    refine lv_aload_n hx hb dX9_findToken_46 rfl (lv_at hl 0 rfl) ?_
    refine lv_aload_n hx hb dX9_findToken_47 rfl (lv_at hl 0 rfl) ?_
    refine va_get (C := RX9) (T := TX9) (N := 9) (v := .int 0) hx hb hts hi_X9_findToken_X9 hown hK hP 0 rfl rfl 2 (by decide) (hts (.fieldLink RX9 27 "BothWays$Text" "start" "I") (by decide +kernel)) (fun _ h => h) rfl dX9_findToken_48 ?_
    refine va_put (C := RX9) (T := TX9) (N := 9) (v := .int 0) (ty := .int) hx hb hts hi_X9_findToken_X9 tyX9 tyX9_ok nmX9 hown hK hP hD hS 0 rfl rfl 3 (by decide) (hts (.fieldLink RX9 21 "BothWays$Text" "end" "I") (by decide +kernel)) (fun _ h => h) rfl (by decide +kernel) rfl rfl (Nat.le_of_ble_eq_true rfl) dX9_findToken_51 (fun H locs hP hD hS => ?_)
    have hP : va_P g vwCl [(o, .inr (9, [.ref a, .int 0, .int 0, .int 0, .int 0, .int 0, .int 0, .int 0, .int 0]))] H := hP
    have hD : va_D A [(o, .inr (9, [.ref a, .int 0, .int 0, .int 0, .int 0, .int 0, .int 0, .int 0, .int 0]))] := hD
    refine lv_aload_n hx hb dX9_findToken_54 rfl (lv_at hl 0 rfl) ?_
    refine lv_aload_n hx hb dX9_findToken_55 rfl (lv_at hl 0 rfl) ?_
    refine va_get (C := RX9) (T := TX9) (N := 9) (v := .int 0) hx hb hts hi_X9_findToken_X9 hown hK hP 0 rfl rfl 2 (by decide) (hts (.fieldLink RX9 27 "BothWays$Text" "start" "I") (by decide +kernel)) (fun _ h => h) rfl dX9_findToken_56 ?_
    refine cj_i 0 0 (wr := []) (va_runV (As := [.int 0]) (rest := []) ⟨hx, hb, hml, hown, hts⟩ (c_T_kindAt l g cT H.size o a 0 0) (cwV 1 hts gX9_findToken_X9_kindAt rfl rfl rfl yd_X9_kindAt ⟨(Nat.le_of_ble_eq_true rfl), (Nat.le_of_ble_eq_true rfl)⟩) (preV (wc := [(o, .inr (9, [.ref a, .int 0, .int 0, .int 0, .int 0, .int 0, .int 0, .int 0, .int 0]))]) rfl hP hD hK hN hZ hS hA [0] rfl (by decide) (ci := 9) (q0 := 0) rfl rfl) rfl rfl hl.1 rfl (lv_room (Nat.le_of_ble_eq_true rfl)) dX9_findToken_59 ⟨(Nat.le_of_ble_eq_true rfl), (Nat.le_of_ble_eq_true rfl)⟩) hP hD hS hA [0] [] rfl rfl (by decide) (by decide) (Nat.le_of_ble_eq_true rfl) (Nat.le_of_ble_eq_true rfl) (fun r_1 u H locs h_2 hP hD hS => ?_)
    have hP : va_P g vwCl [(o, .inr (9, [.ref a, .int 0, .int 0, .int 0, .int 0, .int 0, .int 0, .int 0, .int 0]))] H := hP
    have hD : va_D A [(o, .inr (9, [.ref a, .int 0, .int 0, .int 0, .int 0, .int 0, .int 0, .int 0, .int 0]))] := hD
    subst h_2
    refine lv_istore_n (lv' := [(1, .int 0), (0, .ref o)]) hx hb dX9_findToken_62 rfl hl (by decide) rfl (fun ls hl => ?_)
    refine lv_aload_n hx hb dX9_findToken_63 rfl (lv_at hl 1 rfl) ?_
    refine lv_dup hx hb dX9_findToken_64 rfl ?_
    refine va_get (C := RX9) (T := TX9) (N := 9) (v := .int 0) hx hb hts hi_X9_findToken_X9 hown hK hP 0 rfl rfl 3 (by decide) (hts (.fieldLink RX9 21 "BothWays$Text" "end" "I") (by decide +kernel)) (fun _ h => h) rfl dX9_findToken_65 ?_
    refine lv_iconst (v := 1) hx hb dX9_findToken_68 (by decide) ?_
    refine w_iadd (v := 1) hx hb dX9_findToken_69 (by decide) ?_
    refine va_put (C := RX9) (T := TX9) (N := 9) (v := .int 1) (ty := .int) hx hb hts hi_X9_findToken_X9 tyX9 tyX9_ok nmX9 hown hK hP hD hS 0 rfl rfl 3 (by decide) (hts (.fieldLink RX9 21 "BothWays$Text" "end" "I") (by decide +kernel)) (fun _ h => h) rfl (by decide +kernel) rfl rfl (Nat.le_of_ble_eq_true rfl) dX9_findToken_70 (fun H locs hP hD hS => ?_)
    have hP : va_P g vwCl [(o, .inr (9, [.ref a, .int 0, .int 0, .int 1, .int 0, .int 0, .int 0, .int 0, .int 0]))] H := hP
    have hD : va_D A [(o, .inr (9, [.ref a, .int 0, .int 0, .int 1, .int 0, .int 0, .int 0, .int 0, .int 0]))] := hD
    refine lv_aload_n hx hb dX9_findToken_73 rfl (lv_at hl 1 rfl) ?_
    refine va_get (C := RX9) (T := TX9) (N := 9) (v := .int 1) hx hb hts hi_X9_findToken_X9 hown hK hP 0 rfl rfl 3 (by decide) (hts (.fieldLink RX9 21 "BothWays$Text" "end" "I") (by decide +kernel)) (fun _ h => h) rfl dX9_findToken_74 ?_
    refine lv_aload_n hx hb dX9_findToken_77 rfl (lv_at hl 1 rfl) ?_
    refine va_get (C := RX9) (T := TX9) (N := 9) (v := .int 0) hx hb hts hi_X9_findToken_X9 hown hK hP 0 rfl rfl 1 (by decide) (hts (.fieldLink RX9 15 "BothWays$Text" "size" "I") (by decide +kernel)) (fun _ h => h) rfl dX9_findToken_78 ?_
    refine icmp_ge_t hx hb 100 dX9_findToken_81 (by decide) (by decide) ?_
    exact rt_v hx hb hr hlocks hQ hP hD hS () [0] dX9_findToken_100 (Nat.le_of_ble_eq_true rfl) (Nat.le_of_ble_eq_true rfl) rfl (by decide) trivial
  rw [hH, hlo] at hgo
  exact hgo
abbrev rm_c_T_slotAtEnd : Room := { frames := 0, cells := 0, slots := 0, locals := 0 }
set_option maxHeartbeats 4000000 in
set_option maxRecDepth 100000 in
theorem c_T_slotAtEnd (l : Launch) (g : va_G) (cT : Nat → ClassId) (sz : Nat)   : Ctr l g cT sz yX9_slotAtEnd wsX9_slotAtEnd rm_c_T_slotAtEnd [.int 0] [] (QI g (fun (r : Int32) (u : Unit) => r = (-1)) (fun (u : Unit) => [])) 0 0 := by
  refine mk_ctr (cc := cX9_slotAtEnd) (maxL := 1) (ret := (some .int)) (by decide) rfl (Nat.le_of_ble_eq_true rfl) ?_
  intro p e s m args below meth c A Q hx hb hr hts hown hlocks hin hml hP hK hD hN hZ hA hS hQ ls hl
  have hl : lv_has ls 1 [(0, .int 0)] := hl
  obtain ⟨H, hH⟩ : ∃ H : Heap, H = s.heap := ⟨_, rfl⟩
  obtain ⟨locs, hlo⟩ : ∃ x : List Loc, x = [] := ⟨_, rfl⟩
  rw [← hH] at hP
  have hS : va_S A s.heap H locs := by rw [hH, hlo]; exact hS
  have hgo : W p l e rm_c_T_slotAtEnd s m args below meth c H locs 0 0 Q (F0 m 0 ls []) := by
    clear hH hlo
    refine lv_iload_n hx hb dX9_slotAtEnd_0 rfl (lv_at hl 0 rfl) ?_
    refine lv_iconst (v := 5) hx hb dX9_slotAtEnd_1 (by decide) ?_
    refine icmp_eq_f hx hb dX9_slotAtEnd_2 11 (by decide) (by decide) ?_
    refine lv_iload_n hx hb dX9_slotAtEnd_5 rfl (lv_at hl 0 rfl) ?_
    refine lv_bipush (v := 7) hx hb dX9_slotAtEnd_6 (by decide) ?_
    refine icmp_ne_t hx hb 16 dX9_slotAtEnd_8 (by decide) (by decide) ?_
    refine lv_iconst (v := (-1)) hx hb dX9_slotAtEnd_16 (by decide) ?_
    exact rt_i hx hb hr hlocks hQ hP hD hS () [] dX9_slotAtEnd_17 rfl (Nat.le_of_ble_eq_true rfl) (Nat.le_of_ble_eq_true rfl) rfl (by decide) rfl
  rw [hH, hlo] at hgo
  exact hgo
theorem hi_X9_parse_X9 : ∀ w ∈ wsX90, w ∈ wsX9_parse := fun _ h => List.mem_cons_of_mem _ (List.mem_append_left _ (List.mem_append_right _ h))
theorem yd_X9_findToken : yX9_findToken.cls = RX9 ∧ yX9_findToken.cls ≠ "java/lang/invoke/MethodHandle" ∧ yX9_findToken.cls ≠ "java/lang/invoke/VarHandle" ∧ (parseMethodDescriptor yX9_findToken.desc).map (fun d => d.parameters.length) = some 0 := by decide +kernel
theorem yd_X9_slotAtEnd : yX9_slotAtEnd.cls = RX9 ∧ yX9_slotAtEnd.cls ≠ "java/lang/invoke/MethodHandle" ∧ yX9_slotAtEnd.cls ≠ "java/lang/invoke/VarHandle" ∧ (parseMethodDescriptor yX9_slotAtEnd.desc).map (fun d => d.parameters.length) = some 1 := by decide +kernel
abbrev rm_c_T_parse : Room := { frames := 3, cells := 0, slots := 0, locals := 64 }
set_option maxHeartbeats 4000000 in
set_option maxRecDepth 100000 in
theorem c_T_parse (l : Launch) (g : va_G) (cT : Nat → ClassId) (sz : Nat) (o : Nat) (a : Nat) (rr : Nat)  : Ctr l g cT sz yX9_parse wsX9_parse rm_c_T_parse [.ref o, .ref rr, .int 0] [(o, .inr (9, [.ref a, .int 0, .int 0, .int 0, .int 0, .int 0, .int 0, .int 0, .int 0]))] (QI g (fun (r : Int32) (u : Unit) => r = 0) (fun (u : Unit) => [])) 0 0 := by
  refine mk_ctr (cc := cX9_parse) (maxL := 6) (ret := (some .int)) (by decide) rfl (Nat.le_of_ble_eq_true rfl) ?_
  intro p e s m args below meth c A Q hx hb hr hts hown hlocks hin hml hP hK hD hN hZ hA hS hQ ls hl
  have hl : lv_has ls 6 [(0, .ref o), (1, .ref rr), (2, .int 0)] := hl
  obtain ⟨H, hH⟩ : ∃ H : Heap, H = s.heap := ⟨_, rfl⟩
  obtain ⟨locs, hlo⟩ : ∃ x : List Loc, x = [] := ⟨_, rfl⟩
  rw [← hH] at hP
  have hS : va_S A s.heap H locs := by rw [hH, hlo]; exact hS
  have hgo : W p l e rm_c_T_parse s m args below meth c H locs 0 0 Q (F0 m 0 ls []) := by
    clear hH hlo
    refine lv_iconst (v := 0) hx hb dX9_parse_0 (by decide) ?_
    refine lv_istore_n (lv' := [(3, .int 0), (0, .ref o), (1, .ref rr), (2, .int 0)]) hx hb dX9_parse_1 rfl hl (by decide) rfl (fun ls hl => ?_)
    refine lv_aload_n hx hb dX9_parse_2 rfl (lv_at hl 1 rfl) ?_
    refine lv_iconst (v := 0) hx hb dX9_parse_3 (by decide) ?_
    refine va_put (C := RX9) (T := TX9) (N := 9) (v := .int 0) (ty := .int) hx hb hts hi_X9_parse_X9 tyX9 tyX9_ok nmX9 hown hK hP hD hS 0 rfl rfl 3 (by decide) (hts (.fieldLink RX9 21 "BothWays$Text" "end" "I") (by decide +kernel)) (fun _ h => h) rfl (by decide +kernel) rfl rfl (Nat.le_of_ble_eq_true rfl) dX9_parse_4 (fun H locs hP hD hS => ?_)
    have hP : va_P g vwCl [(o, .inr (9, [.ref a, .int 0, .int 0, .int 0, .int 0, .int 0, .int 0, .int 0, .int 0]))] H := hP
    have hD : va_D A [(o, .inr (9, [.ref a, .int 0, .int 0, .int 0, .int 0, .int 0, .int 0, .int 0, .int 0]))] := hD
    refine lv_iconst (v := 0) hx hb dX9_parse_7 (by decide) ?_
    refine lv_istore (lv' := [(4, .int 0), (3, .int 0), (0, .ref o), (1, .ref rr), (2, .int 0)]) hx hb dX9_parse_8 hl (by decide) rfl (fun ls hl => ?_)
    refine lv_iload hx hb dX9_parse_10 (lv_at hl 0 rfl) ?_
    refine lv_sipush (v := 160) hx hb dX9_parse_12 (by decide) ?_
    refine icmp_gt_f hx hb dX9_parse_15 120 (by decide) (by decide) ?_
    refine lv_aload_n hx hb dX9_parse_18 rfl (lv_at hl 2 rfl) ?_
    refine cj_v 0 0 (wr := []) (va_runV (As := []) (rest := []) ⟨hx, hb, hml, hown, hts⟩ (c_T_findToken l g cT H.size o a) (cwV 0 hts gX9_parse_X9_findToken rfl rfl rfl yd_X9_findToken ⟨(Nat.le_of_ble_eq_true rfl), (Nat.le_of_ble_eq_true rfl)⟩) (preV (wc := [(o, .inr (9, [.ref a, .int 0, .int 0, .int 0, .int 0, .int 0, .int 0, .int 0, .int 0]))]) rfl hP hD hK hN hZ hS hA [0] rfl (by decide) (ci := 9) (q0 := 0) rfl rfl) rfl rfl hl.1 rfl (lv_room (Nat.le_of_ble_eq_true rfl)) dX9_parse_19 ⟨(Nat.le_of_ble_eq_true rfl), (Nat.le_of_ble_eq_true rfl)⟩) hP hD hS hA [0] [] rfl rfl (by decide) (by decide) (Nat.le_of_ble_eq_true rfl) (Nat.le_of_ble_eq_true rfl) (fun u H locs h_2 hP hD hS => ?_)
    have hP : va_P g vwCl [(o, .inr (9, [.ref a, .int 0, .int 0, .int 1, .int 0, .int 0, .int 0, .int 0, .int 0]))] H := hP
    have hD : va_D A [(o, .inr (9, [.ref a, .int 0, .int 0, .int 1, .int 0, .int 0, .int 0, .int 0, .int 0]))] := hD
    refine lv_aload_n hx hb dX9_parse_22 rfl (lv_at hl 2 rfl) ?_
    refine va_get (C := RX9) (T := TX9) (N := 9) (v := .int 0) hx hb hts hi_X9_parse_X9 hown hK hP 0 rfl rfl 2 (by decide) (hts (.fieldLink RX9 27 "BothWays$Text" "start" "I") (by decide +kernel)) (fun _ h => h) rfl dX9_parse_23 ?_
    refine lv_aload_n hx hb dX9_parse_26 rfl (lv_at hl 2 rfl) ?_
    refine va_get (C := RX9) (T := TX9) (N := 9) (v := .int 0) hx hb hts hi_X9_parse_X9 hown hK hP 0 rfl rfl 1 (by decide) (hts (.fieldLink RX9 15 "BothWays$Text" "size" "I") (by decide +kernel)) (fun _ h => h) rfl dX9_parse_27 ?_
    refine icmp_ge_t hx hb 42 dX9_parse_30 (by decide) (by decide) ?_
    refine lv_iload_n hx hb dX9_parse_42 rfl (lv_at hl 1 rfl) ?_
    refine cp_i (va_runS (As := [.int 0]) (rest := []) ⟨hx, hb, hml, hown, hts⟩ (c_T_slotAtEnd l g cT H.size) (va_cwS 1 hts gX9_parse_X9_slotAtEnd rfl rfl rfl yd_X9_slotAtEnd.2 ⟨(Nat.le_of_ble_eq_true rfl), (Nat.le_of_ble_eq_true rfl)⟩) (preS (ws := []) (wc := []) rfl (fun _ _ h => by simp at h) (va_D_nil (A := A)) hK hN hZ hS hA [] rfl rfl) rfl rfl hl.1 rfl (lv_room (Nat.le_of_ble_eq_true rfl)) dX9_parse_43 ⟨(Nat.le_of_ble_eq_true rfl), (Nat.le_of_ble_eq_true rfl)⟩) hP hS hA (fun r_3 u H locs h_4 hP hS => ?_)
    subst h_4
    refine lv_istore (lv' := [(5, .int (-1)), (4, .int 0), (3, .int 0), (0, .ref o), (1, .ref rr), (2, .int 0)]) hx hb dX9_parse_46 hl (by decide) rfl (fun ls hl => ?_)
    refine lv_iload hx hb dX9_parse_48 (lv_at hl 0 rfl) ?_
    refine lv_iconst (v := (-1)) hx hb dX9_parse_50 (by decide) ?_
    refine icmp_ne_f hx hb dX9_parse_51 59 (by decide) (by decide) ?_
    refine lv_aload_n hx hb dX9_parse_54 rfl (lv_at hl 3 rfl) ?_
    refine va_get (C := RX9) (T := TX9) (N := 9) (v := .int 0) hx hb hts hi_X9_parse_X9 hown hK hP 0 rfl rfl 2 (by decide) (hts (.fieldLink RX9 27 "BothWays$Text" "start" "I") (by decide +kernel)) (fun _ h => h) rfl dX9_parse_55 ?_
    exact rt_i hx hb hr hlocks hQ hP hD hS () [] dX9_parse_58 rfl (Nat.le_of_ble_eq_true rfl) (Nat.le_of_ble_eq_true rfl) rfl (by decide) rfl
  rw [hH, hlo] at hgo
  exact hgo
theorem hi_X10_init_X10 : ∀ w ∈ wsX100, w ∈ wsX10_init := fun _ h => List.mem_cons_of_mem _ (List.mem_append_right _ h)
abbrev rm_c_W_init : Room := { frames := 1, cells := 2, slots := 135, locals := 20 }
set_option maxHeartbeats 4000000 in
set_option maxRecDepth 100000 in
theorem c_W_init (l : Launch) (g : va_G) (cT : Nat → ClassId) (sz : Nat) (o : Nat)  : Ctr l g cT sz yX10_init wsX10_init rm_c_W_init [.ref o] [(o, .inr (10, [.null, .null, .int 0, .int 0, .int 0, .int 0, .int 0]))] (QV g (fun (u : Nat × Nat) => True) (fun (u : Nat × Nat) => [(o, .inr (10, [.ref u.1, .ref u.2, .int 0, .int 0, .int 0, .int 0, .int 0])), (u.1, .inl (cT 1, 5, .inr (.inl (fun _ => 0)))), (u.2, .inl (cT 0, 130, .inl (fun _ => 0)))])) 2 135 := by
  refine mk_ctr (cc := cX10_init) (maxL := 1) (ret := none) (by decide) rfl (Nat.le_of_ble_eq_true rfl) ?_
  intro p e s m args below meth c A Q hx hb hr hts hown hlocks hin hml hP hK hD hN hZ hA hS hQ ls hl
  have hl : lv_has ls 1 [(0, .ref o)] := hl
  obtain ⟨H, hH⟩ : ∃ H : Heap, H = s.heap := ⟨_, rfl⟩
  obtain ⟨locs, hlo⟩ : ∃ x : List Loc, x = [] := ⟨_, rfl⟩
  rw [← hH] at hP
  have hS : va_S A s.heap H locs := by rw [hH, hlo]; exact hS
  have hgo : W p l e rm_c_W_init s m args below meth c H locs 0 0 Q (F0 m 0 ls []) := by
    clear hH hlo
    refine lv_aload_n hx hb dX10_init_0 rfl (lv_at hl 0 rfl) ?_
    refine W.objInit hx hb hown (hts (.methodLink RX10 3 objectInit) (by decide +kernel)) (hts (.instanceMethod objectInit) (by decide +kernel)) (hts _ (List.mem_cons_of_mem _ (List.mem_append_left _ (List.mem_of_getElem? (i := 2) rfl)))) rfl (by rw [hml]; exact hl.1) rfl dX10_init_1 (Nat.le_of_ble_eq_true rfl) (Nat.le_of_ble_eq_true rfl) ?_
    refine W.eq (g2 := F0 m 4 ls []) rfl ?_
    refine lv_aload_n hx hb dX10_init_4 rfl (lv_at hl 0 rfl) ?_
    refine lv_iconst (v := 5) hx hb dX10_init_5 (by decide) ?_
    refine w_newJ hx hb (hts (.arrayClass .long) (by decide +kernel)) hK hP hD hS hA 5 1 5 dX10_init_6 (by decide) (by decide) (by decide) (Nat.le_of_ble_eq_true rfl) (Nat.le_of_ble_eq_true rfl) (Nat.le_of_ble_eq_true rfl) (Nat.le_of_ble_eq_true rfl) (fun q_1 H hP hD hS => ?_)
    have hP : va_P g vwCl [(o, .inr (10, [.null, .null, .int 0, .int 0, .int 0, .int 0, .int 0])), (q_1, .inl (cT 1, 5, .inr (.inl (fun _ => 0))))] H := hP
    have hD : va_D A [(o, .inr (10, [.null, .null, .int 0, .int 0, .int 0, .int 0, .int 0])), (q_1, .inl (cT 1, 5, .inr (.inl (fun _ => 0))))] := hD
    refine va_putF (C := RX10) (T := TX10) (N := 7) (v := .ref q_1) (ty := .array .long) hx hb hts hi_X10_init_X10 tyX10 tyX10_ok nmX10 hown hK hP hD hS 0 rfl rfl 0 (by decide) (hts (.fieldLink RX10 9 "BothWays$Walk" "seen" "[J") (by decide +kernel)) (fun _ h => h) rfl hin rfl (by decide +kernel) rfl rfl (Nat.le_of_ble_eq_true rfl) dX10_init_8 (fun H locs hP hD hS => ?_)
    have hP : va_P g vwCl [(o, .inr (10, [.ref q_1, .null, .int 0, .int 0, .int 0, .int 0, .int 0])), (q_1, .inl (cT 1, 5, .inr (.inl (fun _ => 0))))] H := hP
    have hD : va_D A [(o, .inr (10, [.ref q_1, .null, .int 0, .int 0, .int 0, .int 0, .int 0])), (q_1, .inl (cT 1, 5, .inr (.inl (fun _ => 0))))] := hD
    refine lv_aload_n hx hb dX10_init_11 rfl (lv_at hl 0 rfl) ?_
    refine lv_sipush (v := 130) hx hb dX10_init_12 (by decide) ?_
    refine w_newI hx hb (hts (.arrayClass .int) (by decide +kernel)) hK hP hD hS hA 130 2 135 dX10_init_15 (by decide) (by decide) (by decide) (Nat.le_of_ble_eq_true rfl) (Nat.le_of_ble_eq_true rfl) (Nat.le_of_ble_eq_true rfl) (Nat.le_of_ble_eq_true rfl) (fun q_2 H hP hD hS => ?_)
    have hP : va_P g vwCl [(o, .inr (10, [.ref q_1, .null, .int 0, .int 0, .int 0, .int 0, .int 0])), (q_1, .inl (cT 1, 5, .inr (.inl (fun _ => 0)))), (q_2, .inl (cT 0, 130, .inl (fun _ => 0)))] H := hP
    have hD : va_D A [(o, .inr (10, [.ref q_1, .null, .int 0, .int 0, .int 0, .int 0, .int 0])), (q_1, .inl (cT 1, 5, .inr (.inl (fun _ => 0)))), (q_2, .inl (cT 0, 130, .inl (fun _ => 0)))] := hD
    refine va_putF (C := RX10) (T := TX10) (N := 7) (v := .ref q_2) (ty := .array .int) hx hb hts hi_X10_init_X10 tyX10 tyX10_ok nmX10 hown hK hP hD hS 0 rfl rfl 1 (by decide) (hts (.fieldLink RX10 15 "BothWays$Walk" "said" "[I") (by decide +kernel)) (fun _ h => h) rfl hin rfl (by decide +kernel) rfl rfl (Nat.le_of_ble_eq_true rfl) dX10_init_17 (fun H locs hP hD hS => ?_)
    have hP : va_P g vwCl [(o, .inr (10, [.ref q_1, .ref q_2, .int 0, .int 0, .int 0, .int 0, .int 0])), (q_1, .inl (cT 1, 5, .inr (.inl (fun _ => 0)))), (q_2, .inl (cT 0, 130, .inl (fun _ => 0)))] H := hP
    have hD : va_D A [(o, .inr (10, [.ref q_1, .ref q_2, .int 0, .int 0, .int 0, .int 0, .int 0])), (q_1, .inl (cT 1, 5, .inr (.inl (fun _ => 0)))), (q_2, .inl (cT 0, 130, .inl (fun _ => 0)))] := hD
    exact rt_v hx hb hr hlocks hQ hP hD hS (q_1, q_2) [0, 1, 2] dX10_init_20 (Nat.le_of_ble_eq_true rfl) (Nat.le_of_ble_eq_true rfl) rfl (by decide) trivial
  rw [hH, hlo] at hgo
  exact hgo
theorem hi_X10_wasHere_X10 : ∀ w ∈ wsX100, w ∈ wsX10_wasHere := fun _ h => List.mem_cons_of_mem _ (List.mem_append_right _ h)
abbrev rm_c_W_wasHere : Room := { frames := 0, cells := 0, slots := 0, locals := 0 }
set_option maxHeartbeats 4000000 in
set_option maxRecDepth 100000 in
theorem c_W_wasHere (l : Launch) (g : va_G) (cT : Nat → ClassId) (sz : Nat) (o : Nat) (sa : Nat) (sb : Nat) (ze : Int32) (zm : Int32)  : Ctr l g cT sz yX10_wasHere wsX10_wasHere rm_c_W_wasHere [.ref o] [(o, .inr (10, [.ref sa, .ref sb, .int 0, .int ze, .int zm, .int 0, .int 0])), (sa, .inl (cT 1, 5, .inr (.inl (fun _ => 0))))] (QI g (fun (r : Int32) (u : Unit) => r = 0) (fun (u : Unit) => [(o, .inr (10, [.ref sa, .ref sb, .int 0, .int ze, .int zm, .int 0, .int 0])), (sa, .inl (cT 1, 5, .inr (.inl (vp_updL (fun _ => 0) 0 1))))])) 0 0 := by
  refine mk_ctr (cc := cX10_wasHere) (maxL := 2) (ret := (some .boolean)) (by decide) rfl (Nat.le_of_ble_eq_true rfl) ?_
  intro p e s m args below meth c A Q hx hb hr hts hown hlocks hin hml hP hK hD hN hZ hA hS hQ ls hl
  have hl : lv_has ls 2 [(0, .ref o)] := hl
  obtain ⟨H, hH⟩ : ∃ H : Heap, H = s.heap := ⟨_, rfl⟩
  obtain ⟨locs, hlo⟩ : ∃ x : List Loc, x = [] := ⟨_, rfl⟩
  rw [← hH] at hP
  have hS : va_S A s.heap H locs := by rw [hH, hlo]; exact hS
  have hgo : W p l e rm_c_W_wasHere s m args below meth c H locs 0 0 Q (F0 m 0 ls []) := by
    clear hH hlo
    refine lv_aload_n hx hb dX10_wasHere_0 rfl (lv_at hl 0 rfl) ?_
    refine va_get (C := RX10) (T := TX10) (N := 7) (v := .int 0) hx hb hts hi_X10_wasHere_X10 hown hK hP 0 rfl rfl 6 (by decide) (hts (.fieldLink RX10 32 "BothWays$Walk" "state" "I") (by decide +kernel)) (fun _ h => h) rfl dX10_wasHere_1 ?_
    refine if_lt_f hx hb dX10_wasHere_4 15 (by decide) (by decide) ?_
    refine lv_aload_n hx hb dX10_wasHere_7 rfl (lv_at hl 0 rfl) ?_
    refine va_get (C := RX10) (T := TX10) (N := 7) (v := .int 0) hx hb hts hi_X10_wasHere_X10 hown hK hP 0 rfl rfl 6 (by decide) (hts (.fieldLink RX10 32 "BothWays$Walk" "state" "I") (by decide +kernel)) (fun _ h => h) rfl dX10_wasHere_8 ?_
    refine lv_iconst (v := 5) hx hb dX10_wasHere_11 (by decide) ?_
    refine icmp_lt_t hx hb 17 dX10_wasHere_12 (by decide) (by decide) ?_
    refine lv_aload_n hx hb dX10_wasHere_17 rfl (lv_at hl 0 rfl) ?_
    refine va_get (C := RX10) (T := TX10) (N := 7) (v := .ref sa) hx hb hts hi_X10_wasHere_X10 hown hK hP 0 rfl rfl 0 (by decide) (hts (.fieldLink RX10 9 "BothWays$Walk" "seen" "[J") (by decide +kernel)) (fun _ h => h) rfl dX10_wasHere_18 ?_
    refine lv_aload_n hx hb dX10_wasHere_21 rfl (lv_at hl 0 rfl) ?_
    refine va_get (C := RX10) (T := TX10) (N := 7) (v := .int 0) hx hb hts hi_X10_wasHere_X10 hown hK hP 0 rfl rfl 6 (by decide) (hts (.fieldLink RX10 32 "BothWays$Walk" "state" "I") (by decide +kernel)) (fun _ h => h) rfl dX10_wasHere_22 ?_
    refine w_lald (v := 0) hx hb hK hP 1 rfl dX10_wasHere_25 (inC (by decide)) rfl ?_
    refine lv_aload_n hx hb dX10_wasHere_26 rfl (lv_at hl 0 rfl) ?_
    refine va_get (C := RX10) (T := TX10) (N := 7) (v := .int 0) hx hb hts hi_X10_wasHere_X10 hown hK hP 0 rfl rfl 5 (by decide) (hts (.fieldLink RX10 29 "BothWays$Walk" "place" "I") (by decide +kernel)) (fun _ h => h) rfl dX10_wasHere_27 ?_
    refine lv_lshr (v := 0) hx hb dX10_wasHere_30 (by decide) ?_
    refine lv_lconst (v := 1) hx hb dX10_wasHere_31 (by decide) ?_
    refine w_land (v := 0) hx hb dX10_wasHere_32 (by decide) ?_
    refine lv_lconst (v := 1) hx hb dX10_wasHere_33 (by decide) ?_
    refine w_lcmp (v := (-1)) hx hb dX10_wasHere_34 (by decide) ?_
    refine if_ne_t hx hb 42 dX10_wasHere_35 (by decide) (by decide) ?_
    refine lv_iconst (v := 0) hx hb dX10_wasHere_42 (by decide) ?_
    refine lv_istore_n (lv' := [(1, .int 0), (0, .ref o)]) hx hb dX10_wasHere_43 rfl hl (by decide) rfl (fun ls hl => ?_)
    refine lv_aload_n hx hb dX10_wasHere_44 rfl (lv_at hl 1 rfl) ?_
    refine va_get (C := RX10) (T := TX10) (N := 7) (v := .ref sa) hx hb hts hi_X10_wasHere_X10 hown hK hP 0 rfl rfl 0 (by decide) (hts (.fieldLink RX10 9 "BothWays$Walk" "seen" "[J") (by decide +kernel)) (fun _ h => h) rfl dX10_wasHere_45 ?_
    refine lv_aload_n hx hb dX10_wasHere_48 rfl (lv_at hl 1 rfl) ?_
    refine va_get (C := RX10) (T := TX10) (N := 7) (v := .int 0) hx hb hts hi_X10_wasHere_X10 hown hK hP 0 rfl rfl 6 (by decide) (hts (.fieldLink RX10 32 "BothWays$Walk" "state" "I") (by decide +kernel)) (fun _ h => h) rfl dX10_wasHere_49 ?_
    refine lv_dup2_11 hx hb dX10_wasHere_52 rfl rfl ?_
    refine w_lald (v := 0) hx hb hK hP 1 rfl dX10_wasHere_53 (inC (by decide)) rfl ?_
    refine lv_lconst (v := 1) hx hb dX10_wasHere_54 (by decide) ?_
    refine lv_aload_n hx hb dX10_wasHere_55 rfl (lv_at hl 1 rfl) ?_
    refine va_get (C := RX10) (T := TX10) (N := 7) (v := .int 0) hx hb hts hi_X10_wasHere_X10 hown hK hP 0 rfl rfl 5 (by decide) (hts (.fieldLink RX10 29 "BothWays$Walk" "place" "I") (by decide +kernel)) (fun _ h => h) rfl dX10_wasHere_56 ?_
    refine lv_lshl (v := 1) hx hb dX10_wasHere_59 (by decide) ?_
    refine w_lor (v := 1) hx hb dX10_wasHere_60 (by decide) ?_
    refine w_last (f' := (vp_updL (fun _ => 0) 0 1)) hx hb hK hP hD hS 1 rfl dX10_wasHere_61 (inC (by decide)) rfl (fun H locs hP hD hS => ?_)
    have hP : va_P g vwCl [(o, .inr (10, [.ref sa, .ref sb, .int 0, .int ze, .int zm, .int 0, .int 0])), (sa, .inl (cT 1, 5, .inr (.inl (vp_updL (fun _ => 0) 0 1))))] H := hP
    have hD : va_D A [(o, .inr (10, [.ref sa, .ref sb, .int 0, .int ze, .int zm, .int 0, .int 0])), (sa, .inl (cT 1, 5, .inr (.inl (vp_updL (fun _ => 0) 0 1))))] := hD
    refine lv_iload_n hx hb dX10_wasHere_62 rfl (lv_at hl 0 rfl) ?_
    exact rt_i hx hb hr hlocks hQ hP hD hS () [0, 1] dX10_wasHere_63 rfl (Nat.le_of_ble_eq_true rfl) (Nat.le_of_ble_eq_true rfl) rfl (by decide) rfl
  rw [hH, hlo] at hgo
  exact hgo
theorem hi_X10_signAt_X10 : ∀ w ∈ wsX100, w ∈ wsX10_signAt := fun _ h => List.mem_cons_of_mem _ (List.mem_append_right _ h)
abbrev rm_c_W_signAt : Room := { frames := 0, cells := 0, slots := 0, locals := 0 }
set_option maxHeartbeats 4000000 in
set_option maxRecDepth 100000 in
theorem c_W_signAt (l : Launch) (g : va_G) (cT : Nat → ClassId) (sz : Nat) (o : Nat) (sa : Nat) (sb : Nat) (ze : Int32) (zm : Int32) (ra : Nat) (n : Int32)  : Ctr l g cT sz yX10_signAt wsX10_signAt rm_c_W_signAt [.ref o, .ref ra, .int n] [(o, .inr (10, [.ref sa, .ref sb, .int 0, .int ze, .int zm, .int 0, .int 0]))] (QI g (fun (r : Int32) (u : Unit) => r = 3) (fun (u : Unit) => [(o, .inr (10, [.ref sa, .ref sb, .int 0, .int ze, .int zm, .int 0, .int 0]))])) 0 0 := by
  refine mk_ctr (cc := cX10_signAt) (maxL := 3) (ret := (some .int)) (by decide) rfl (Nat.le_of_ble_eq_true rfl) ?_
  intro p e s m args below meth c A Q hx hb hr hts hown hlocks hin hml hP hK hD hN hZ hA hS hQ ls hl
  have hl : lv_has ls 3 [(0, .ref o), (1, .ref ra), (2, .int n)] := hl
  obtain ⟨H, hH⟩ : ∃ H : Heap, H = s.heap := ⟨_, rfl⟩
  obtain ⟨locs, hlo⟩ : ∃ x : List Loc, x = [] := ⟨_, rfl⟩
  rw [← hH] at hP
  have hS : va_S A s.heap H locs := by rw [hH, hlo]; exact hS
  have hgo : W p l e rm_c_W_signAt s m args below meth c H locs 0 0 Q (F0 m 0 ls []) := by
    clear hH hlo
    refine lv_aload_n hx hb dX10_signAt_0 rfl (lv_at hl 0 rfl) ?_
    refine va_get (C := RX10) (T := TX10) (N := 7) (v := .int 0) hx hb hts hi_X10_signAt_X10 hown hK hP 0 rfl rfl 5 (by decide) (hts (.fieldLink RX10 29 "BothWays$Walk" "place" "I") (by decide +kernel)) (fun _ h => h) rfl dX10_signAt_1 ?_
    refine if_le_t hx hb 33 dX10_signAt_4 (by decide) (by decide) ?_
    refine lv_aload_n hx hb dX10_signAt_33 rfl (lv_at hl 0 rfl) ?_
    refine va_get (C := RX10) (T := TX10) (N := 7) (v := .int 0) hx hb hts hi_X10_signAt_X10 hown hK hP 0 rfl rfl 5 (by decide) (hts (.fieldLink RX10 29 "BothWays$Walk" "place" "I") (by decide +kernel)) (fun _ h => h) rfl dX10_signAt_34 ?_
    refine if_gt_f hx hb dX10_signAt_37 44 (by decide) (by decide) ?_
    refine lv_iconst (v := 3) hx hb dX10_signAt_40 (by decide) ?_
    refine lv_goto (tgt := 45) hx hb dX10_signAt_41 (by decide) ?_
    exact rt_i hx hb hr hlocks hQ hP hD hS () [0] dX10_signAt_45 rfl (Nat.le_of_ble_eq_true rfl) (Nat.le_of_ble_eq_true rfl) rfl (by decide) rfl
  rw [hH, hlo] at hgo
  exact hgo
theorem hi_X10_go_X10 : ∀ w ∈ wsX100, w ∈ wsX10_go := fun _ h => List.mem_cons_of_mem _ (List.mem_append_left _ (List.mem_append_right _ h))
theorem yd_J7_fill_d0a16 : yJ7_fill_d0a16.cls = RJ7 ∧ yJ7_fill_d0a16.cls ≠ "java/lang/invoke/MethodHandle" ∧ yJ7_fill_d0a16.cls ≠ "java/lang/invoke/VarHandle" ∧ (parseMethodDescriptor yJ7_fill_d0a16.desc).map (fun d => d.parameters.length) = some 2 := by decide +kernel
theorem yd_X10_wasHere : yX10_wasHere.cls = RX10 ∧ yX10_wasHere.cls ≠ "java/lang/invoke/MethodHandle" ∧ yX10_wasHere.cls ≠ "java/lang/invoke/VarHandle" ∧ (parseMethodDescriptor yX10_wasHere.desc).map (fun d => d.parameters.length) = some 0 := by decide +kernel
theorem yd_X10_signAt : yX10_signAt.cls = RX10 ∧ yX10_signAt.cls ≠ "java/lang/invoke/MethodHandle" ∧ yX10_signAt.cls ≠ "java/lang/invoke/VarHandle" ∧ (parseMethodDescriptor yX10_signAt.desc).map (fun d => d.parameters.length) = some 2 := by decide +kernel
theorem yd_X6_moveOf : yX6_moveOf.cls = RX6 ∧ yX6_moveOf.cls ≠ "java/lang/invoke/MethodHandle" ∧ yX6_moveOf.cls ≠ "java/lang/invoke/VarHandle" ∧ (parseMethodDescriptor yX6_moveOf.desc).map (fun d => d.parameters.length) = some 2 := by decide +kernel
abbrev rm_c_W_go : Room := { frames := 1, cells := 0, slots := 0, locals := 24 }
set_option maxHeartbeats 4000000 in
set_option maxRecDepth 100000 in
theorem c_W_go (l : Launch) (g : va_G) (cT : Nat → ClassId) (sz : Nat) (o : Nat) (sa : Nat) (sb : Nat) (z0 : Int32) (z1 : Int32) (z2 : Int32) (z3 : Int32) (z4 : Int32) (f : Nat → Int64) (o6 : Nat) (a6 : Nat) (v : Int32) (ra : Nat) (n : Int32) (hn : 0 ≤ n) : Ctr l g cT sz yX10_go wsX10_go rm_c_W_go [.ref o, .ref o6, .ref ra, .int n] [(o, .inr (10, [.ref sa, .ref sb, .int z0, .int z1, .int z2, .int z3, .int z4])), (sa, .inl (cT 1, 5, .inr (.inl f))), (o6, .inr (6, [.int 1, .int 0, .int 0, .int v, .ref a6])), (a6, .inl (cT 0, 25, .inl (fun _ => (-1))))] (QV g (fun (u : (Nat → Int64)) => True) (fun (u : (Nat → Int64)) => [(o, .inr (10, [.ref sa, .ref sb, .int 0, .int 0, .int 0, .int 0, .int 0])), (sa, .inl (cT 1, 5, .inr (.inl u))), (o6, .inr (6, [.int 1, .int 0, .int 0, .int v, .ref a6])), (a6, .inl (cT 0, 25, .inl (fun _ => (-1))))])) 0 0 := by
  refine mk_ctr (cc := cX10_go) (maxL := 5) (ret := none) (by decide) rfl (Nat.le_of_ble_eq_true rfl) ?_
  intro p e s m args below meth c A Q hx hb hr hts hown hlocks hin hml hP hK hD hN hZ hA hS hQ ls hl
  have hl : lv_has ls 5 [(0, .ref o), (1, .ref o6), (2, .ref ra), (3, .int n)] := hl
  obtain ⟨H, hH⟩ : ∃ H : Heap, H = s.heap := ⟨_, rfl⟩
  obtain ⟨locs, hlo⟩ : ∃ x : List Loc, x = [] := ⟨_, rfl⟩
  rw [← hH] at hP
  have hS : va_S A s.heap H locs := by rw [hH, hlo]; exact hS
  have hgo : W p l e rm_c_W_go s m args below meth c H locs 0 0 Q (F0 m 0 ls []) := by
    clear hH hlo
    refine lv_aload_n hx hb dX10_go_0 rfl (lv_at hl 0 rfl) ?_
    refine va_get (C := RX10) (T := TX10) (N := 7) (v := .ref sa) hx hb hts hi_X10_go_X10 hown hK hP 0 rfl rfl 0 (by decide) (hts (.fieldLink RX10 9 "BothWays$Walk" "seen" "[J") (by decide +kernel)) (fun _ h => h) rfl dX10_go_1 ?_
    refine lv_lconst (v := 0) hx hb dX10_go_4 (by decide) ?_
    refine cj_v 0 0 (wr := [(o, .inr (10, [.ref sa, .ref sb, .int z0, .int z1, .int z2, .int z3, .int z4])), (o6, .inr (6, [.int 1, .int 0, .int 0, .int v, .ref a6])), (a6, .inl (cT 0, 25, .inl (fun _ => (-1))))]) (va_runS (As := [.ref sa, .long 0]) (rest := []) ⟨hx, hb, hml, hown, hts⟩ (c_fillJ l g cT H.size sa 5 f 0 (by decide)) (va_cwS 2 hts gX10_go_J7_fill_d0a16 rfl rfl rfl yd_J7_fill_d0a16.2 ⟨(Nat.le_of_ble_eq_true rfl), (Nat.le_of_ble_eq_true rfl)⟩) (preS (wc := [(sa, .inl (cT 1, 5, .inr (.inl f)))]) rfl hP hD hK hN hZ hS hA [1] rfl (by decide)) rfl rfl hl.1 rfl (lv_room (Nat.le_of_ble_eq_true rfl)) dX10_go_5 ⟨(Nat.le_of_ble_eq_true rfl), (Nat.le_of_ble_eq_true rfl)⟩) hP hD hS hA [1] [0, 2, 3] rfl rfl (by decide) (by decide) (Nat.le_of_ble_eq_true rfl) (Nat.le_of_ble_eq_true rfl) (fun u H locs h_2 hP hD hS => ?_)
    have hP : va_P g vwCl [(o, .inr (10, [.ref sa, .ref sb, .int z0, .int z1, .int z2, .int z3, .int z4])), (o6, .inr (6, [.int 1, .int 0, .int 0, .int v, .ref a6])), (a6, .inl (cT 0, 25, .inl (fun _ => (-1)))), (sa, .inl (cT 1, 5, .inr (.inl (fun _ => 0))))] H := hP
    have hD : va_D A [(o, .inr (10, [.ref sa, .ref sb, .int z0, .int z1, .int z2, .int z3, .int z4])), (o6, .inr (6, [.int 1, .int 0, .int 0, .int v, .ref a6])), (a6, .inl (cT 0, 25, .inl (fun _ => (-1)))), (sa, .inl (cT 1, 5, .inr (.inl (fun _ => 0))))] := hD
    refine lv_aload_n hx hb dX10_go_8 rfl (lv_at hl 0 rfl) ?_
    refine lv_iconst (v := 0) hx hb dX10_go_9 (by decide) ?_
    refine va_put (C := RX10) (T := TX10) (N := 7) (v := .int 0) (ty := .int) hx hb hts hi_X10_go_X10 tyX10 tyX10_ok nmX10 hown hK hP hD hS 0 rfl rfl 2 (by decide) (hts (.fieldLink RX10 25 "BothWays$Walk" "saidSize" "I") (by decide +kernel)) (fun _ h => h) rfl (by decide +kernel) rfl rfl (Nat.le_of_ble_eq_true rfl) dX10_go_10 (fun H locs hP hD hS => ?_)
    have hP : va_P g vwCl [(o, .inr (10, [.ref sa, .ref sb, .int 0, .int z1, .int z2, .int z3, .int z4])), (o6, .inr (6, [.int 1, .int 0, .int 0, .int v, .ref a6])), (a6, .inl (cT 0, 25, .inl (fun _ => (-1)))), (sa, .inl (cT 1, 5, .inr (.inl (fun _ => 0))))] H := hP
    have hD : va_D A [(o, .inr (10, [.ref sa, .ref sb, .int 0, .int z1, .int z2, .int z3, .int z4])), (o6, .inr (6, [.int 1, .int 0, .int 0, .int v, .ref a6])), (a6, .inl (cT 0, 25, .inl (fun _ => (-1)))), (sa, .inl (cT 1, 5, .inr (.inl (fun _ => 0))))] := hD
    refine lv_aload_n hx hb dX10_go_13 rfl (lv_at hl 0 rfl) ?_
    refine lv_iconst (v := 0) hx hb dX10_go_14 (by decide) ?_
    refine va_put (C := RX10) (T := TX10) (N := 7) (v := .int 0) (ty := .int) hx hb hts hi_X10_go_X10 tyX10 tyX10_ok nmX10 hown hK hP hD hS 0 rfl rfl 5 (by decide) (hts (.fieldLink RX10 29 "BothWays$Walk" "place" "I") (by decide +kernel)) (fun _ h => h) rfl (by decide +kernel) rfl rfl (Nat.le_of_ble_eq_true rfl) dX10_go_15 (fun H locs hP hD hS => ?_)
    have hP : va_P g vwCl [(o, .inr (10, [.ref sa, .ref sb, .int 0, .int z1, .int z2, .int 0, .int z4])), (o6, .inr (6, [.int 1, .int 0, .int 0, .int v, .ref a6])), (a6, .inl (cT 0, 25, .inl (fun _ => (-1)))), (sa, .inl (cT 1, 5, .inr (.inl (fun _ => 0))))] H := hP
    have hD : va_D A [(o, .inr (10, [.ref sa, .ref sb, .int 0, .int z1, .int z2, .int 0, .int z4])), (o6, .inr (6, [.int 1, .int 0, .int 0, .int v, .ref a6])), (a6, .inl (cT 0, 25, .inl (fun _ => (-1)))), (sa, .inl (cT 1, 5, .inr (.inl (fun _ => 0))))] := hD
    refine lv_aload_n hx hb dX10_go_18 rfl (lv_at hl 0 rfl) ?_
    refine lv_iconst (v := 0) hx hb dX10_go_19 (by decide) ?_
    refine va_put (C := RX10) (T := TX10) (N := 7) (v := .int 0) (ty := .int) hx hb hts hi_X10_go_X10 tyX10 tyX10_ok nmX10 hown hK hP hD hS 0 rfl rfl 6 (by decide) (hts (.fieldLink RX10 32 "BothWays$Walk" "state" "I") (by decide +kernel)) (fun _ h => h) rfl (by decide +kernel) rfl rfl (Nat.le_of_ble_eq_true rfl) dX10_go_20 (fun H locs hP hD hS => ?_)
    have hP : va_P g vwCl [(o, .inr (10, [.ref sa, .ref sb, .int 0, .int z1, .int z2, .int 0, .int 0])), (o6, .inr (6, [.int 1, .int 0, .int 0, .int v, .ref a6])), (a6, .inl (cT 0, 25, .inl (fun _ => (-1)))), (sa, .inl (cT 1, 5, .inr (.inl (fun _ => 0))))] H := hP
    have hD : va_D A [(o, .inr (10, [.ref sa, .ref sb, .int 0, .int z1, .int z2, .int 0, .int 0])), (o6, .inr (6, [.int 1, .int 0, .int 0, .int v, .ref a6])), (a6, .inl (cT 0, 25, .inl (fun _ => (-1)))), (sa, .inl (cT 1, 5, .inr (.inl (fun _ => 0))))] := hD
    refine lv_aload_n hx hb dX10_go_23 rfl (lv_at hl 0 rfl) ?_
    refine lv_iconst (v := 2) hx hb dX10_go_24 (by decide) ?_
    refine va_put (C := RX10) (T := TX10) (N := 7) (v := .int 2) (ty := .int) hx hb hts hi_X10_go_X10 tyX10 tyX10_ok nmX10 hown hK hP hD hS 0 rfl rfl 3 (by decide) (hts (.fieldLink RX10 35 "BothWays$Walk" "end" "I") (by decide +kernel)) (fun _ h => h) rfl (by decide +kernel) rfl rfl (Nat.le_of_ble_eq_true rfl) dX10_go_25 (fun H locs hP hD hS => ?_)
    have hP : va_P g vwCl [(o, .inr (10, [.ref sa, .ref sb, .int 0, .int 2, .int z2, .int 0, .int 0])), (o6, .inr (6, [.int 1, .int 0, .int 0, .int v, .ref a6])), (a6, .inl (cT 0, 25, .inl (fun _ => (-1)))), (sa, .inl (cT 1, 5, .inr (.inl (fun _ => 0))))] H := hP
    have hD : va_D A [(o, .inr (10, [.ref sa, .ref sb, .int 0, .int 2, .int z2, .int 0, .int 0])), (o6, .inr (6, [.int 1, .int 0, .int 0, .int v, .ref a6])), (a6, .inl (cT 0, 25, .inl (fun _ => (-1)))), (sa, .inl (cT 1, 5, .inr (.inl (fun _ => 0))))] := hD
    refine lv_aload_n hx hb dX10_go_28 rfl (lv_at hl 0 rfl) ?_
    refine lv_iconst (v := 0) hx hb dX10_go_29 (by decide) ?_
    refine va_put (C := RX10) (T := TX10) (N := 7) (v := .int 0) (ty := .int) hx hb hts hi_X10_go_X10 tyX10 tyX10_ok nmX10 hown hK hP hD hS 0 rfl rfl 4 (by decide) (hts (.fieldLink RX10 38 "BothWays$Walk" "moves" "I") (by decide +kernel)) (fun _ h => h) rfl (by decide +kernel) rfl rfl (Nat.le_of_ble_eq_true rfl) dX10_go_30 (fun H locs hP hD hS => ?_)
    have hP : va_P g vwCl [(o, .inr (10, [.ref sa, .ref sb, .int 0, .int 2, .int 0, .int 0, .int 0])), (o6, .inr (6, [.int 1, .int 0, .int 0, .int v, .ref a6])), (a6, .inl (cT 0, 25, .inl (fun _ => (-1)))), (sa, .inl (cT 1, 5, .inr (.inl (fun _ => 0))))] H := hP
    have hD : va_D A [(o, .inr (10, [.ref sa, .ref sb, .int 0, .int 2, .int 0, .int 0, .int 0])), (o6, .inr (6, [.int 1, .int 0, .int 0, .int v, .ref a6])), (a6, .inl (cT 0, 25, .inl (fun _ => (-1)))), (sa, .inl (cT 1, 5, .inr (.inl (fun _ => 0))))] := hD
    refine lv_aload_n hx hb dX10_go_33 rfl (lv_at hl 0 rfl) ?_
    refine va_get (C := RX10) (T := TX10) (N := 7) (v := .int 0) hx hb hts hi_X10_go_X10 hown hK hP 0 rfl rfl 4 (by decide) (hts (.fieldLink RX10 38 "BothWays$Walk" "moves" "I") (by decide +kernel)) (fun _ h => h) rfl dX10_go_34 ?_
    refine lv_sipush (v := 130) hx hb dX10_go_37 (by decide) ?_
    refine icmp_gt_f hx hb dX10_go_40 155 (by decide) (by decide) ?_
    refine lv_aload_n hx hb dX10_go_43 rfl (lv_at hl 0 rfl) ?_
    refine cj_i 0 0 (wr := [(o6, .inr (6, [.int 1, .int 0, .int 0, .int v, .ref a6])), (a6, .inl (cT 0, 25, .inl (fun _ => (-1))))]) (va_runV (As := []) (rest := []) ⟨hx, hb, hml, hown, hts⟩ (c_W_wasHere l g cT H.size o sa sb 2 0) (cwV 0 hts gX10_go_X10_wasHere rfl rfl rfl yd_X10_wasHere ⟨(Nat.le_of_ble_eq_true rfl), (Nat.le_of_ble_eq_true rfl)⟩) (preV (wc := [(o, .inr (10, [.ref sa, .ref sb, .int 0, .int 2, .int 0, .int 0, .int 0])), (sa, .inl (cT 1, 5, .inr (.inl (fun _ => 0))))]) rfl hP hD hK hN hZ hS hA [0, 3] rfl (by decide) (ci := 10) (q0 := 0) rfl rfl) rfl rfl hl.1 rfl (lv_room (Nat.le_of_ble_eq_true rfl)) dX10_go_44 ⟨(Nat.le_of_ble_eq_true rfl), (Nat.le_of_ble_eq_true rfl)⟩) hP hD hS hA [0, 3] [1, 2] rfl rfl (by decide) (by decide) (Nat.le_of_ble_eq_true rfl) (Nat.le_of_ble_eq_true rfl) (fun r_3 u H locs h_4 hP hD hS => ?_)
    have hP : va_P g vwCl [(o6, .inr (6, [.int 1, .int 0, .int 0, .int v, .ref a6])), (a6, .inl (cT 0, 25, .inl (fun _ => (-1)))), (o, .inr (10, [.ref sa, .ref sb, .int 0, .int 2, .int 0, .int 0, .int 0])), (sa, .inl (cT 1, 5, .inr (.inl (vp_updL (fun _ => 0) 0 1))))] H := hP
    have hD : va_D A [(o6, .inr (6, [.int 1, .int 0, .int 0, .int v, .ref a6])), (a6, .inl (cT 0, 25, .inl (fun _ => (-1)))), (o, .inr (10, [.ref sa, .ref sb, .int 0, .int 2, .int 0, .int 0, .int 0])), (sa, .inl (cT 1, 5, .inr (.inl (vp_updL (fun _ => 0) 0 1))))] := hD
    subst h_4
    refine if_eq_t hx hb 51 dX10_go_47 (by decide) (by decide) ?_
    refine lv_aload_n hx hb dX10_go_51 rfl (lv_at hl 1 rfl) ?_
    refine lv_aload_n hx hb dX10_go_52 rfl (lv_at hl 0 rfl) ?_
    refine va_get (C := RX10) (T := TX10) (N := 7) (v := .int 0) hx hb hts hi_X10_go_X10 hown hK hP 2 rfl rfl 6 (by decide) (hts (.fieldLink RX10 32 "BothWays$Walk" "state" "I") (by decide +kernel)) (fun _ h => h) rfl dX10_go_53 ?_
    refine lv_aload_n hx hb dX10_go_56 rfl (lv_at hl 0 rfl) ?_
    refine lv_aload_n hx hb dX10_go_57 rfl (lv_at hl 2 rfl) ?_
    refine lv_iload_n hx hb dX10_go_58 rfl (lv_at hl 3 rfl) ?_
    refine cj_i 0 0 (wr := [(o6, .inr (6, [.int 1, .int 0, .int 0, .int v, .ref a6])), (a6, .inl (cT 0, 25, .inl (fun _ => (-1)))), (sa, .inl (cT 1, 5, .inr (.inl (vp_updL (fun _ => 0) 0 1))))]) (va_runV (As := [.ref ra, .int n]) (rest := [.int 0, .ref o6]) ⟨hx, hb, hml, hown, hts⟩ (c_W_signAt l g cT H.size o sa sb 2 0 ra n) (cwV 2 hts gX10_go_X10_signAt rfl rfl rfl yd_X10_signAt ⟨(Nat.le_of_ble_eq_true rfl), (Nat.le_of_ble_eq_true rfl)⟩) (preV (wc := [(o, .inr (10, [.ref sa, .ref sb, .int 0, .int 2, .int 0, .int 0, .int 0]))]) rfl hP hD hK hN hZ hS hA [2] rfl (by decide) (ci := 10) (q0 := 2) rfl rfl) rfl rfl hl.1 rfl (lv_room (Nat.le_of_ble_eq_true rfl)) dX10_go_59 ⟨(Nat.le_of_ble_eq_true rfl), (Nat.le_of_ble_eq_true rfl)⟩) hP hD hS hA [2] [0, 1, 3] rfl rfl (by decide) (by decide) (Nat.le_of_ble_eq_true rfl) (Nat.le_of_ble_eq_true rfl) (fun r_5 u H locs h_6 hP hD hS => ?_)
    have hP : va_P g vwCl [(o6, .inr (6, [.int 1, .int 0, .int 0, .int v, .ref a6])), (a6, .inl (cT 0, 25, .inl (fun _ => (-1)))), (sa, .inl (cT 1, 5, .inr (.inl (vp_updL (fun _ => 0) 0 1)))), (o, .inr (10, [.ref sa, .ref sb, .int 0, .int 2, .int 0, .int 0, .int 0]))] H := hP
    have hD : va_D A [(o6, .inr (6, [.int 1, .int 0, .int 0, .int v, .ref a6])), (a6, .inl (cT 0, 25, .inl (fun _ => (-1)))), (sa, .inl (cT 1, 5, .inr (.inl (vp_updL (fun _ => 0) 0 1)))), (o, .inr (10, [.ref sa, .ref sb, .int 0, .int 2, .int 0, .int 0, .int 0]))] := hD
    subst h_6
    refine cj_i 0 0 (wr := [(sa, .inl (cT 1, 5, .inr (.inl (vp_updL (fun _ => 0) 0 1)))), (o, .inr (10, [.ref sa, .ref sb, .int 0, .int 2, .int 0, .int 0, .int 0]))]) (va_runV (As := [.int 0, .int 3]) (rest := []) ⟨hx, hb, hml, hown, hts⟩ (c_R_moveOf l g cT H.size o6 a6 v 0 3) (cwV 2 hts gX10_go_X6_moveOf rfl rfl rfl yd_X6_moveOf ⟨(Nat.le_of_ble_eq_true rfl), (Nat.le_of_ble_eq_true rfl)⟩) (preV (wc := [(o6, .inr (6, [.int 1, .int 0, .int 0, .int v, .ref a6])), (a6, .inl (cT 0, 25, .inl (fun _ => (-1))))]) rfl hP hD hK hN hZ hS hA [0, 1] rfl (by decide) (ci := 6) (q0 := 0) rfl rfl) rfl rfl hl.1 rfl (lv_room (Nat.le_of_ble_eq_true rfl)) dX10_go_62 ⟨(Nat.le_of_ble_eq_true rfl), (Nat.le_of_ble_eq_true rfl)⟩) hP hD hS hA [0, 1] [2, 3] rfl rfl (by decide) (by decide) (Nat.le_of_ble_eq_true rfl) (Nat.le_of_ble_eq_true rfl) (fun r_7 u H locs h_8 hP hD hS => ?_)
    have hP : va_P g vwCl [(sa, .inl (cT 1, 5, .inr (.inl (vp_updL (fun _ => 0) 0 1)))), (o, .inr (10, [.ref sa, .ref sb, .int 0, .int 2, .int 0, .int 0, .int 0])), (o6, .inr (6, [.int 1, .int 0, .int 0, .int v, .ref a6])), (a6, .inl (cT 0, 25, .inl (fun _ => (-1))))] H := hP
    have hD : va_D A [(sa, .inl (cT 1, 5, .inr (.inl (vp_updL (fun _ => 0) 0 1)))), (o, .inr (10, [.ref sa, .ref sb, .int 0, .int 2, .int 0, .int 0, .int 0])), (o6, .inr (6, [.int 1, .int 0, .int 0, .int v, .ref a6])), (a6, .inl (cT 0, 25, .inl (fun _ => (-1))))] := hD
    subst h_8
    refine lv_istore (lv' := [(4, .int (-1)), (0, .ref o), (1, .ref o6), (2, .ref ra), (3, .int n)]) hx hb dX10_go_65 hl (by decide) rfl (fun ls hl => ?_)
    refine lv_iload hx hb dX10_go_67 (lv_at hl 0 rfl) ?_
    refine lv_iconst (v := (-1)) hx hb dX10_go_69 (by decide) ?_
    refine icmp_ne_f hx hb dX10_go_70 102 (by decide) (by decide) ?_
    refine lv_aload_n hx hb dX10_go_73 rfl (lv_at hl 1 rfl) ?_
    refine lv_aload_n hx hb dX10_go_74 rfl (lv_at hl 1 rfl) ?_
    refine va_get (C := RX10) (T := TX10) (N := 7) (v := .int 0) hx hb hts hi_X10_go_X10 hown hK hP 1 rfl rfl 5 (by decide) (hts (.fieldLink RX10 29 "BothWays$Walk" "place" "I") (by decide +kernel)) (fun _ h => h) rfl dX10_go_75 ?_
    refine lv_iload_n hx hb dX10_go_78 rfl (lv_at hl 4 rfl) ?_
    refine icmp_le_t hx hb 97 dX10_go_79 (by decide) hn ?_
    refine lv_iconst (v := 0) hx hb dX10_go_97 (by decide) ?_
    refine va_put (C := RX10) (T := TX10) (N := 7) (v := .int 0) (ty := .int) hx hb hts hi_X10_go_X10 tyX10 tyX10_ok nmX10 hown hK hP hD hS 1 rfl rfl 3 (by decide) (hts (.fieldLink RX10 35 "BothWays$Walk" "end" "I") (by decide +kernel)) (fun _ h => h) rfl (by decide +kernel) rfl rfl (Nat.le_of_ble_eq_true rfl) dX10_go_98 (fun H locs hP hD hS => ?_)
    have hP : va_P g vwCl [(sa, .inl (cT 1, 5, .inr (.inl (vp_updL (fun _ => 0) 0 1)))), (o, .inr (10, [.ref sa, .ref sb, .int 0, .int 0, .int 0, .int 0, .int 0])), (o6, .inr (6, [.int 1, .int 0, .int 0, .int v, .ref a6])), (a6, .inl (cT 0, 25, .inl (fun _ => (-1))))] H := hP
    have hD : va_D A [(sa, .inl (cT 1, 5, .inr (.inl (vp_updL (fun _ => 0) 0 1)))), (o, .inr (10, [.ref sa, .ref sb, .int 0, .int 0, .int 0, .int 0, .int 0])), (o6, .inr (6, [.int 1, .int 0, .int 0, .int v, .ref a6])), (a6, .inl (cT 0, 25, .inl (fun _ => (-1))))] := hD
    exact rt_v hx hb hr hlocks hQ hP hD hS (vp_updL (fun _ => 0) 0 1) [1, 0, 2, 3] dX10_go_101 (Nat.le_of_ble_eq_true rfl) (Nat.le_of_ble_eq_true rfl) rfl (by decide) trivial
  rw [hH, hlo] at hgo
  exact hgo
theorem hi_X7_init_X7 : ∀ w ∈ wsX70, w ∈ wsX7_init := fun _ h => List.mem_cons_of_mem _ (List.mem_append_right _ h)
abbrev rm_c_Rw_init : Room := { frames := 1, cells := 1, slots := 7, locals := 20 }
set_option maxHeartbeats 4000000 in
set_option maxRecDepth 100000 in
theorem c_Rw_init (l : Launch) (g : va_G) (cT : Nat → ClassId) (sz : Nat) (o : Nat)  : Ctr l g cT sz yX7_init wsX7_init rm_c_Rw_init [.ref o] [(o, .inr (7, [.null, .int 0]))] (QV g (fun (u : Nat) => True) (fun (u : Nat) => [(o, .inr (7, [.ref u, .int 0])), (u, .inl (cT 0, 7, .inl (fun _ => 0)))])) 1 7 := by
  refine mk_ctr (cc := cX7_init) (maxL := 1) (ret := none) (by decide) rfl (Nat.le_of_ble_eq_true rfl) ?_
  intro p e s m args below meth c A Q hx hb hr hts hown hlocks hin hml hP hK hD hN hZ hA hS hQ ls hl
  have hl : lv_has ls 1 [(0, .ref o)] := hl
  obtain ⟨H, hH⟩ : ∃ H : Heap, H = s.heap := ⟨_, rfl⟩
  obtain ⟨locs, hlo⟩ : ∃ x : List Loc, x = [] := ⟨_, rfl⟩
  rw [← hH] at hP
  have hS : va_S A s.heap H locs := by rw [hH, hlo]; exact hS
  have hgo : W p l e rm_c_Rw_init s m args below meth c H locs 0 0 Q (F0 m 0 ls []) := by
    clear hH hlo
    refine lv_aload_n hx hb dX7_init_0 rfl (lv_at hl 0 rfl) ?_
    refine W.objInit hx hb hown (hts (.methodLink RX7 3 objectInit) (by decide +kernel)) (hts (.instanceMethod objectInit) (by decide +kernel)) (hts _ (List.mem_cons_of_mem _ (List.mem_append_left _ (List.mem_of_getElem? (i := 2) rfl)))) rfl (by rw [hml]; exact hl.1) rfl dX7_init_1 (Nat.le_of_ble_eq_true rfl) (Nat.le_of_ble_eq_true rfl) ?_
    refine W.eq (g2 := F0 m 4 ls []) rfl ?_
    refine lv_aload_n hx hb dX7_init_4 rfl (lv_at hl 0 rfl) ?_
    refine lv_bipush (v := 7) hx hb dX7_init_5 (by decide) ?_
    refine w_newI hx hb (hts (.arrayClass .int) (by decide +kernel)) hK hP hD hS hA 7 1 7 dX7_init_7 (by decide) (by decide) (by decide) (Nat.le_of_ble_eq_true rfl) (Nat.le_of_ble_eq_true rfl) (Nat.le_of_ble_eq_true rfl) (Nat.le_of_ble_eq_true rfl) (fun q_1 H hP hD hS => ?_)
    have hP : va_P g vwCl [(o, .inr (7, [.null, .int 0])), (q_1, .inl (cT 0, 7, .inl (fun _ => 0)))] H := hP
    have hD : va_D A [(o, .inr (7, [.null, .int 0])), (q_1, .inl (cT 0, 7, .inl (fun _ => 0)))] := hD
    refine va_putF (C := RX7) (T := TX7) (N := 2) (v := .ref q_1) (ty := .array .int) hx hb hts hi_X7_init_X7 tyX7 tyX7_ok nmX7 hown hK hP hD hS 0 rfl rfl 0 (by decide) (hts (.fieldLink RX7 9 "BothWays$Rows" "letters" "[I") (by decide +kernel)) (fun _ h => h) rfl hin rfl (by decide +kernel) rfl rfl (Nat.le_of_ble_eq_true rfl) dX7_init_9 (fun H locs hP hD hS => ?_)
    have hP : va_P g vwCl [(o, .inr (7, [.ref q_1, .int 0])), (q_1, .inl (cT 0, 7, .inl (fun _ => 0)))] H := hP
    have hD : va_D A [(o, .inr (7, [.ref q_1, .int 0])), (q_1, .inl (cT 0, 7, .inl (fun _ => 0)))] := hD
    refine lv_aload_n hx hb dX7_init_12 rfl (lv_at hl 0 rfl) ?_
    refine lv_iconst (v := 0) hx hb dX7_init_13 (by decide) ?_
    refine va_put (C := RX7) (T := TX7) (N := 2) (v := .int 0) (ty := .int) hx hb hts hi_X7_init_X7 tyX7 tyX7_ok nmX7 hown hK hP hD hS 0 rfl rfl 1 (by decide) (hts (.fieldLink RX7 15 "BothWays$Rows" "length" "I") (by decide +kernel)) (fun _ h => h) rfl (by decide +kernel) rfl rfl (Nat.le_of_ble_eq_true rfl) dX7_init_14 (fun H locs hP hD hS => ?_)
    have hP : va_P g vwCl [(o, .inr (7, [.ref q_1, .int 0])), (q_1, .inl (cT 0, 7, .inl (fun _ => 0)))] H := hP
    have hD : va_D A [(o, .inr (7, [.ref q_1, .int 0])), (q_1, .inl (cT 0, 7, .inl (fun _ => 0)))] := hD
    exact rt_v hx hb hr hlocks hQ hP hD hS q_1 [0, 1] dX7_init_17 (Nat.le_of_ble_eq_true rfl) (Nat.le_of_ble_eq_true rfl) rfl (by decide) trivial
  rw [hH, hlo] at hgo
  exact hgo
theorem hi_X7_begin_X7 : ∀ w ∈ wsX70, w ∈ wsX7_begin := fun _ h => List.mem_cons_of_mem _ (List.mem_append_right _ h)
abbrev rm_c_Rw_begin : Room := { frames := 1, cells := 0, slots := 0, locals := 23 }
set_option maxHeartbeats 4000000 in
set_option maxRecDepth 100000 in
theorem c_Rw_begin (l : Launch) (g : va_G) (cT : Nat → ClassId) (sz : Nat) (o : Nat) (a : Nat) (N : Nat) (z : Int32) (f : Nat → Int32) (hM : N ≤ 7) : Ctr l g cT sz yX7_begin wsX7_begin rm_c_Rw_begin [.ref o, .int (nI N)] [(o, .inr (7, [.ref a, .int z])), (a, .inl (cT 0, 7, .inl f))] (QV g (fun (u : Unit) => True) (fun (u : Unit) => [(o, .inr (7, [.ref a, .int (nI N)])), (a, .inl (cT 0, 7, .inl (fun _ => 0)))])) 0 0 := by
  refine mk_ctr (cc := cX7_begin) (maxL := 2) (ret := none) (by decide) rfl (Nat.le_of_ble_eq_true rfl) ?_
  intro p e s m args below meth c A Q hx hb hr hts hown hlocks hin hml hP hK hD hN hZ hA hS hQ ls hl
  have hl : lv_has ls 2 [(0, .ref o), (1, .int (nI N))] := hl
  obtain ⟨H, hH⟩ : ∃ H : Heap, H = s.heap := ⟨_, rfl⟩
  obtain ⟨locs, hlo⟩ : ∃ x : List Loc, x = [] := ⟨_, rfl⟩
  rw [← hH] at hP
  have hS : va_S A s.heap H locs := by rw [hH, hlo]; exact hS
  have hgo : W p l e rm_c_Rw_begin s m args below meth c H locs 0 0 Q (F0 m 0 ls []) := by
    clear hH hlo
    refine lv_aload_n hx hb dX7_begin_0 rfl (lv_at hl 0 rfl) ?_
    refine lv_iconst (v := 0) hx hb dX7_begin_1 (by decide) ?_
    refine lv_iload_n hx hb dX7_begin_2 rfl (lv_at hl 1 rfl) ?_
    refine lv_bipush (v := 7) hx hb dX7_begin_3 (by decide) ?_
    refine va_mmin hx hb (hml.trans hl.1.symm) hown (hts (.methodLink RX7 19 Lib.Math.min.name) (by decide +kernel)) (hts (.static Lib.Math.min.name) (by decide +kernel)) (hts (.initialized "java/lang/Math") (by decide +kernel)) (hts (.code Lib.Math.min.name Lib.Math.min.code 2 (some .int)) (by decide +kernel)) (Nat.le_of_ble_eq_true rfl) (Nat.le_of_ble_eq_true rfl) (Nat.le_of_ble_eq_true rfl) (Nat.le_of_ble_eq_true rfl) dX7_begin_5 ?_
    refine tI (nI N) (if_neg (nI_nlt (a := 7) (by omega) (by decide))) ?_
    refine va_mmax hx hb (hml.trans hl.1.symm) hown (hts (.methodLink RX7 25 Lib.Math.max.name) (by decide +kernel)) (hts (.static Lib.Math.max.name) (by decide +kernel)) (hts (.initialized "java/lang/Math") (by decide +kernel)) (hts (.code Lib.Math.max.name Lib.Math.max.code 2 (some .int)) (by decide +kernel)) (Nat.le_of_ble_eq_true rfl) (Nat.le_of_ble_eq_true rfl) (Nat.le_of_ble_eq_true rfl) (Nat.le_of_ble_eq_true rfl) dX7_begin_8 ?_
    refine tI (nI N) (mx0 (by omega)) ?_
    refine va_put (C := RX7) (T := TX7) (N := 2) (v := .int (nI N)) (ty := .int) hx hb hts hi_X7_begin_X7 tyX7 tyX7_ok nmX7 hown hK hP hD hS 0 rfl rfl 1 (by decide) (hts (.fieldLink RX7 15 "BothWays$Rows" "length" "I") (by decide +kernel)) (fun _ h => h) rfl (by decide +kernel) rfl rfl (Nat.le_of_ble_eq_true rfl) dX7_begin_11 (fun H locs hP hD hS => ?_)
    have hP : va_P g vwCl [(o, .inr (7, [.ref a, .int (nI N)])), (a, .inl (cT 0, 7, .inl f))] H := hP
    have hD : va_D A [(o, .inr (7, [.ref a, .int (nI N)])), (a, .inl (cT 0, 7, .inl f))] := hD
    refine lv_aload_n hx hb dX7_begin_14 rfl (lv_at hl 0 rfl) ?_
    refine va_get (C := RX7) (T := TX7) (N := 2) (v := .ref a) hx hb hts hi_X7_begin_X7 hown hK hP 0 rfl rfl 0 (by decide) (hts (.fieldLink RX7 9 "BothWays$Rows" "letters" "[I") (by decide +kernel)) (fun _ h => h) rfl dX7_begin_15 ?_
    refine lv_iconst (v := 0) hx hb dX7_begin_18 (by decide) ?_
    refine cj_v 0 0 (wr := [(o, .inr (7, [.ref a, .int (nI N)]))]) (va_runS (As := [.ref a, .int 0]) (rest := []) ⟨hx, hb, hml, hown, hts⟩ (c_fillI l g cT H.size a 7 f 0 (by decide)) (va_cwS 2 hts gX7_begin_J7_fill_53178 rfl rfl rfl yd_J7_fill_53178.2 ⟨(Nat.le_of_ble_eq_true rfl), (Nat.le_of_ble_eq_true rfl)⟩) (preS (wc := [(a, .inl (cT 0, 7, .inl f))]) rfl hP hD hK hN hZ hS hA [1] rfl (by decide)) rfl rfl hl.1 rfl (lv_room (Nat.le_of_ble_eq_true rfl)) dX7_begin_19 ⟨(Nat.le_of_ble_eq_true rfl), (Nat.le_of_ble_eq_true rfl)⟩) hP hD hS hA [1] [0] rfl rfl (by decide) (by decide) (Nat.le_of_ble_eq_true rfl) (Nat.le_of_ble_eq_true rfl) (fun u H locs h_2 hP hD hS => ?_)
    have hP : va_P g vwCl [(o, .inr (7, [.ref a, .int (nI N)])), (a, .inl (cT 0, 7, .inl (fun _ => 0)))] H := hP
    have hD : va_D A [(o, .inr (7, [.ref a, .int (nI N)])), (a, .inl (cT 0, 7, .inl (fun _ => 0)))] := hD
    exact rt_v hx hb hr hlocks hQ hP hD hS () [0, 1] dX7_begin_22 (Nat.le_of_ble_eq_true rfl) (Nat.le_of_ble_eq_true rfl) rfl (by decide) trivial
  rw [hH, hlo] at hgo
  exact hgo
theorem hi_X7_howMany_X7 : ∀ w ∈ wsX70, w ∈ wsX7_howMany := fun _ h => List.mem_cons_of_mem _ (List.mem_append_right _ h)
abbrev rm_c_Rw_howMany : Room := { frames := 0, cells := 0, slots := 0, locals := 0 }
set_option maxHeartbeats 4000000 in
set_option maxRecDepth 100000 in
theorem c_Rw_howMany (l : Launch) (g : va_G) (cT : Nat → ClassId) (sz : Nat) (o : Nat) (a : Nat) (N : Nat) (hM : N ≤ 7) : Ctr l g cT sz yX7_howMany wsX7_howMany rm_c_Rw_howMany [.ref o] [(o, .inr (7, [.ref a, .int (nI N)]))] (QI g (fun (r : Int32) (u : Unit) => r = (nI (3 ^ N))) (fun (u : Unit) => [(o, .inr (7, [.ref a, .int (nI N)]))])) 0 0 := by
  refine mk_ctr (cc := cX7_howMany) (maxL := 1) (ret := (some .int)) (by decide) rfl (Nat.le_of_ble_eq_true rfl) ?_
  intro p e s m args below meth c A Q hx hb hr hts hown hlocks hin hml hP hK hD hN hZ hA hS hQ ls hl
  have hl : lv_has ls 1 [(0, .ref o)] := hl
  obtain ⟨H, hH⟩ : ∃ H : Heap, H = s.heap := ⟨_, rfl⟩
  obtain ⟨locs, hlo⟩ : ∃ x : List Loc, x = [] := ⟨_, rfl⟩
  rw [← hH] at hP
  have hS : va_S A s.heap H locs := by rw [hH, hlo]; exact hS
  have hgo : W p l e rm_c_Rw_howMany s m args below meth c H locs 0 0 Q (F0 m 0 ls []) := by
    clear hH hlo
    obtain ⟨tp, hZ1, hZ2⟩ := id hZ
    refine lv_aload_n hx hb dX7_howMany_0 rfl (lv_at hl 0 rfl) ?_
    refine va_get (C := RX7) (T := TX7) (N := 2) (v := .int (nI N)) hx hb hts hi_X7_howMany_X7 hown hK hP 0 rfl rfl 1 (by decide) (hts (.fieldLink RX7 15 "BothWays$Rows" "length" "I") (by decide +kernel)) (fun _ h => h) rfl dX7_howMany_1 ?_
    refine if_lt_f hx hb dX7_howMany_4 29 (by decide) (nI_pos (by omega)) ?_
    refine lv_aload_n hx hb dX7_howMany_7 rfl (lv_at hl 0 rfl) ?_
    refine va_get (C := RX7) (T := TX7) (N := 2) (v := .int (nI N)) hx hb hts hi_X7_howMany_X7 hown hK hP 0 rfl rfl 1 (by decide) (hts (.fieldLink RX7 15 "BothWays$Rows" "length" "I") (by decide +kernel)) (fun _ h => h) rfl dX7_howMany_8 ?_
    refine va_gets hx hb hZ1 hS hown (hts (.fieldLink RX7 34 "BothWays$Rows" "POWERS" "[I") (by decide +kernel)) (fun _ h => h) dX7_howMany_11 ?_
    refine va_tlen (v := 8) hx hb hZ2 hS (by decide) dX7_howMany_14 ?_
    refine icmp_ge_f hx hb dX7_howMany_15 29 (by decide) (nI_ge (b := 8) (by omega) (by decide)) ?_
    refine va_gets hx hb hZ1 hS hown (hts (.fieldLink RX7 34 "BothWays$Rows" "POWERS" "[I") (by decide +kernel)) (fun _ h => h) dX7_howMany_18 ?_
    refine lv_aload_n hx hb dX7_howMany_21 rfl (lv_at hl 0 rfl) ?_
    refine va_get (C := RX7) (T := TX7) (N := 2) (v := .int (nI N)) hx hb hts hi_X7_howMany_X7 hown hK hP 0 rfl rfl 1 (by decide) (hts (.fieldLink RX7 15 "BothWays$Rows" "length" "I") (by decide +kernel)) (fun _ h => h) rfl dX7_howMany_22 ?_
    refine va_ti (v := .int (nI (3 ^ N))) hx hb hZ2 hS (vp_in_nI (show N < 8 by omega) (by decide)) (by rw [nI_clamp (by omega)]; rfl) dX7_howMany_25 ?_
    refine lv_goto (tgt := 30) hx hb dX7_howMany_26 (by decide) ?_
    exact rt_i hx hb hr hlocks hQ hP hD hS () [0] dX7_howMany_30 rfl (Nat.le_of_ble_eq_true rfl) (Nat.le_of_ble_eq_true rfl) rfl (by decide) rfl
  rw [hH, hlo] at hgo
  exact hgo
theorem hi_X7_forward_X7 : ∀ w ∈ wsX70, w ∈ wsX7_forward := fun _ h => List.mem_cons_of_mem _ (List.mem_append_right _ h)
abbrev rm_c_Rw_forward : Room := { frames := 0, cells := 0, slots := 0, locals := 0 }
set_option maxHeartbeats 4000000 in
set_option maxRecDepth 100000 in
theorem c_Rw_forward (l : Launch) (g : va_G) (cT : Nat → ClassId) (sz : Nat) (o : Nat) (a : Nat) (N : Nat) (f : Nat → Int32) (hM : N ≤ 7) : Ctr l g cT sz yX7_forward wsX7_forward rm_c_Rw_forward [.ref o] [(o, .inr (7, [.ref a, .int (nI N)])), (a, .inl (cT 0, 7, .inl f))] (QV g (fun (u : (Nat → Int32)) => True) (fun (u : (Nat → Int32)) => [(o, .inr (7, [.ref a, .int (nI N)])), (a, .inl (cT 0, 7, .inl u))])) 0 0 := by
  refine mk_ctr (cc := cX7_forward) (maxL := 2) (ret := none) (by decide) rfl (Nat.le_of_ble_eq_true rfl) ?_
  intro p e s m args below meth c A Q hx hb hr hts hown hlocks hin hml hP hK hD hN hZ hA hS hQ ls hl
  have hl : lv_has ls 2 [(0, .ref o)] := hl
  obtain ⟨H, hH⟩ : ∃ H : Heap, H = s.heap := ⟨_, rfl⟩
  obtain ⟨locs, hlo⟩ : ∃ x : List Loc, x = [] := ⟨_, rfl⟩
  rw [← hH] at hP
  have hS : va_S A s.heap H locs := by rw [hH, hlo]; exact hS
  have hgo : W p l e rm_c_Rw_forward s m args below meth c H locs 0 0 Q (F0 m 0 ls []) := by
    clear hH hlo
    refine lv_aload_n hx hb dX7_forward_0 rfl (lv_at hl 0 rfl) ?_
    refine va_get (C := RX7) (T := TX7) (N := 2) (v := .int (nI N)) hx hb hts hi_X7_forward_X7 hown hK hP 0 rfl rfl 1 (by decide) (hts (.fieldLink RX7 15 "BothWays$Rows" "length" "I") (by decide +kernel)) (fun _ h => h) rfl dX7_forward_1 ?_
    refine lv_iconst (v := 1) hx hb dX7_forward_4 (by decide) ?_
    refine w_isub (v := (nI N) - (1 : Int32)) hx hb dX7_forward_5 rfl ?_
    refine lv_istore_n (lv' := [(1, .int ((nI N) - (1 : Int32))), (0, .ref o)]) hx hb dX7_forward_6 rfl hl (by decide) rfl (fun ls hl => ?_)
    have loop_1 : ∀ (fuel : Nat) (j : Nat) (f2 : Nat → Int32), j ≤ N → j < fuel → ∀ (H : Heap) (locs : List Loc), va_P g vwCl [(o, .inr (7, [.ref a, .int (nI N)])), (a, .inl (cT 0, 7, .inl f2))] H → va_D A [(o, .inr (7, [.ref a, .int (nI N)])), (a, .inl (cT 0, 7, .inl f2))] → va_S A s.heap H locs → ∀ ls : Array Slot, lv_has ls 2 [(1, .int (nI j - 1)), (0, .ref o)] → W p l e rm_c_Rw_forward s m args below meth c H locs 0 0 Q (F0 m 7 ls []) := by
      intro fuel
      induction fuel with
      | zero => intro j f2 hj hfu; omega
      | succ fuel ih_loop_1 =>
        intro j f2 hj hfu H locs hP hD hS ls hl
        cases j with
        | zero =>
          rw [show nI 0 - 1 = (-1 : Int32) by decide] at hl
          refine lv_iload_n hx hb dX7_forward_7 rfl (lv_at hl 0 rfl) ?_
          refine if_lt_t hx hb 45 dX7_forward_8 (by decide) (by decide) ?_
          exact rt_v hx hb hr hlocks hQ hP hD hS f2 [0, 1] dX7_forward_45 (Nat.le_of_ble_eq_true rfl) (Nat.le_of_ble_eq_true rfl) rfl (by decide) trivial
        | succ k =>
          rw [nI_pred k] at hl
          refine lv_iload_n hx hb dX7_forward_7 rfl (lv_at hl 0 rfl) ?_
          refine if_lt_f hx hb dX7_forward_8 45 (by decide) (nI_pos (by omega)) ?_
          refine lv_aload_n hx hb dX7_forward_11 rfl (lv_at hl 1 rfl) ?_
          refine va_get (C := RX7) (T := TX7) (N := 2) (v := .ref a) hx hb hts hi_X7_forward_X7 hown hK hP 0 rfl rfl 0 (by decide) (hts (.fieldLink RX7 9 "BothWays$Rows" "letters" "[I") (by decide +kernel)) (fun _ h => h) rfl dX7_forward_12 ?_
          refine lv_iload_n hx hb dX7_forward_15 rfl (lv_at hl 0 rfl) ?_
          refine w_iald (v := f2 ((nI k).toNatClampNeg)) hx hb hK hP 1 rfl dX7_forward_16 (vp_in_nI (show k < 7 by omega) (by decide)) rfl ?_
          refine lv_iconst (v := 2) hx hb dX7_forward_17 (by decide) ?_
          refine lv_icmp_ge (tgt := 32) hx hb dX7_forward_18 (by decide) (fun c_2 => ?_) (fun c_2 => ?_)
          · skip
            refine lv_aload_n hx hb dX7_forward_32 rfl (lv_at hl 1 rfl) ?_
            refine va_get (C := RX7) (T := TX7) (N := 2) (v := .ref a) hx hb hts hi_X7_forward_X7 hown hK hP 0 rfl rfl 0 (by decide) (hts (.fieldLink RX7 9 "BothWays$Rows" "letters" "[I") (by decide +kernel)) (fun _ h => h) rfl dX7_forward_33 ?_
            refine lv_iload_n hx hb dX7_forward_36 rfl (lv_at hl 0 rfl) ?_
            refine lv_iconst (v := 0) hx hb dX7_forward_37 (by decide) ?_
            obtain ⟨f_3, ef_3⟩ : ∃ z, z = upd f2 (nI k).toNatClampNeg 0 := ⟨_, rfl⟩
            refine w_iast (f' := f_3) hx hb hK hP hD hS 1 rfl dX7_forward_38 (vp_in_nI (show k < 7 by omega) (by decide)) ef_3.symm (fun H locs hP hD hS => ?_)
            have hP : va_P g vwCl [(o, .inr (7, [.ref a, .int (nI N)])), (a, .inl (cT 0, 7, .inl f_3))] H := hP
            have hD : va_D A [(o, .inr (7, [.ref a, .int (nI N)])), (a, .inl (cT 0, 7, .inl f_3))] := hD
            refine lv_iinc (v := (nI k - 1)) (lv' := [(1, .int (nI k - 1)), (0, .ref o)]) hx hb dX7_forward_39 hl (k := 0) rfl (mn1 k) (by decide) rfl (fun ls hl => ?_)
            refine lv_goto (tgt := 7) hx hb dX7_forward_42 (by decide) ?_
            exact ih_loop_1 k f_3 (by omega) (by omega) _ _ (hP.sub [0, 1] rfl) (hD.sub [0, 1] (by decide) rfl) hS ls (lv_sub hl [0, 1] rfl)
          · skip
            refine lv_aload_n hx hb dX7_forward_21 rfl (lv_at hl 1 rfl) ?_
            refine va_get (C := RX7) (T := TX7) (N := 2) (v := .ref a) hx hb hts hi_X7_forward_X7 hown hK hP 0 rfl rfl 0 (by decide) (hts (.fieldLink RX7 9 "BothWays$Rows" "letters" "[I") (by decide +kernel)) (fun _ h => h) rfl dX7_forward_22 ?_
            refine lv_iload_n hx hb dX7_forward_25 rfl (lv_at hl 0 rfl) ?_
            refine lv_dup2_11 hx hb dX7_forward_26 rfl rfl ?_
            refine w_iald (v := f2 ((nI k).toNatClampNeg)) hx hb hK hP 1 rfl dX7_forward_27 (vp_in_nI (show k < 7 by omega) (by decide)) rfl ?_
            refine lv_iconst (v := 1) hx hb dX7_forward_28 (by decide) ?_
            refine w_iadd (v := (f2 ((nI k).toNatClampNeg)) + (1 : Int32)) hx hb dX7_forward_29 rfl ?_
            obtain ⟨f_4, ef_4⟩ : ∃ z, z = upd f2 (nI k).toNatClampNeg ((f2 ((nI k).toNatClampNeg)) + (1 : Int32)) := ⟨_, rfl⟩
            refine w_iast (f' := f_4) hx hb hK hP hD hS 1 rfl dX7_forward_30 (vp_in_nI (show k < 7 by omega) (by decide)) ef_4.symm (fun H locs hP hD hS => ?_)
            have hP : va_P g vwCl [(o, .inr (7, [.ref a, .int (nI N)])), (a, .inl (cT 0, 7, .inl f_4))] H := hP
            have hD : va_D A [(o, .inr (7, [.ref a, .int (nI N)])), (a, .inl (cT 0, 7, .inl f_4))] := hD
            exact rt_v hx hb hr hlocks hQ hP hD hS f_4 [0, 1] dX7_forward_31 (Nat.le_of_ble_eq_true rfl) (Nat.le_of_ble_eq_true rfl) rfl (by decide) trivial
    exact loop_1 _ N f (Nat.le_refl _) (Nat.lt_succ_self _) _ _ (hP.sub [0, 1] rfl) (hD.sub [0, 1] (by decide) rfl) hS ls (lv_sub hl [0, 1] rfl)
  rw [hH, hlo] at hgo
  exact hgo
