abbrev rm_c_Ki_entry : Room := { frames := 0, cells := 0, slots := 0, locals := 0 }
set_option maxHeartbeats 4000000 in
set_option maxRecDepth 100000 in
theorem c_Ki_entry (l : Launch) (g : va_G) (cT : Nat → ClassId) (sz : Nat) (t : Int64) (sd : Int32) (q : Int32)  : Ctr l g cT sz yX3_entry wsX3_entry rm_c_Ki_entry [.long t, .int sd, .int q] [] (QI g (fun (r : Int32) (u : Unit) => r = ((t >>> (((4 : Int32) * (sd * (5 : Int32) + q)).toInt64 &&& 63)) &&& (15 : Int64)).toInt32) (fun (u : Unit) => [])) 0 0 := by
  refine mk_ctr (cc := cX3_entry) (maxL := 4) (ret := (some .int)) (by decide) rfl (Nat.le_of_ble_eq_true rfl) ?_
  intro p e s m args below meth c A Q hx hb hr hts hown hlocks hin hml hP hK hD hN hZ hA hS hQ ls hl
  have hl : lv_has ls 4 [(0, .long t), (2, .int sd), (3, .int q)] := hl
  obtain ⟨H, hH⟩ : ∃ H : Heap, H = s.heap := ⟨_, rfl⟩
  obtain ⟨locs, hlo⟩ : ∃ x : List Loc, x = [] := ⟨_, rfl⟩
  rw [← hH] at hP
  have hS : va_S A s.heap H locs := by rw [hH, hlo]; exact hS
  have hgo : W p l e rm_c_Ki_entry s m args below meth c H locs 0 0 Q (F0 m 0 ls []) := by
    clear hH hlo
    refine lv_lload_n hx hb dX3_entry_0 rfl (lv_at hl 0 rfl) ?_
    refine lv_iconst (v := 4) hx hb dX3_entry_1 (by decide) ?_
    refine lv_iload_n hx hb dX3_entry_2 rfl (lv_at hl 1 rfl) ?_
    refine lv_iconst (v := 5) hx hb dX3_entry_3 (by decide) ?_
    refine w_imul (v := sd * (5 : Int32)) hx hb dX3_entry_4 rfl ?_
    refine lv_iload_n hx hb dX3_entry_5 rfl (lv_at hl 2 rfl) ?_
    refine w_iadd (v := (sd * (5 : Int32)) + q) hx hb dX3_entry_6 rfl ?_
    refine w_imul (v := (4 : Int32) * ((sd * (5 : Int32)) + q)) hx hb dX3_entry_7 rfl ?_
    refine lv_lshr (v := t >>> (((4 : Int32) * ((sd * (5 : Int32)) + q)).toInt64 &&& 63)) hx hb dX3_entry_8 rfl ?_
    refine lv_ldc2 (v := 15) hx hb hown (hts (.constantLong RX3 67 (15)) (by decide +kernel)) dX3_entry_9 ?_
    refine w_land (v := (t >>> (((4 : Int32) * ((sd * (5 : Int32)) + q)).toInt64 &&& 63)) &&& (15 : Int64)) hx hb dX3_entry_12 rfl ?_
    refine lv_l2i (v := ((t >>> (((4 : Int32) * ((sd * (5 : Int32)) + q)).toInt64 &&& 63)) &&& (15 : Int64)).toInt32) hx hb dX3_entry_13 rfl ?_
    exact rt_i hx hb hr hlocks hQ hP hD hS () [] dX3_entry_14 rfl (Nat.le_of_ble_eq_true rfl) (Nat.le_of_ble_eq_true rfl) rfl (by decide) (by first | rfl | decide)
  rw [hH, hlo] at hgo
  exact hgo
abbrev rm_c_Ki_placed : Room := { frames := 0, cells := 0, slots := 0, locals := 0 }
set_option maxHeartbeats 4000000 in
set_option maxRecDepth 100000 in
theorem c_Ki_placed (l : Launch) (g : va_G) (cT : Nat → ClassId) (sz : Nat) (t : Int32) (sd : Int32) (q : Int32)  : Ctr l g cT sz yX3_placed wsX3_placed rm_c_Ki_placed [.int t, .int sd, .int q] [] (QL g (fun (r : Int64) (u : Unit) => r = (t.toInt64 <<< (((4 : Int32) * (sd * (5 : Int32) + q)).toInt64 &&& 63))) (fun (u : Unit) => [])) 0 0 := by
  refine mk_ctr (cc := cX3_placed) (maxL := 3) (ret := (some .long)) (by decide) rfl (Nat.le_of_ble_eq_true rfl) ?_
  intro p e s m args below meth c A Q hx hb hr hts hown hlocks hin hml hP hK hD hN hZ hA hS hQ ls hl
  have hl : lv_has ls 3 [(0, .int t), (1, .int sd), (2, .int q)] := hl
  obtain ⟨H, hH⟩ : ∃ H : Heap, H = s.heap := ⟨_, rfl⟩
  obtain ⟨locs, hlo⟩ : ∃ x : List Loc, x = [] := ⟨_, rfl⟩
  rw [← hH] at hP
  have hS : va_S A s.heap H locs := by rw [hH, hlo]; exact hS
  have hgo : W p l e rm_c_Ki_placed s m args below meth c H locs 0 0 Q (F0 m 0 ls []) := by
    clear hH hlo
    refine lv_iload_n hx hb dX3_placed_0 rfl (lv_at hl 0 rfl) ?_
    refine lv_i2l (v := t.toInt64) hx hb dX3_placed_1 rfl ?_
    refine lv_iconst (v := 4) hx hb dX3_placed_2 (by decide) ?_
    refine lv_iload_n hx hb dX3_placed_3 rfl (lv_at hl 1 rfl) ?_
    refine lv_iconst (v := 5) hx hb dX3_placed_4 (by decide) ?_
    refine w_imul (v := sd * (5 : Int32)) hx hb dX3_placed_5 rfl ?_
    refine lv_iload_n hx hb dX3_placed_6 rfl (lv_at hl 2 rfl) ?_
    refine w_iadd (v := (sd * (5 : Int32)) + q) hx hb dX3_placed_7 rfl ?_
    refine w_imul (v := (4 : Int32) * ((sd * (5 : Int32)) + q)) hx hb dX3_placed_8 rfl ?_
    refine lv_lshl (v := t.toInt64 <<< (((4 : Int32) * ((sd * (5 : Int32)) + q)).toInt64 &&& 63)) hx hb dX3_placed_9 rfl ?_
    exact rt_l hx hb hr hlocks hQ hP hD hS () [] dX3_placed_10 (Nat.le_of_ble_eq_true rfl) (Nat.le_of_ble_eq_true rfl) rfl (by decide) (by first | rfl | decide)
  rw [hH, hlo] at hgo
  exact hgo
abbrev rm_c_Ki_leavingLetter : Room := { frames := 0, cells := 0, slots := 0, locals := 0 }
set_option maxHeartbeats 4000000 in
set_option maxRecDepth 100000 in
theorem c_Ki_leavingLetter (l : Launch) (g : va_G) (cT : Nat → ClassId) (sz : Nat)   : Ctr l g cT sz yX3_leavingLetter wsX3_leavingLetter rm_c_Ki_leavingLetter [.int (-1)] [] (QI g (fun (r : Int32) (u : Unit) => r = 10) (fun (u : Unit) => [])) 0 0 := by
  refine mk_ctr (cc := cX3_leavingLetter) (maxL := 1) (ret := (some .int)) (by decide) rfl (Nat.le_of_ble_eq_true rfl) ?_
  intro p e s m args below meth c A Q hx hb hr hts hown hlocks hin hml hP hK hD hN hZ hA hS hQ ls hl
  have hl : lv_has ls 1 [(0, .int (-1))] := hl
  obtain ⟨H, hH⟩ : ∃ H : Heap, H = s.heap := ⟨_, rfl⟩
  obtain ⟨locs, hlo⟩ : ∃ x : List Loc, x = [] := ⟨_, rfl⟩
  rw [← hH] at hP
  have hS : va_S A s.heap H locs := by rw [hH, hlo]; exact hS
  have hgo : W p l e rm_c_Ki_leavingLetter s m args below meth c H locs 0 0 Q (F0 m 0 ls []) := by
    clear hH hlo
    refine lv_iload_n hx hb dX3_leavingLetter_0 rfl (lv_at hl 0 rfl) ?_
    refine lv_iconst (v := (-1)) hx hb dX3_leavingLetter_1 (by decide) ?_
    refine icmp_ne_f hx hb dX3_leavingLetter_2 10 (by decide) (by decide) ?_
    refine lv_bipush (v := 10) hx hb dX3_leavingLetter_5 (by decide) ?_
    refine lv_goto (tgt := 29) hx hb dX3_leavingLetter_7 (by decide) ?_
    exact rt_i hx hb hr hlocks hQ hP hD hS () [] dX3_leavingLetter_29 rfl (Nat.le_of_ble_eq_true rfl) (Nat.le_of_ble_eq_true rfl) rfl (by decide) rfl
  rw [hH, hlo] at hgo
  exact hgo
theorem hi_X3_tableOfLetter_X6 : ∀ w ∈ wsX60, w ∈ wsX3_tableOfLetter := fun _ h => List.mem_cons_of_mem _ (List.mem_append_right _ h)
theorem yd_X3_leavingLetter : yX3_leavingLetter.cls = RX3 ∧ yX3_leavingLetter.cls ≠ "java/lang/invoke/MethodHandle" ∧ yX3_leavingLetter.cls ≠ "java/lang/invoke/VarHandle" ∧ (parseMethodDescriptor yX3_leavingLetter.desc).map (fun d => d.parameters.length) = some 1 := by decide +kernel
theorem yd_X3_placed : yX3_placed.cls = RX3 ∧ yX3_placed.cls ≠ "java/lang/invoke/MethodHandle" ∧ yX3_placed.cls ≠ "java/lang/invoke/VarHandle" ∧ (parseMethodDescriptor yX3_placed.desc).map (fun d => d.parameters.length) = some 3 := by decide +kernel
abbrev rm_c_Ki_tableOfLetter : Room := { frames := 1, cells := 0, slots := 0, locals := 23 }
set_option maxHeartbeats 4000000 in
set_option maxRecDepth 100000 in
theorem c_Ki_tableOfLetter (l : Launch) (g : va_G) (cT : Nat → ClassId) (sz : Nat) (o6 : Nat) (a6 : Nat) (z : Int32)  : Ctr l g cT sz yX3_tableOfLetter wsX3_tableOfLetter rm_c_Ki_tableOfLetter [.ref o6, .int z] [(o6, .inr (6, [.int 1, .int 0, .int 0, .int 0, .ref a6])), (a6, .inl (cT 0, 25, .inl (fun _ => (-1))))] (QL g (fun (r : Int64) (u : Unit) => r = 10485770) (fun (u : Unit) => [(o6, .inr (6, [.int 1, .int 0, .int 0, .int 0, .ref a6])), (a6, .inl (cT 0, 25, .inl (fun _ => (-1))))])) 0 0 := by
  refine mk_ctr (cc := cX3_tableOfLetter) (maxL := 6) (ret := (some .long)) (by decide) rfl (Nat.le_of_ble_eq_true rfl) ?_
  intro p e s m args below meth c A Q hx hb hr hts hown hlocks hin hml hP hK hD hN hZ hA hS hQ ls hl
  have hl : lv_has ls 6 [(0, .ref o6), (1, .int z)] := hl
  obtain ⟨H, hH⟩ : ∃ H : Heap, H = s.heap := ⟨_, rfl⟩
  obtain ⟨locs, hlo⟩ : ∃ x : List Loc, x = [] := ⟨_, rfl⟩
  rw [← hH] at hP
  have hS : va_S A s.heap H locs := by rw [hH, hlo]; exact hS
  have hgo : W p l e rm_c_Ki_tableOfLetter s m args below meth c H locs 0 0 Q (F0 m 0 ls []) := by
    clear hH hlo
    refine lv_lconst (v := 0) hx hb dX3_tableOfLetter_0 (by decide) ?_
    refine lv_lstore_n (lv' := [(2, .long 0), (0, .ref o6), (1, .int z)]) hx hb dX3_tableOfLetter_1 rfl hl (by decide) rfl (fun ls hl => ?_)
    refine lv_iconst (v := 0) hx hb dX3_tableOfLetter_2 (by decide) ?_
    refine lv_istore (lv' := [(4, .int 0), (2, .long 0), (0, .ref o6), (1, .int z)]) hx hb dX3_tableOfLetter_3 hl (by decide) rfl (fun ls hl => ?_)
    refine lv_iload hx hb dX3_tableOfLetter_5 (lv_at hl 0 rfl) ?_
    refine lv_aload_n hx hb dX3_tableOfLetter_7 rfl (lv_at hl 2 rfl) ?_
    refine va_getN (C := RX6) (T := TX6) (N := 5) (v := .int 1) hx hb hts hi_X3_tableOfLetter_X6 hown hK hP 0 rfl rfl 0 (by decide) (nf_11 hN) (fun _ h => h) rfl dX3_tableOfLetter_8 ?_
    refine icmp_ge_f hx hb dX3_tableOfLetter_11 52 (by decide) (by decide) ?_
    refine lv_aload_n hx hb dX3_tableOfLetter_14 rfl (lv_at hl 2 rfl) ?_
    refine lv_iload hx hb dX3_tableOfLetter_15 (lv_at hl 0 rfl) ?_
    refine lv_iload_n hx hb dX3_tableOfLetter_17 rfl (lv_at hl 3 rfl) ?_
    refine cj_i 0 0 (wr := []) (va_runV (As := [.int 0, .int z]) (rest := []) ⟨hx, hb, hml, hown, hts⟩ (c_R_moveOf l g cT H.size o6 a6 0 0 z) (cwV 2 hts gX3_tableOfLetter_X6_moveOf rfl rfl rfl yd_X6_moveOf ⟨(Nat.le_of_ble_eq_true rfl), (Nat.le_of_ble_eq_true rfl)⟩) (preV (wc := [(o6, .inr (6, [.int 1, .int 0, .int 0, .int 0, .ref a6])), (a6, .inl (cT 0, 25, .inl (fun _ => (-1))))]) rfl hP hD hK hN hZ hS hA [0, 1] rfl (by decide) (ci := 6) (q0 := 0) rfl rfl) rfl rfl hl.1 rfl (lv_room (Nat.le_of_ble_eq_true rfl)) dX3_tableOfLetter_18 ⟨(Nat.le_of_ble_eq_true rfl), (Nat.le_of_ble_eq_true rfl)⟩) hP hD hS hA [0, 1] [] rfl rfl (by decide) (by decide) (Nat.le_of_ble_eq_true rfl) (Nat.le_of_ble_eq_true rfl) (fun r_1 u H locs h_2 hP hD hS => ?_)
    have hP : va_P g vwCl [(o6, .inr (6, [.int 1, .int 0, .int 0, .int 0, .ref a6])), (a6, .inl (cT 0, 25, .inl (fun _ => (-1))))] H := hP
    have hD : va_D A [(o6, .inr (6, [.int 1, .int 0, .int 0, .int 0, .ref a6])), (a6, .inl (cT 0, 25, .inl (fun _ => (-1))))] := hD
    subst h_2
    refine cp_i (va_runS (As := [.int (-1)]) (rest := []) ⟨hx, hb, hml, hown, hts⟩ (c_Ki_leavingLetter l g cT H.size) (va_cwS 1 hts gX3_tableOfLetter_X3_leavingLetter rfl rfl rfl yd_X3_leavingLetter.2 ⟨(Nat.le_of_ble_eq_true rfl), (Nat.le_of_ble_eq_true rfl)⟩) (preS (ws := []) (wc := []) rfl (fun _ _ h => by simp at h) (va_D_nil (A := A)) hK hN hZ hS hA [] rfl rfl) rfl rfl hl.1 rfl (lv_room (Nat.le_of_ble_eq_true rfl)) dX3_tableOfLetter_21 ⟨(Nat.le_of_ble_eq_true rfl), (Nat.le_of_ble_eq_true rfl)⟩) hP hS hA (fun r_3 u H locs h_4 hP hS => ?_)
    subst h_4
    refine lv_istore (lv' := [(5, .int 10), (4, .int 0), (2, .long 0), (0, .ref o6), (1, .int z)]) hx hb dX3_tableOfLetter_24 hl (by decide) rfl (fun ls hl => ?_)
    refine lv_lload_n hx hb dX3_tableOfLetter_26 rfl (lv_at hl 2 rfl) ?_
    refine lv_iload hx hb dX3_tableOfLetter_27 (lv_at hl 0 rfl) ?_
    refine lv_iconst (v := 0) hx hb dX3_tableOfLetter_29 (by decide) ?_
    refine lv_iload hx hb dX3_tableOfLetter_30 (lv_at hl 1 rfl) ?_
    refine cp_l (va_runS (As := [.int 10, .int 0, .int 0]) (rest := [.long 0]) ⟨hx, hb, hml, hown, hts⟩ (c_Ki_placed l g cT H.size 10 0 0) (va_cwS 3 hts gX3_tableOfLetter_X3_placed rfl rfl rfl yd_X3_placed.2 ⟨(Nat.le_of_ble_eq_true rfl), (Nat.le_of_ble_eq_true rfl)⟩) (preS (ws := []) (wc := []) rfl (fun _ _ h => by simp at h) (va_D_nil (A := A)) hK hN hZ hS hA [] rfl rfl) rfl rfl hl.1 rfl (lv_room (Nat.le_of_ble_eq_true rfl)) dX3_tableOfLetter_32 ⟨(Nat.le_of_ble_eq_true rfl), (Nat.le_of_ble_eq_true rfl)⟩) hP hS hA (fun r_5 u H locs h_6 hP hS => ?_)
    subst h_6
    refine tJ 10 (by decide) ?_
    refine lv_iload hx hb dX3_tableOfLetter_35 (lv_at hl 0 rfl) ?_
    refine lv_iconst (v := 1) hx hb dX3_tableOfLetter_37 (by decide) ?_
    refine lv_iload hx hb dX3_tableOfLetter_38 (lv_at hl 1 rfl) ?_
    refine cp_l (va_runS (As := [.int 10, .int 1, .int 0]) (rest := [.long 10, .long 0]) ⟨hx, hb, hml, hown, hts⟩ (c_Ki_placed l g cT H.size 10 1 0) (va_cwS 3 hts gX3_tableOfLetter_X3_placed rfl rfl rfl yd_X3_placed.2 ⟨(Nat.le_of_ble_eq_true rfl), (Nat.le_of_ble_eq_true rfl)⟩) (preS (ws := []) (wc := []) rfl (fun _ _ h => by simp at h) (va_D_nil (A := A)) hK hN hZ hS hA [] rfl rfl) rfl rfl hl.1 rfl (lv_room (Nat.le_of_ble_eq_true rfl)) dX3_tableOfLetter_40 ⟨(Nat.le_of_ble_eq_true rfl), (Nat.le_of_ble_eq_true rfl)⟩) hP hS hA (fun r_7 u H locs h_8 hP hS => ?_)
    subst h_8
    refine tJ 10485760 (by decide) ?_
    refine w_lor (v := 10485770) hx hb dX3_tableOfLetter_43 (by decide) ?_
    refine w_lor (v := 10485770) hx hb dX3_tableOfLetter_44 (by decide) ?_
    refine lv_lstore_n (lv' := [(2, .long 10485770), (5, .int 10), (4, .int 0), (0, .ref o6), (1, .int z)]) hx hb dX3_tableOfLetter_45 rfl hl (by decide) rfl (fun ls hl => ?_)
    refine lv_iinc (v := 1) (lv' := [(4, .int 1), (2, .long 10485770), (5, .int 10), (0, .ref o6), (1, .int z)]) hx hb dX3_tableOfLetter_46 hl (k := 2) rfl (by decide) (by decide) rfl (fun ls hl => ?_)
    refine lv_goto (tgt := 5) hx hb dX3_tableOfLetter_49 (by decide) ?_
    refine lv_iload hx hb dX3_tableOfLetter_5 (lv_at hl 0 rfl) ?_
    refine lv_aload_n hx hb dX3_tableOfLetter_7 rfl (lv_at hl 3 rfl) ?_
    refine va_getN (C := RX6) (T := TX6) (N := 5) (v := .int 1) hx hb hts hi_X3_tableOfLetter_X6 hown hK hP 0 rfl rfl 0 (by decide) (nf_11 hN) (fun _ h => h) rfl dX3_tableOfLetter_8 ?_
    refine icmp_ge_t hx hb 52 dX3_tableOfLetter_11 (by decide) (by decide) ?_
    refine lv_lload_n hx hb dX3_tableOfLetter_52 rfl (lv_at hl 1 rfl) ?_
    exact rt_l hx hb hr hlocks hQ hP hD hS () [0, 1] dX3_tableOfLetter_53 (Nat.le_of_ble_eq_true rfl) (Nat.le_of_ble_eq_true rfl) rfl (by decide) rfl
  rw [hH, hlo] at hgo
  exact hgo
abbrev rm_c_Ki_leaving : Room := { frames := 0, cells := 0, slots := 0, locals := 0 }
set_option maxHeartbeats 4000000 in
set_option maxRecDepth 100000 in
theorem c_Ki_leaving (l : Launch) (g : va_G) (cT : Nat → ClassId) (sz : Nat) (x1 : Int64) (x2 : Int64) (y : Int32)  : Ctr l g cT sz yX3_leaving wsX3_leaving rm_c_Ki_leaving [.long x1, .long x2, .int y, .int 10] [] (QI g (fun (r : Int32) (u : Unit) => r = 10) (fun (u : Unit) => [])) 0 0 := by
  refine mk_ctr (cc := cX3_leaving) (maxL := 10) (ret := (some .int)) (by decide) rfl (Nat.le_of_ble_eq_true rfl) ?_
  intro p e s m args below meth c A Q hx hb hr hts hown hlocks hin hml hP hK hD hN hZ hA hS hQ ls hl
  have hl : lv_has ls 10 [(0, .long x1), (2, .long x2), (4, .int y), (5, .int 10)] := hl
  obtain ⟨H, hH⟩ : ∃ H : Heap, H = s.heap := ⟨_, rfl⟩
  obtain ⟨locs, hlo⟩ : ∃ x : List Loc, x = [] := ⟨_, rfl⟩
  rw [← hH] at hP
  have hS : va_S A s.heap H locs := by rw [hH, hlo]; exact hS
  have hgo : W p l e rm_c_Ki_leaving s m args below meth c H locs 0 0 Q (F0 m 0 ls []) := by
    clear hH hlo
    refine lv_iload hx hb dX3_leaving_0 (lv_at hl 2 rfl) ?_
    refine lv_istore (lv' := [(6, .int y), (0, .long x1), (2, .long x2), (4, .int y), (5, .int 10)]) hx hb dX3_leaving_2 hl (by decide) rfl (fun ls hl => ?_)
    refine lv_iload hx hb dX3_leaving_4 (lv_at hl 4 rfl) ?_
    refine lv_istore (lv' := [(7, .int 10), (6, .int y), (0, .long x1), (2, .long x2), (4, .int y), (5, .int 10)]) hx hb dX3_leaving_6 hl (by decide) rfl (fun ls hl => ?_)
    refine lv_iconst (v := 0) hx hb dX3_leaving_8 (by decide) ?_
    refine lv_istore (lv' := [(8, .int 0), (7, .int 10), (6, .int y), (0, .long x1), (2, .long x2), (4, .int y), (5, .int 10)]) hx hb dX3_leaving_9 hl (by decide) rfl (fun ls hl => ?_)
    refine lv_iload hx hb dX3_leaving_11 (lv_at hl 0 rfl) ?_
    refine lv_bipush (v := 10) hx hb dX3_leaving_13 (by decide) ?_
    refine icmp_gt_f hx hb dX3_leaving_15 96 (by decide) (by decide) ?_
    refine lv_iload hx hb dX3_leaving_18 (lv_at hl 1 rfl) ?_
    refine lv_iconst (v := 1) hx hb dX3_leaving_20 (by decide) ?_
    refine w_iand (v := 0) hx hb dX3_leaving_21 (by decide) ?_
    refine lv_iconst (v := 1) hx hb dX3_leaving_22 (by decide) ?_
    refine icmp_ne_t hx hb 30 dX3_leaving_23 (by decide) (by decide) ?_
    refine lv_iconst (v := 0) hx hb dX3_leaving_30 (by decide) ?_
    refine lv_istore (lv' := [(9, .int 0), (8, .int 0), (7, .int 10), (6, .int y), (0, .long x1), (2, .long x2), (4, .int y), (5, .int 10)]) hx hb dX3_leaving_31 hl (by decide) rfl (fun ls hl => ?_)
    refine lv_iload hx hb dX3_leaving_33 (lv_at hl 2 rfl) ?_
    refine lv_bipush (v := 10) hx hb dX3_leaving_35 (by decide) ?_
    refine icmp_ge_t hx hb 47 dX3_leaving_37 (by decide) (by decide) ?_
    refine lv_iload hx hb dX3_leaving_47 (lv_at hl 2 rfl) ?_
    exact rt_i hx hb hr hlocks hQ hP hD hS () [] dX3_leaving_49 rfl (Nat.le_of_ble_eq_true rfl) (Nat.le_of_ble_eq_true rfl) rfl (by decide) rfl
  rw [hH, hlo] at hgo
  exact hgo
theorem hi_X3_joined_X6 : ∀ w ∈ wsX60, w ∈ wsX3_joined := fun _ h => List.mem_cons_of_mem _ (List.mem_append_right _ h)
theorem yd_X3_entry : yX3_entry.cls = RX3 ∧ yX3_entry.cls ≠ "java/lang/invoke/MethodHandle" ∧ yX3_entry.cls ≠ "java/lang/invoke/VarHandle" ∧ (parseMethodDescriptor yX3_entry.desc).map (fun d => d.parameters.length) = some 3 := by decide +kernel
theorem yd_X3_leaving : yX3_leaving.cls = RX3 ∧ yX3_leaving.cls ≠ "java/lang/invoke/MethodHandle" ∧ yX3_leaving.cls ≠ "java/lang/invoke/VarHandle" ∧ (parseMethodDescriptor yX3_leaving.desc).map (fun d => d.parameters.length) = some 4 := by decide +kernel
abbrev rm_c_Ki_joined : Room := { frames := 1, cells := 0, slots := 0, locals := 29 }
set_option maxHeartbeats 4000000 in
set_option maxRecDepth 100000 in
theorem c_Ki_joined (l : Launch) (g : va_G) (cT : Nat → ClassId) (sz : Nat) (o6 : Nat) (a6 : Nat)  : Ctr l g cT sz yX3_joined wsX3_joined rm_c_Ki_joined [.ref o6, .long 10485770, .long 10485770] [(o6, .inr (6, [.int 1, .int 0, .int 0, .int 0, .ref a6])), (a6, .inl (cT 0, 25, .inl (fun _ => (-1))))] (QL g (fun (r : Int64) (u : Unit) => r = 10485770) (fun (u : Unit) => [(o6, .inr (6, [.int 1, .int 0, .int 0, .int 0, .ref a6])), (a6, .inl (cT 0, 25, .inl (fun _ => (-1))))])) 0 0 := by
  refine mk_ctr (cc := cX3_joined) (maxL := 8) (ret := (some .long)) (by decide) rfl (Nat.le_of_ble_eq_true rfl) ?_
  intro p e s m args below meth c A Q hx hb hr hts hown hlocks hin hml hP hK hD hN hZ hA hS hQ ls hl
  have hl : lv_has ls 8 [(0, .ref o6), (1, .long 10485770), (3, .long 10485770)] := hl
  obtain ⟨H, hH⟩ : ∃ H : Heap, H = s.heap := ⟨_, rfl⟩
  obtain ⟨locs, hlo⟩ : ∃ x : List Loc, x = [] := ⟨_, rfl⟩
  rw [← hH] at hP
  have hS : va_S A s.heap H locs := by rw [hH, hlo]; exact hS
  have hgo : W p l e rm_c_Ki_joined s m args below meth c H locs 0 0 Q (F0 m 0 ls []) := by
    clear hH hlo
    refine lv_lconst (v := 0) hx hb dX3_joined_0 (by decide) ?_
    refine lv_lstore (lv' := [(5, .long 0), (0, .ref o6), (1, .long 10485770), (3, .long 10485770)]) hx hb dX3_joined_1 hl (by decide) rfl (fun ls hl => ?_)
    refine lv_iconst (v := 0) hx hb dX3_joined_3 (by decide) ?_
    refine lv_istore (lv' := [(7, .int 0), (5, .long 0), (0, .ref o6), (1, .long 10485770), (3, .long 10485770)]) hx hb dX3_joined_4 hl (by decide) rfl (fun ls hl => ?_)
    refine lv_iload hx hb dX3_joined_6 (lv_at hl 0 rfl) ?_
    refine lv_aload_n hx hb dX3_joined_8 rfl (lv_at hl 2 rfl) ?_
    refine va_getN (C := RX6) (T := TX6) (N := 5) (v := .int 1) hx hb hts hi_X3_joined_X6 hown hK hP 0 rfl rfl 0 (by decide) (nf_11 hN) (fun _ h => h) rfl dX3_joined_9 ?_
    refine icmp_ge_f hx hb dX3_joined_12 69 (by decide) (by decide) ?_
    refine lv_lload hx hb dX3_joined_15 (lv_at hl 1 rfl) ?_
    refine lv_lload_n hx hb dX3_joined_17 rfl (lv_at hl 3 rfl) ?_
    refine lv_lload_n hx hb dX3_joined_18 rfl (lv_at hl 4 rfl) ?_
    refine lv_iconst (v := 1) hx hb dX3_joined_19 (by decide) ?_
    refine lv_lload_n hx hb dX3_joined_20 rfl (lv_at hl 3 rfl) ?_
    refine lv_iconst (v := 0) hx hb dX3_joined_21 (by decide) ?_
    refine lv_iload hx hb dX3_joined_22 (lv_at hl 0 rfl) ?_
    refine cp_i (va_runS (As := [.long 10485770, .int 0, .int 0]) (rest := [.int 1, .long 10485770, .long 10485770, .long 0]) ⟨hx, hb, hml, hown, hts⟩ (c_Ki_entry l g cT H.size 10485770 0 0) (va_cwS 3 hts gX3_joined_X3_entry rfl rfl rfl yd_X3_entry.2 ⟨(Nat.le_of_ble_eq_true rfl), (Nat.le_of_ble_eq_true rfl)⟩) (preS (ws := []) (wc := []) rfl (fun _ _ h => by simp at h) (va_D_nil (A := A)) hK hN hZ hS hA [] rfl rfl) rfl rfl hl.1 rfl (lv_room (Nat.le_of_ble_eq_true rfl)) dX3_joined_24 ⟨(Nat.le_of_ble_eq_true rfl), (Nat.le_of_ble_eq_true rfl)⟩) hP hS hA (fun r_1 u H locs h_2 hP hS => ?_)
    subst h_2
    refine tI 10 (by decide) ?_
    refine cp_i (va_runS (As := [.long 10485770, .long 10485770, .int 1, .int 10]) (rest := [.long 0]) ⟨hx, hb, hml, hown, hts⟩ (c_Ki_leaving l g cT H.size 10485770 10485770 1) (va_cwS 4 hts gX3_joined_X3_leaving rfl rfl rfl yd_X3_leaving.2 ⟨(Nat.le_of_ble_eq_true rfl), (Nat.le_of_ble_eq_true rfl)⟩) (preS (ws := []) (wc := []) rfl (fun _ _ h => by simp at h) (va_D_nil (A := A)) hK hN hZ hS hA [] rfl rfl) rfl rfl hl.1 rfl (lv_room (Nat.le_of_ble_eq_true rfl)) dX3_joined_27 ⟨(Nat.le_of_ble_eq_true rfl), (Nat.le_of_ble_eq_true rfl)⟩) hP hS hA (fun r_3 u H locs h_4 hP hS => ?_)
    subst h_4
    refine lv_iconst (v := 0) hx hb dX3_joined_30 (by decide) ?_
    refine lv_iload hx hb dX3_joined_31 (lv_at hl 0 rfl) ?_
    refine cp_l (va_runS (As := [.int 10, .int 0, .int 0]) (rest := [.long 0]) ⟨hx, hb, hml, hown, hts⟩ (c_Ki_placed l g cT H.size 10 0 0) (va_cwS 3 hts gX3_joined_X3_placed rfl rfl rfl yd_X3_placed.2 ⟨(Nat.le_of_ble_eq_true rfl), (Nat.le_of_ble_eq_true rfl)⟩) (preS (ws := []) (wc := []) rfl (fun _ _ h => by simp at h) (va_D_nil (A := A)) hK hN hZ hS hA [] rfl rfl) rfl rfl hl.1 rfl (lv_room (Nat.le_of_ble_eq_true rfl)) dX3_joined_33 ⟨(Nat.le_of_ble_eq_true rfl), (Nat.le_of_ble_eq_true rfl)⟩) hP hS hA (fun r_5 u H locs h_6 hP hS => ?_)
    subst h_6
    refine tJ 10 (by decide) ?_
    refine w_lor (v := 10) hx hb dX3_joined_36 (by decide) ?_
    refine lv_lstore (lv' := [(5, .long 10), (7, .int 0), (0, .ref o6), (1, .long 10485770), (3, .long 10485770)]) hx hb dX3_joined_37 hl (by decide) rfl (fun ls hl => ?_)
    refine lv_lload hx hb dX3_joined_39 (lv_at hl 0 rfl) ?_
    refine lv_lload_n hx hb dX3_joined_41 rfl (lv_at hl 3 rfl) ?_
    refine lv_lload_n hx hb dX3_joined_42 rfl (lv_at hl 4 rfl) ?_
    refine lv_iconst (v := 0) hx hb dX3_joined_43 (by decide) ?_
    refine lv_lload_n hx hb dX3_joined_44 rfl (lv_at hl 4 rfl) ?_
    refine lv_iconst (v := 1) hx hb dX3_joined_45 (by decide) ?_
    refine lv_iload hx hb dX3_joined_46 (lv_at hl 1 rfl) ?_
    refine cp_i (va_runS (As := [.long 10485770, .int 1, .int 0]) (rest := [.int 0, .long 10485770, .long 10485770, .long 10]) ⟨hx, hb, hml, hown, hts⟩ (c_Ki_entry l g cT H.size 10485770 1 0) (va_cwS 3 hts gX3_joined_X3_entry rfl rfl rfl yd_X3_entry.2 ⟨(Nat.le_of_ble_eq_true rfl), (Nat.le_of_ble_eq_true rfl)⟩) (preS (ws := []) (wc := []) rfl (fun _ _ h => by simp at h) (va_D_nil (A := A)) hK hN hZ hS hA [] rfl rfl) rfl rfl hl.1 rfl (lv_room (Nat.le_of_ble_eq_true rfl)) dX3_joined_48 ⟨(Nat.le_of_ble_eq_true rfl), (Nat.le_of_ble_eq_true rfl)⟩) hP hS hA (fun r_7 u H locs h_8 hP hS => ?_)
    subst h_8
    refine tI 10 (by decide) ?_
    refine cp_i (va_runS (As := [.long 10485770, .long 10485770, .int 0, .int 10]) (rest := [.long 10]) ⟨hx, hb, hml, hown, hts⟩ (c_Ki_leaving l g cT H.size 10485770 10485770 0) (va_cwS 4 hts gX3_joined_X3_leaving rfl rfl rfl yd_X3_leaving.2 ⟨(Nat.le_of_ble_eq_true rfl), (Nat.le_of_ble_eq_true rfl)⟩) (preS (ws := []) (wc := []) rfl (fun _ _ h => by simp at h) (va_D_nil (A := A)) hK hN hZ hS hA [] rfl rfl) rfl rfl hl.1 rfl (lv_room (Nat.le_of_ble_eq_true rfl)) dX3_joined_51 ⟨(Nat.le_of_ble_eq_true rfl), (Nat.le_of_ble_eq_true rfl)⟩) hP hS hA (fun r_9 u H locs h_10 hP hS => ?_)
    subst h_10
    refine lv_iconst (v := 1) hx hb dX3_joined_54 (by decide) ?_
    refine lv_iload hx hb dX3_joined_55 (lv_at hl 1 rfl) ?_
    refine cp_l (va_runS (As := [.int 10, .int 1, .int 0]) (rest := [.long 10]) ⟨hx, hb, hml, hown, hts⟩ (c_Ki_placed l g cT H.size 10 1 0) (va_cwS 3 hts gX3_joined_X3_placed rfl rfl rfl yd_X3_placed.2 ⟨(Nat.le_of_ble_eq_true rfl), (Nat.le_of_ble_eq_true rfl)⟩) (preS (ws := []) (wc := []) rfl (fun _ _ h => by simp at h) (va_D_nil (A := A)) hK hN hZ hS hA [] rfl rfl) rfl rfl hl.1 rfl (lv_room (Nat.le_of_ble_eq_true rfl)) dX3_joined_57 ⟨(Nat.le_of_ble_eq_true rfl), (Nat.le_of_ble_eq_true rfl)⟩) hP hS hA (fun r_11 u H locs h_12 hP hS => ?_)
    subst h_12
    refine tJ 10485760 (by decide) ?_
    refine w_lor (v := 10485770) hx hb dX3_joined_60 (by decide) ?_
    refine lv_lstore (lv' := [(5, .long 10485770), (7, .int 0), (0, .ref o6), (1, .long 10485770), (3, .long 10485770)]) hx hb dX3_joined_61 hl (by decide) rfl (fun ls hl => ?_)
    refine lv_iinc (v := 1) (lv' := [(7, .int 1), (5, .long 10485770), (0, .ref o6), (1, .long 10485770), (3, .long 10485770)]) hx hb dX3_joined_63 hl (k := 1) rfl (by decide) (by decide) rfl (fun ls hl => ?_)
    refine lv_goto (tgt := 6) hx hb dX3_joined_66 (by decide) ?_
    refine lv_iload hx hb dX3_joined_6 (lv_at hl 0 rfl) ?_
    refine lv_aload_n hx hb dX3_joined_8 rfl (lv_at hl 2 rfl) ?_
    refine va_getN (C := RX6) (T := TX6) (N := 5) (v := .int 1) hx hb hts hi_X3_joined_X6 hown hK hP 0 rfl rfl 0 (by decide) (nf_11 hN) (fun _ h => h) rfl dX3_joined_9 ?_
    refine icmp_ge_t hx hb 69 dX3_joined_12 (by decide) (by decide) ?_
    refine lv_lload hx hb dX3_joined_69 (lv_at hl 1 rfl) ?_
    exact rt_l hx hb hr hlocks hQ hP hD hS () [0, 1] dX3_joined_71 (Nat.le_of_ble_eq_true rfl) (Nat.le_of_ble_eq_true rfl) rfl (by decide) rfl
  rw [hH, hlo] at hgo
  exact hgo
theorem hi_X3_init_X1 : ∀ w ∈ wsX10, w ∈ wsX3_init := fun _ h => List.mem_cons_of_mem _ (List.mem_append_left _ (List.mem_append_left _ (List.mem_append_right _ h)))
theorem hi_X3_init_X3 : ∀ w ∈ wsX30, w ∈ wsX3_init := fun _ h => List.mem_cons_of_mem _ (List.mem_append_left _ (List.mem_append_right _ h))
theorem yd_X1_init : yX1_init.cls = RX1 ∧ yX1_init.cls ≠ "java/lang/invoke/MethodHandle" ∧ yX1_init.cls ≠ "java/lang/invoke/VarHandle" ∧ (parseMethodDescriptor yX1_init.desc).map (fun d => d.parameters.length) = some 1 := by decide +kernel
abbrev rm_c_Ki_init : Room := { frames := 3, cells := 8, slots := 5259, locals := 66 }
set_option maxHeartbeats 4000000 in
set_option maxRecDepth 100000 in
theorem c_Ki_init (l : Launch) (g : va_G) (cT : Nat → ClassId) (sz : Nat) (o : Nat) (o6 : Nat)  : Ctr l g cT sz yX3_init wsX3_init rm_c_Ki_init [.ref o, .ref o6] [(o, .inr (3, [.null, .null, .null, .int 0]))] (QV g (fun (u : Nat × Nat × Nat × Nat × Nat × Nat × Nat × Nat) => True) (fun (u : Nat × Nat × Nat × Nat × Nat × Nat × Nat × Nat) => [(o, .inr (3, [.ref o6, .ref u.2.1, .ref u.1, .int (-1)])), (u.1, .inl (cT 1, 3, .inr (.inl (fun _ => 0)))), (u.2.1, .inr (1, [.ref u.2.2.1, .ref u.2.2.2.2.2.1, .ref u.2.2.2.2.2.2.1, .ref u.2.2.2.2.2.2.2, .int 0])), (u.2.2.2.2.2.1, .inl (cT 0, 800, .inl (fun _ => 0))), (u.2.2.2.2.2.2.1, .inl (cT 0, 800, .inl (fun _ => 0))), (u.2.2.2.2.2.2.2, .inl (cT 0, 800, .inl (fun _ => 0))), (u.2.2.1, .inr (2, [.ref u.2.2.2.1, .ref u.2.2.2.2.1, .int 0])), (u.2.2.2.1, .inl (cT 1, 800, .inr (.inl (fun _ => 0)))), (u.2.2.2.2.1, .inl (cT 0, 2048, .inl (fun _ => 0)))])) 8 5259 := by
  refine mk_ctr (cc := cX3_init) (maxL := 2) (ret := none) (by decide) rfl (Nat.le_of_ble_eq_true rfl) ?_
  intro p e s m args below meth c A Q hx hb hr hts hown hlocks hin hml hP hK hD hN hZ hA hS hQ ls hl
  have hl : lv_has ls 2 [(0, .ref o), (1, .ref o6)] := hl
  obtain ⟨H, hH⟩ : ∃ H : Heap, H = s.heap := ⟨_, rfl⟩
  obtain ⟨locs, hlo⟩ : ∃ x : List Loc, x = [] := ⟨_, rfl⟩
  rw [← hH] at hP
  have hS : va_S A s.heap H locs := by rw [hH, hlo]; exact hS
  have hgo : W p l e rm_c_Ki_init s m args below meth c H locs 0 0 Q (F0 m 0 ls []) := by
    clear hH hlo
    refine lv_aload_n hx hb dX3_init_0 rfl (lv_at hl 0 rfl) ?_
    refine W.objInit hx hb hown (hts (.methodLink RX3 3 objectInit) (by decide +kernel)) (hts (.instanceMethod objectInit) (by decide +kernel)) (hts _ (List.mem_cons_of_mem _ (List.mem_append_left _ (List.mem_append_left _ (List.mem_append_left _ (List.mem_append_left _ (List.mem_of_getElem? (i := 2) rfl))))))) rfl (by rw [hml]; exact hl.1) rfl dX3_init_1 (Nat.le_of_ble_eq_true rfl) (Nat.le_of_ble_eq_true rfl) ?_
    refine W.eq (g2 := F0 m 4 ls []) rfl ?_
    refine lv_aload_n hx hb dX3_init_4 rfl (lv_at hl 0 rfl) ?_
    refine va_new (ci := 1) (fs := [.null, .null, .null, .null, .int 0]) (C := RX1) (T := TX1) (N := 5) hx hb hts hi_X3_init_X1 tyX1 tyX1_ok hown (hts (.classLink RX3 9 RX1) (by decide +kernel)) (hts (.instantiable RX1 5) (by decide +kernel)) (hts (.initialized RX1) (by decide +kernel)) hK hP hD hS hA rfl dv_X1 (Nat.le_of_ble_eq_true rfl) (Nat.le_of_ble_eq_true rfl) dX3_init_5 (fun q_1 H hP hD hS => ?_)
    have hP : va_P g vwCl [(o, .inr (3, [.null, .null, .null, .int 0])), (q_1, .inr (1, [.null, .null, .null, .null, .int 0]))] H := hP
    have hD : va_D A [(o, .inr (3, [.null, .null, .null, .int 0])), (q_1, .inr (1, [.null, .null, .null, .null, .int 0]))] := hD
    refine W.widen (k := 1) (n := 5) (Nat.le_of_ble_eq_true rfl) (Nat.le_of_ble_eq_true rfl) ?_
    refine lv_dup hx hb dX3_init_8 rfl ?_
    refine lv_sipush (v := 800) hx hb dX3_init_9 (by decide) ?_
    refine cj_v 7 5256 (wr := [(o, .inr (3, [.null, .null, .null, .int 0]))]) (va_runI (As := [.int 800]) (rest := [.ref q_1, .ref o]) ⟨hx, hb, hml, hown, hts⟩ (c_F_init_800 l g cT H.size q_1) (cwI 1 hts gX3_init_X1_init rfl rfl rfl (hts (.initialized RX1) (by decide +kernel)) (hts (.methodLink RX3 11 yX1_init) (by decide +kernel)) (hts (.instanceMethod yX1_init) (by decide +kernel)) rfl yd_X1_init.2 ⟨(Nat.le_of_ble_eq_true rfl), (Nat.le_of_ble_eq_true rfl)⟩) (preS (wc := [(q_1, .inr (1, [.null, .null, .null, .null, .int 0]))]) rfl hP hD hK hN hZ hS hA [1] rfl (by decide)) rfl rfl hl.1 rfl (lv_room (Nat.le_of_ble_eq_true rfl)) dX3_init_12 ⟨(Nat.le_of_ble_eq_true rfl), (Nat.le_of_ble_eq_true rfl)⟩) hP hD hS hA [1] [0] rfl rfl (by decide) (by decide) (Nat.le_of_ble_eq_true rfl) (Nat.le_of_ble_eq_true rfl) (fun u H locs h_3 hP hD hS => ?_)
    obtain ⟨u_4, u_5, u_6, u_7, u_8, u_9⟩ := u
    have hP : va_P g vwCl [(o, .inr (3, [.null, .null, .null, .int 0])), (q_1, .inr (1, [.ref u_4, .ref u_7, .ref u_8, .ref u_9, .int 0])), (u_7, .inl (cT 0, 800, .inl (fun _ => 0))), (u_8, .inl (cT 0, 800, .inl (fun _ => 0))), (u_9, .inl (cT 0, 800, .inl (fun _ => 0))), (u_4, .inr (2, [.ref u_5, .ref u_6, .int 0])), (u_5, .inl (cT 1, 800, .inr (.inl (fun _ => 0)))), (u_6, .inl (cT 0, 2048, .inl (fun _ => 0)))] H := hP
    have hD : va_D A [(o, .inr (3, [.null, .null, .null, .int 0])), (q_1, .inr (1, [.ref u_4, .ref u_7, .ref u_8, .ref u_9, .int 0])), (u_7, .inl (cT 0, 800, .inl (fun _ => 0))), (u_8, .inl (cT 0, 800, .inl (fun _ => 0))), (u_9, .inl (cT 0, 800, .inl (fun _ => 0))), (u_4, .inr (2, [.ref u_5, .ref u_6, .int 0])), (u_5, .inl (cT 1, 800, .inr (.inl (fun _ => 0)))), (u_6, .inl (cT 0, 2048, .inl (fun _ => 0)))] := hD
    refine va_putF (C := RX3) (T := TX3) (N := 4) (v := .ref q_1) (ty := .object "BothWays$Finds") hx hb hts hi_X3_init_X3 tyX3 tyX3_ok nmX3 hown hK hP hD hS 0 rfl rfl 1 (by decide) (hts (.fieldLink RX3 14 "BothWays$Kinds" "finds" "LBothWays$Finds;") (by decide +kernel)) (fun _ h => h) rfl hin rfl (by decide +kernel) rfl rfl (Nat.le_of_ble_eq_true rfl) dX3_init_15 (fun H locs hP hD hS => ?_)
    have hP : va_P g vwCl [(o, .inr (3, [.null, .ref q_1, .null, .int 0])), (q_1, .inr (1, [.ref u_4, .ref u_7, .ref u_8, .ref u_9, .int 0])), (u_7, .inl (cT 0, 800, .inl (fun _ => 0))), (u_8, .inl (cT 0, 800, .inl (fun _ => 0))), (u_9, .inl (cT 0, 800, .inl (fun _ => 0))), (u_4, .inr (2, [.ref u_5, .ref u_6, .int 0])), (u_5, .inl (cT 1, 800, .inr (.inl (fun _ => 0)))), (u_6, .inl (cT 0, 2048, .inl (fun _ => 0)))] H := hP
    have hD : va_D A [(o, .inr (3, [.null, .ref q_1, .null, .int 0])), (q_1, .inr (1, [.ref u_4, .ref u_7, .ref u_8, .ref u_9, .int 0])), (u_7, .inl (cT 0, 800, .inl (fun _ => 0))), (u_8, .inl (cT 0, 800, .inl (fun _ => 0))), (u_9, .inl (cT 0, 800, .inl (fun _ => 0))), (u_4, .inr (2, [.ref u_5, .ref u_6, .int 0])), (u_5, .inl (cT 1, 800, .inr (.inl (fun _ => 0)))), (u_6, .inl (cT 0, 2048, .inl (fun _ => 0)))] := hD
    refine lv_aload_n hx hb dX3_init_18 rfl (lv_at hl 0 rfl) ?_
    refine lv_iconst (v := 3) hx hb dX3_init_19 (by decide) ?_
    refine w_newJ hx hb (hts (.arrayClass .long) (by decide +kernel)) hK hP hD hS hA 3 8 5259 dX3_init_20 (by decide) (by decide) (by decide) (Nat.le_of_ble_eq_true rfl) (Nat.le_of_ble_eq_true rfl) (Nat.le_of_ble_eq_true rfl) (Nat.le_of_ble_eq_true rfl) (fun q_10 H hP hD hS => ?_)
    have hP : va_P g vwCl [(o, .inr (3, [.null, .ref q_1, .null, .int 0])), (q_1, .inr (1, [.ref u_4, .ref u_7, .ref u_8, .ref u_9, .int 0])), (u_7, .inl (cT 0, 800, .inl (fun _ => 0))), (u_8, .inl (cT 0, 800, .inl (fun _ => 0))), (u_9, .inl (cT 0, 800, .inl (fun _ => 0))), (u_4, .inr (2, [.ref u_5, .ref u_6, .int 0])), (u_5, .inl (cT 1, 800, .inr (.inl (fun _ => 0)))), (u_6, .inl (cT 0, 2048, .inl (fun _ => 0))), (q_10, .inl (cT 1, 3, .inr (.inl (fun _ => 0))))] H := hP
    have hD : va_D A [(o, .inr (3, [.null, .ref q_1, .null, .int 0])), (q_1, .inr (1, [.ref u_4, .ref u_7, .ref u_8, .ref u_9, .int 0])), (u_7, .inl (cT 0, 800, .inl (fun _ => 0))), (u_8, .inl (cT 0, 800, .inl (fun _ => 0))), (u_9, .inl (cT 0, 800, .inl (fun _ => 0))), (u_4, .inr (2, [.ref u_5, .ref u_6, .int 0])), (u_5, .inl (cT 1, 800, .inr (.inl (fun _ => 0)))), (u_6, .inl (cT 0, 2048, .inl (fun _ => 0))), (q_10, .inl (cT 1, 3, .inr (.inl (fun _ => 0))))] := hD
    refine va_putF (C := RX3) (T := TX3) (N := 4) (v := .ref q_10) (ty := .array .long) hx hb hts hi_X3_init_X3 tyX3 tyX3_ok nmX3 hown hK hP hD hS 0 rfl rfl 2 (by decide) (hts (.fieldLink RX3 20 "BothWays$Kinds" "ofLetters" "[J") (by decide +kernel)) (fun _ h => h) rfl hin rfl (by decide +kernel) rfl rfl (Nat.le_of_ble_eq_true rfl) dX3_init_22 (fun H locs hP hD hS => ?_)
    have hP : va_P g vwCl [(o, .inr (3, [.null, .ref q_1, .ref q_10, .int 0])), (q_1, .inr (1, [.ref u_4, .ref u_7, .ref u_8, .ref u_9, .int 0])), (u_7, .inl (cT 0, 800, .inl (fun _ => 0))), (u_8, .inl (cT 0, 800, .inl (fun _ => 0))), (u_9, .inl (cT 0, 800, .inl (fun _ => 0))), (u_4, .inr (2, [.ref u_5, .ref u_6, .int 0])), (u_5, .inl (cT 1, 800, .inr (.inl (fun _ => 0)))), (u_6, .inl (cT 0, 2048, .inl (fun _ => 0))), (q_10, .inl (cT 1, 3, .inr (.inl (fun _ => 0))))] H := hP
    have hD : va_D A [(o, .inr (3, [.null, .ref q_1, .ref q_10, .int 0])), (q_1, .inr (1, [.ref u_4, .ref u_7, .ref u_8, .ref u_9, .int 0])), (u_7, .inl (cT 0, 800, .inl (fun _ => 0))), (u_8, .inl (cT 0, 800, .inl (fun _ => 0))), (u_9, .inl (cT 0, 800, .inl (fun _ => 0))), (u_4, .inr (2, [.ref u_5, .ref u_6, .int 0])), (u_5, .inl (cT 1, 800, .inr (.inl (fun _ => 0)))), (u_6, .inl (cT 0, 2048, .inl (fun _ => 0))), (q_10, .inl (cT 1, 3, .inr (.inl (fun _ => 0))))] := hD
    refine lv_aload_n hx hb dX3_init_25 rfl (lv_at hl 0 rfl) ?_
    refine lv_iconst (v := (-1)) hx hb dX3_init_26 (by decide) ?_
    refine va_put (C := RX3) (T := TX3) (N := 4) (v := .int (-1)) (ty := .int) hx hb hts hi_X3_init_X3 tyX3 tyX3_ok nmX3 hown hK hP hD hS 0 rfl rfl 3 (by decide) (hts (.fieldLink RX3 24 "BothWays$Kinds" "version" "I") (by decide +kernel)) (fun _ h => h) rfl (by decide +kernel) rfl rfl (Nat.le_of_ble_eq_true rfl) dX3_init_27 (fun H locs hP hD hS => ?_)
    have hP : va_P g vwCl [(o, .inr (3, [.null, .ref q_1, .ref q_10, .int (-1)])), (q_1, .inr (1, [.ref u_4, .ref u_7, .ref u_8, .ref u_9, .int 0])), (u_7, .inl (cT 0, 800, .inl (fun _ => 0))), (u_8, .inl (cT 0, 800, .inl (fun _ => 0))), (u_9, .inl (cT 0, 800, .inl (fun _ => 0))), (u_4, .inr (2, [.ref u_5, .ref u_6, .int 0])), (u_5, .inl (cT 1, 800, .inr (.inl (fun _ => 0)))), (u_6, .inl (cT 0, 2048, .inl (fun _ => 0))), (q_10, .inl (cT 1, 3, .inr (.inl (fun _ => 0))))] H := hP
    have hD : va_D A [(o, .inr (3, [.null, .ref q_1, .ref q_10, .int (-1)])), (q_1, .inr (1, [.ref u_4, .ref u_7, .ref u_8, .ref u_9, .int 0])), (u_7, .inl (cT 0, 800, .inl (fun _ => 0))), (u_8, .inl (cT 0, 800, .inl (fun _ => 0))), (u_9, .inl (cT 0, 800, .inl (fun _ => 0))), (u_4, .inr (2, [.ref u_5, .ref u_6, .int 0])), (u_5, .inl (cT 1, 800, .inr (.inl (fun _ => 0)))), (u_6, .inl (cT 0, 2048, .inl (fun _ => 0))), (q_10, .inl (cT 1, 3, .inr (.inl (fun _ => 0))))] := hD
    refine lv_aload_n hx hb dX3_init_30 rfl (lv_at hl 0 rfl) ?_
    refine lv_aload_n hx hb dX3_init_31 rfl (lv_at hl 1 rfl) ?_
    refine va_putF (C := RX3) (T := TX3) (N := 4) (v := .ref o6) (ty := .object "BothWays$Reader") hx hb hts hi_X3_init_X3 tyX3 tyX3_ok nmX3 hown hK hP hD hS 0 rfl rfl 0 (by decide) (hts (.fieldLink RX3 28 "BothWays$Kinds" "reader" "LBothWays$Reader;") (by decide +kernel)) (fun _ h => h) rfl hin rfl (by decide +kernel) rfl rfl (Nat.le_of_ble_eq_true rfl) dX3_init_32 (fun H locs hP hD hS => ?_)
    have hP : va_P g vwCl [(o, .inr (3, [.ref o6, .ref q_1, .ref q_10, .int (-1)])), (q_1, .inr (1, [.ref u_4, .ref u_7, .ref u_8, .ref u_9, .int 0])), (u_7, .inl (cT 0, 800, .inl (fun _ => 0))), (u_8, .inl (cT 0, 800, .inl (fun _ => 0))), (u_9, .inl (cT 0, 800, .inl (fun _ => 0))), (u_4, .inr (2, [.ref u_5, .ref u_6, .int 0])), (u_5, .inl (cT 1, 800, .inr (.inl (fun _ => 0)))), (u_6, .inl (cT 0, 2048, .inl (fun _ => 0))), (q_10, .inl (cT 1, 3, .inr (.inl (fun _ => 0))))] H := hP
    have hD : va_D A [(o, .inr (3, [.ref o6, .ref q_1, .ref q_10, .int (-1)])), (q_1, .inr (1, [.ref u_4, .ref u_7, .ref u_8, .ref u_9, .int 0])), (u_7, .inl (cT 0, 800, .inl (fun _ => 0))), (u_8, .inl (cT 0, 800, .inl (fun _ => 0))), (u_9, .inl (cT 0, 800, .inl (fun _ => 0))), (u_4, .inr (2, [.ref u_5, .ref u_6, .int 0])), (u_5, .inl (cT 1, 800, .inr (.inl (fun _ => 0)))), (u_6, .inl (cT 0, 2048, .inl (fun _ => 0))), (q_10, .inl (cT 1, 3, .inr (.inl (fun _ => 0))))] := hD
    exact rt_v hx hb hr hlocks hQ hP hD hS (q_10, q_1, u_4, u_5, u_6, u_7, u_8, u_9) [0, 8, 1, 2, 3, 4, 5, 6, 7] dX3_init_35 (Nat.le_of_ble_eq_true rfl) (Nat.le_of_ble_eq_true rfl) rfl (by decide) trivial
  rw [hH, hlo] at hgo
  exact hgo
theorem hi_X3_renew_X3 : ∀ w ∈ wsX30, w ∈ wsX3_renew := fun _ h => List.mem_cons_of_mem _ (List.mem_append_left _ (List.mem_append_left _ (List.mem_append_left _ (List.mem_append_right _ h))))
theorem hi_X3_renew_X6 : ∀ w ∈ wsX60, w ∈ wsX3_renew := fun _ h => List.mem_cons_of_mem _ (List.mem_append_left _ (List.mem_append_left _ (List.mem_append_right _ h)))
theorem hi_X3_renew_X1 : ∀ w ∈ wsX10, w ∈ wsX3_renew := fun _ h => List.mem_cons_of_mem _ (List.mem_append_left _ (List.mem_append_right _ h))
theorem hi_X3_renew_X2 : ∀ w ∈ wsX20, w ∈ wsX3_renew := fun _ h => List.mem_cons_of_mem _ (List.mem_append_right _ h)
theorem yd_X1_clear : yX1_clear.cls = RX1 ∧ yX1_clear.cls ≠ "java/lang/invoke/MethodHandle" ∧ yX1_clear.cls ≠ "java/lang/invoke/VarHandle" ∧ (parseMethodDescriptor yX1_clear.desc).map (fun d => d.parameters.length) = some 0 := by decide +kernel
theorem yd_X3_tableOfLetter : yX3_tableOfLetter.cls = RX3 ∧ yX3_tableOfLetter.cls ≠ "java/lang/invoke/MethodHandle" ∧ yX3_tableOfLetter.cls ≠ "java/lang/invoke/VarHandle" ∧ (parseMethodDescriptor yX3_tableOfLetter.desc).map (fun d => d.parameters.length) = some 2 := by decide +kernel
theorem yd_X1_reach : yX1_reach.cls = RX1 ∧ yX1_reach.cls ≠ "java/lang/invoke/MethodHandle" ∧ yX1_reach.cls ≠ "java/lang/invoke/VarHandle" ∧ (parseMethodDescriptor yX1_reach.desc).map (fun d => d.parameters.length) = some 3 := by decide +kernel
theorem yd_X2_keyAt : yX2_keyAt.cls = RX2 ∧ yX2_keyAt.cls ≠ "java/lang/invoke/MethodHandle" ∧ yX2_keyAt.cls ≠ "java/lang/invoke/VarHandle" ∧ (parseMethodDescriptor yX2_keyAt.desc).map (fun d => d.parameters.length) = some 1 := by decide +kernel
theorem yd_X3_joined : yX3_joined.cls = RX3 ∧ yX3_joined.cls ≠ "java/lang/invoke/MethodHandle" ∧ yX3_joined.cls ≠ "java/lang/invoke/VarHandle" ∧ (parseMethodDescriptor yX3_joined.desc).map (fun d => d.parameters.length) = some 3 := by decide +kernel
abbrev rm_c_Ki_renew : Room := { frames := 3, cells := 0, slots := 0, locals := 75 }
set_option maxHeartbeats 4000000 in
set_option maxRecDepth 100000 in
theorem c_Ki_renew (l : Launch) (g : va_G) (cT : Nat → ClassId) (sz : Nat) (o : Nat) (of : Nat) (fi : Nat) (k : Nat) (a : Nat) (b : Nat) (pa : Nat) (la : Nat) (le : Nat) (o6 : Nat) (a6 : Nat)  : Ctr l g cT sz yX3_renew wsX3_renew rm_c_Ki_renew [.ref o] [(o, .inr (3, [.ref o6, .ref fi, .ref of, .int (-1)])), (of, .inl (cT 1, 3, .inr (.inl (fun _ => 0)))), (fi, .inr (1, [.ref k, .ref pa, .ref la, .ref le, .int 0])), (pa, .inl (cT 0, 800, .inl (fun _ => 0))), (la, .inl (cT 0, 800, .inl (fun _ => 0))), (le, .inl (cT 0, 800, .inl (fun _ => 0))), (k, .inr (2, [.ref a, .ref b, .int 0])), (a, .inl (cT 1, 800, .inr (.inl (fun _ => 0)))), (b, .inl (cT 0, 2048, .inl (fun _ => 0))), (o6, .inr (6, [.int 1, .int 0, .int 0, .int 0, .ref a6])), (a6, .inl (cT 0, 25, .inl (fun _ => (-1))))] (QV g (fun (u : Unit) => True) (fun (u : Unit) => [(o, .inr (3, [.ref o6, .ref fi, .ref of, .int 0])), (fi, .inr (1, [.ref k, .ref pa, .ref la, .ref le, .int 0])), (k, .inr (2, [.ref a, .ref b, .int 1]))])) 0 0 := by
  refine mk_ctr (cc := cX3_renew) (maxL := 3) (ret := none) (by decide) rfl (Nat.le_of_ble_eq_true rfl) ?_
  intro p e s m args below meth c A Q hx hb hr hts hown hlocks hin hml hP hK hD hN hZ hA hS hQ ls hl
  have hl : lv_has ls 3 [(0, .ref o)] := hl
  obtain ⟨H, hH⟩ : ∃ H : Heap, H = s.heap := ⟨_, rfl⟩
  obtain ⟨locs, hlo⟩ : ∃ x : List Loc, x = [] := ⟨_, rfl⟩
  rw [← hH] at hP
  have hS : va_S A s.heap H locs := by rw [hH, hlo]; exact hS
  have hgo : W p l e rm_c_Ki_renew s m args below meth c H locs 0 0 Q (F0 m 0 ls []) := by
    clear hH hlo
    refine lv_aload_n hx hb dX3_renew_0 rfl (lv_at hl 0 rfl) ?_
    refine va_get (C := RX3) (T := TX3) (N := 4) (v := .int (-1)) hx hb hts hi_X3_renew_X3 hown hK hP 0 rfl rfl 3 (by decide) (hts (.fieldLink RX3 24 "BothWays$Kinds" "version" "I") (by decide +kernel)) (fun _ h => h) rfl dX3_renew_1 ?_
    refine lv_aload_n hx hb dX3_renew_4 rfl (lv_at hl 0 rfl) ?_
    refine va_get (C := RX3) (T := TX3) (N := 4) (v := .ref o6) hx hb hts hi_X3_renew_X3 hown hK hP 0 rfl rfl 0 (by decide) (hts (.fieldLink RX3 28 "BothWays$Kinds" "reader" "LBothWays$Reader;") (by decide +kernel)) (fun _ h => h) rfl dX3_renew_5 ?_
    refine va_getN (C := RX6) (T := TX6) (N := 5) (v := .int 0) hx hb hts hi_X3_renew_X6 hown hK hP 9 rfl rfl 3 (by decide) (nf_14 hN) (fun _ h => h) rfl dX3_renew_8 ?_
    refine icmp_ne_t hx hb 15 dX3_renew_11 (by decide) (by decide) ?_
    refine lv_aload_n hx hb dX3_renew_15 rfl (lv_at hl 0 rfl) ?_
    refine lv_aload_n hx hb dX3_renew_16 rfl (lv_at hl 0 rfl) ?_
    refine va_get (C := RX3) (T := TX3) (N := 4) (v := .ref o6) hx hb hts hi_X3_renew_X3 hown hK hP 0 rfl rfl 0 (by decide) (hts (.fieldLink RX3 28 "BothWays$Kinds" "reader" "LBothWays$Reader;") (by decide +kernel)) (fun _ h => h) rfl dX3_renew_17 ?_
    refine va_getN (C := RX6) (T := TX6) (N := 5) (v := .int 0) hx hb hts hi_X3_renew_X6 hown hK hP 9 rfl rfl 3 (by decide) (nf_14 hN) (fun _ h => h) rfl dX3_renew_20 ?_
    refine va_put (C := RX3) (T := TX3) (N := 4) (v := .int 0) (ty := .int) hx hb hts hi_X3_renew_X3 tyX3 tyX3_ok nmX3 hown hK hP hD hS 0 rfl rfl 3 (by decide) (hts (.fieldLink RX3 24 "BothWays$Kinds" "version" "I") (by decide +kernel)) (fun _ h => h) rfl (by decide +kernel) rfl rfl (Nat.le_of_ble_eq_true rfl) dX3_renew_23 (fun H locs hP hD hS => ?_)
    have hP : va_P g vwCl [(o, .inr (3, [.ref o6, .ref fi, .ref of, .int 0])), (of, .inl (cT 1, 3, .inr (.inl (fun _ => 0)))), (fi, .inr (1, [.ref k, .ref pa, .ref la, .ref le, .int 0])), (pa, .inl (cT 0, 800, .inl (fun _ => 0))), (la, .inl (cT 0, 800, .inl (fun _ => 0))), (le, .inl (cT 0, 800, .inl (fun _ => 0))), (k, .inr (2, [.ref a, .ref b, .int 0])), (a, .inl (cT 1, 800, .inr (.inl (fun _ => 0)))), (b, .inl (cT 0, 2048, .inl (fun _ => 0))), (o6, .inr (6, [.int 1, .int 0, .int 0, .int 0, .ref a6])), (a6, .inl (cT 0, 25, .inl (fun _ => (-1))))] H := hP
    have hD : va_D A [(o, .inr (3, [.ref o6, .ref fi, .ref of, .int 0])), (of, .inl (cT 1, 3, .inr (.inl (fun _ => 0)))), (fi, .inr (1, [.ref k, .ref pa, .ref la, .ref le, .int 0])), (pa, .inl (cT 0, 800, .inl (fun _ => 0))), (la, .inl (cT 0, 800, .inl (fun _ => 0))), (le, .inl (cT 0, 800, .inl (fun _ => 0))), (k, .inr (2, [.ref a, .ref b, .int 0])), (a, .inl (cT 1, 800, .inr (.inl (fun _ => 0)))), (b, .inl (cT 0, 2048, .inl (fun _ => 0))), (o6, .inr (6, [.int 1, .int 0, .int 0, .int 0, .ref a6])), (a6, .inl (cT 0, 25, .inl (fun _ => (-1))))] := hD
    refine lv_aload_n hx hb dX3_renew_26 rfl (lv_at hl 0 rfl) ?_
    refine va_get (C := RX3) (T := TX3) (N := 4) (v := .ref fi) hx hb hts hi_X3_renew_X3 hown hK hP 0 rfl rfl 1 (by decide) (hts (.fieldLink RX3 14 "BothWays$Kinds" "finds" "LBothWays$Finds;") (by decide +kernel)) (fun _ h => h) rfl dX3_renew_27 ?_
    refine cj_v 0 0 (wr := [(o, .inr (3, [.ref o6, .ref fi, .ref of, .int 0])), (of, .inl (cT 1, 3, .inr (.inl (fun _ => 0)))), (pa, .inl (cT 0, 800, .inl (fun _ => 0))), (la, .inl (cT 0, 800, .inl (fun _ => 0))), (le, .inl (cT 0, 800, .inl (fun _ => 0))), (a, .inl (cT 1, 800, .inr (.inl (fun _ => 0)))), (o6, .inr (6, [.int 1, .int 0, .int 0, .int 0, .ref a6])), (a6, .inl (cT 0, 25, .inl (fun _ => (-1))))]) (va_runV (As := []) (rest := []) ⟨hx, hb, hml, hown, hts⟩ (c_F_clear l g cT H.size fi k a b pa la le 0 2048 (fun _ => 0) 0 (by decide)) (cwV 0 hts gX3_renew_X1_clear rfl rfl rfl yd_X1_clear ⟨(Nat.le_of_ble_eq_true rfl), (Nat.le_of_ble_eq_true rfl)⟩) (preV (wc := [(fi, .inr (1, [.ref k, .ref pa, .ref la, .ref le, .int 0])), (k, .inr (2, [.ref a, .ref b, .int 0])), (b, .inl (cT 0, 2048, .inl (fun _ => 0)))]) rfl hP hD hK hN hZ hS hA [2, 6, 8] rfl (by decide) (ci := 1) (q0 := 2) rfl rfl) rfl rfl hl.1 rfl (lv_room (Nat.le_of_ble_eq_true rfl)) dX3_renew_30 ⟨(Nat.le_of_ble_eq_true rfl), (Nat.le_of_ble_eq_true rfl)⟩) hP hD hS hA [2, 6, 8] [0, 1, 3, 4, 5, 7, 9, 10] rfl rfl (by decide) (by decide) (Nat.le_of_ble_eq_true rfl) (Nat.le_of_ble_eq_true rfl) (fun u H locs h_2 hP hD hS => ?_)
    have hP : va_P g vwCl [(o, .inr (3, [.ref o6, .ref fi, .ref of, .int 0])), (of, .inl (cT 1, 3, .inr (.inl (fun _ => 0)))), (pa, .inl (cT 0, 800, .inl (fun _ => 0))), (la, .inl (cT 0, 800, .inl (fun _ => 0))), (le, .inl (cT 0, 800, .inl (fun _ => 0))), (a, .inl (cT 1, 800, .inr (.inl (fun _ => 0)))), (o6, .inr (6, [.int 1, .int 0, .int 0, .int 0, .ref a6])), (a6, .inl (cT 0, 25, .inl (fun _ => (-1)))), (fi, .inr (1, [.ref k, .ref pa, .ref la, .ref le, .int 0])), (k, .inr (2, [.ref a, .ref b, .int 0])), (b, .inl (cT 0, 2048, .inl (fun _ => 0)))] H := hP
    have hD : va_D A [(o, .inr (3, [.ref o6, .ref fi, .ref of, .int 0])), (of, .inl (cT 1, 3, .inr (.inl (fun _ => 0)))), (pa, .inl (cT 0, 800, .inl (fun _ => 0))), (la, .inl (cT 0, 800, .inl (fun _ => 0))), (le, .inl (cT 0, 800, .inl (fun _ => 0))), (a, .inl (cT 1, 800, .inr (.inl (fun _ => 0)))), (o6, .inr (6, [.int 1, .int 0, .int 0, .int 0, .ref a6])), (a6, .inl (cT 0, 25, .inl (fun _ => (-1)))), (fi, .inr (1, [.ref k, .ref pa, .ref la, .ref le, .int 0])), (k, .inr (2, [.ref a, .ref b, .int 0])), (b, .inl (cT 0, 2048, .inl (fun _ => 0)))] := hD
    refine lv_iconst (v := 0) hx hb dX3_renew_33 (by decide) ?_
    refine lv_istore_n (lv' := [(1, .int 0), (0, .ref o)]) hx hb dX3_renew_34 rfl hl (by decide) rfl (fun ls hl => ?_)
    refine lv_iload_n hx hb dX3_renew_35 rfl (lv_at hl 0 rfl) ?_
    refine lv_iconst (v := 3) hx hb dX3_renew_36 (by decide) ?_
    refine icmp_ge_f hx hb dX3_renew_37 76 (by decide) (by decide) ?_
    refine lv_aload_n hx hb dX3_renew_40 rfl (lv_at hl 1 rfl) ?_
    refine va_get (C := RX3) (T := TX3) (N := 4) (v := .ref of) hx hb hts hi_X3_renew_X3 hown hK hP 0 rfl rfl 2 (by decide) (hts (.fieldLink RX3 20 "BothWays$Kinds" "ofLetters" "[J") (by decide +kernel)) (fun _ h => h) rfl dX3_renew_41 ?_
    refine lv_iload_n hx hb dX3_renew_44 rfl (lv_at hl 0 rfl) ?_
    refine lv_aload_n hx hb dX3_renew_45 rfl (lv_at hl 1 rfl) ?_
    refine va_get (C := RX3) (T := TX3) (N := 4) (v := .ref o6) hx hb hts hi_X3_renew_X3 hown hK hP 0 rfl rfl 0 (by decide) (hts (.fieldLink RX3 28 "BothWays$Kinds" "reader" "LBothWays$Reader;") (by decide +kernel)) (fun _ h => h) rfl dX3_renew_46 ?_
    refine lv_iload_n hx hb dX3_renew_49 rfl (lv_at hl 0 rfl) ?_
    refine cj_l 0 0 (wr := [(o, .inr (3, [.ref o6, .ref fi, .ref of, .int 0])), (of, .inl (cT 1, 3, .inr (.inl (fun _ => 0)))), (pa, .inl (cT 0, 800, .inl (fun _ => 0))), (la, .inl (cT 0, 800, .inl (fun _ => 0))), (le, .inl (cT 0, 800, .inl (fun _ => 0))), (a, .inl (cT 1, 800, .inr (.inl (fun _ => 0)))), (fi, .inr (1, [.ref k, .ref pa, .ref la, .ref le, .int 0])), (k, .inr (2, [.ref a, .ref b, .int 0])), (b, .inl (cT 0, 2048, .inl (fun _ => 0)))]) (va_runS (As := [.ref o6, .int 0]) (rest := [.int 0, .ref of]) ⟨hx, hb, hml, hown, hts⟩ (c_Ki_tableOfLetter l g cT H.size o6 a6 0) (va_cwS 2 hts gX3_renew_X3_tableOfLetter rfl rfl rfl yd_X3_tableOfLetter.2 ⟨(Nat.le_of_ble_eq_true rfl), (Nat.le_of_ble_eq_true rfl)⟩) (preS (wc := [(o6, .inr (6, [.int 1, .int 0, .int 0, .int 0, .ref a6])), (a6, .inl (cT 0, 25, .inl (fun _ => (-1))))]) rfl hP hD hK hN hZ hS hA [6, 7] rfl (by decide)) rfl rfl hl.1 rfl (lv_room (Nat.le_of_ble_eq_true rfl)) dX3_renew_50 ⟨(Nat.le_of_ble_eq_true rfl), (Nat.le_of_ble_eq_true rfl)⟩) hP hD hS hA [6, 7] [0, 1, 2, 3, 4, 5, 8, 9, 10] rfl rfl (by decide) (by decide) (Nat.le_of_ble_eq_true rfl) (Nat.le_of_ble_eq_true rfl) (fun r_3 u H locs h_4 hP hD hS => ?_)
    have hP : va_P g vwCl [(o, .inr (3, [.ref o6, .ref fi, .ref of, .int 0])), (of, .inl (cT 1, 3, .inr (.inl (fun _ => 0)))), (pa, .inl (cT 0, 800, .inl (fun _ => 0))), (la, .inl (cT 0, 800, .inl (fun _ => 0))), (le, .inl (cT 0, 800, .inl (fun _ => 0))), (a, .inl (cT 1, 800, .inr (.inl (fun _ => 0)))), (fi, .inr (1, [.ref k, .ref pa, .ref la, .ref le, .int 0])), (k, .inr (2, [.ref a, .ref b, .int 0])), (b, .inl (cT 0, 2048, .inl (fun _ => 0))), (o6, .inr (6, [.int 1, .int 0, .int 0, .int 0, .ref a6])), (a6, .inl (cT 0, 25, .inl (fun _ => (-1))))] H := hP
    have hD : va_D A [(o, .inr (3, [.ref o6, .ref fi, .ref of, .int 0])), (of, .inl (cT 1, 3, .inr (.inl (fun _ => 0)))), (pa, .inl (cT 0, 800, .inl (fun _ => 0))), (la, .inl (cT 0, 800, .inl (fun _ => 0))), (le, .inl (cT 0, 800, .inl (fun _ => 0))), (a, .inl (cT 1, 800, .inr (.inl (fun _ => 0)))), (fi, .inr (1, [.ref k, .ref pa, .ref la, .ref le, .int 0])), (k, .inr (2, [.ref a, .ref b, .int 0])), (b, .inl (cT 0, 2048, .inl (fun _ => 0))), (o6, .inr (6, [.int 1, .int 0, .int 0, .int 0, .ref a6])), (a6, .inl (cT 0, 25, .inl (fun _ => (-1))))] := hD
    subst h_4
    refine w_last (f' := (vp_updL (fun _ => 0) 0 10485770)) hx hb hK hP hD hS 1 rfl dX3_renew_53 (inC (by decide)) rfl (fun H locs hP hD hS => ?_)
    have hP : va_P g vwCl [(o, .inr (3, [.ref o6, .ref fi, .ref of, .int 0])), (of, .inl (cT 1, 3, .inr (.inl (vp_updL (fun _ => 0) 0 10485770)))), (pa, .inl (cT 0, 800, .inl (fun _ => 0))), (la, .inl (cT 0, 800, .inl (fun _ => 0))), (le, .inl (cT 0, 800, .inl (fun _ => 0))), (a, .inl (cT 1, 800, .inr (.inl (fun _ => 0)))), (fi, .inr (1, [.ref k, .ref pa, .ref la, .ref le, .int 0])), (k, .inr (2, [.ref a, .ref b, .int 0])), (b, .inl (cT 0, 2048, .inl (fun _ => 0))), (o6, .inr (6, [.int 1, .int 0, .int 0, .int 0, .ref a6])), (a6, .inl (cT 0, 25, .inl (fun _ => (-1))))] H := hP
    have hD : va_D A [(o, .inr (3, [.ref o6, .ref fi, .ref of, .int 0])), (of, .inl (cT 1, 3, .inr (.inl (vp_updL (fun _ => 0) 0 10485770)))), (pa, .inl (cT 0, 800, .inl (fun _ => 0))), (la, .inl (cT 0, 800, .inl (fun _ => 0))), (le, .inl (cT 0, 800, .inl (fun _ => 0))), (a, .inl (cT 1, 800, .inr (.inl (fun _ => 0)))), (fi, .inr (1, [.ref k, .ref pa, .ref la, .ref le, .int 0])), (k, .inr (2, [.ref a, .ref b, .int 0])), (b, .inl (cT 0, 2048, .inl (fun _ => 0))), (o6, .inr (6, [.int 1, .int 0, .int 0, .int 0, .ref a6])), (a6, .inl (cT 0, 25, .inl (fun _ => (-1))))] := hD
    refine lv_aload_n hx hb dX3_renew_54 rfl (lv_at hl 1 rfl) ?_
    refine va_get (C := RX3) (T := TX3) (N := 4) (v := .ref fi) hx hb hts hi_X3_renew_X3 hown hK hP 0 rfl rfl 1 (by decide) (hts (.fieldLink RX3 14 "BothWays$Kinds" "finds" "LBothWays$Finds;") (by decide +kernel)) (fun _ h => h) rfl dX3_renew_55 ?_
    refine lv_aload_n hx hb dX3_renew_58 rfl (lv_at hl 1 rfl) ?_
    refine va_get (C := RX3) (T := TX3) (N := 4) (v := .ref of) hx hb hts hi_X3_renew_X3 hown hK hP 0 rfl rfl 2 (by decide) (hts (.fieldLink RX3 20 "BothWays$Kinds" "ofLetters" "[J") (by decide +kernel)) (fun _ h => h) rfl dX3_renew_59 ?_
    refine lv_iload_n hx hb dX3_renew_62 rfl (lv_at hl 0 rfl) ?_
    refine w_lald (v := 10485770) hx hb hK hP 1 rfl dX3_renew_63 (inC (by decide)) (by decide) ?_
    refine lv_iconst (v := (-1)) hx hb dX3_renew_64 (by decide) ?_
    refine lv_iload_n hx hb dX3_renew_65 rfl (lv_at hl 0 rfl) ?_
    refine cj_i 0 0 (wr := [(o, .inr (3, [.ref o6, .ref fi, .ref of, .int 0])), (of, .inl (cT 1, 3, .inr (.inl (vp_updL (fun _ => 0) 0 10485770)))), (o6, .inr (6, [.int 1, .int 0, .int 0, .int 0, .ref a6])), (a6, .inl (cT 0, 25, .inl (fun _ => (-1))))]) (va_runV (As := [.long 10485770, .int (-1), .int 0]) (rest := []) ⟨hx, hb, hml, hown, hts⟩ (c_F_reach_800_10485770e l g cT H.size fi k a b pa la le) (cwV 3 hts gX3_renew_X1_reach rfl rfl rfl yd_X1_reach ⟨(Nat.le_of_ble_eq_true rfl), (Nat.le_of_ble_eq_true rfl)⟩) (preV (wc := [(fi, .inr (1, [.ref k, .ref pa, .ref la, .ref le, .int 0])), (pa, .inl (cT 0, 800, .inl (fun _ => 0))), (la, .inl (cT 0, 800, .inl (fun _ => 0))), (le, .inl (cT 0, 800, .inl (fun _ => 0))), (k, .inr (2, [.ref a, .ref b, .int 0])), (a, .inl (cT 1, 800, .inr (.inl (fun _ => 0)))), (b, .inl (cT 0, 2048, .inl (fun _ => 0)))]) rfl hP hD hK hN hZ hS hA [6, 2, 3, 4, 7, 5, 8] rfl (by decide) (ci := 1) (q0 := 6) rfl rfl) rfl rfl hl.1 rfl (lv_room (Nat.le_of_ble_eq_true rfl)) dX3_renew_66 ⟨(Nat.le_of_ble_eq_true rfl), (Nat.le_of_ble_eq_true rfl)⟩) hP hD hS hA [6, 2, 3, 4, 7, 5, 8] [0, 1, 9, 10] rfl rfl (by decide) (by decide) (Nat.le_of_ble_eq_true rfl) (Nat.le_of_ble_eq_true rfl) (fun r_5 u H locs h_6 hP hD hS => ?_)
    have hP : va_P g vwCl [(o, .inr (3, [.ref o6, .ref fi, .ref of, .int 0])), (of, .inl (cT 1, 3, .inr (.inl (vp_updL (fun _ => 0) 0 10485770)))), (o6, .inr (6, [.int 1, .int 0, .int 0, .int 0, .ref a6])), (a6, .inl (cT 0, 25, .inl (fun _ => (-1)))), (fi, .inr (1, [.ref k, .ref pa, .ref la, .ref le, .int 0])), (pa, .inl (cT 0, 800, .inl (upd (fun _ => 0) 0 (-1)))), (la, .inl (cT 0, 800, .inl (fun _ => 0))), (le, .inl (cT 0, 800, .inl (upd (fun _ => 0) 0 1))), (k, .inr (2, [.ref a, .ref b, .int 1])), (a, .inl (cT 1, 800, .inr (.inl (vp_updL (fun _ => 0) 0 10485770)))), (b, .inl (cT 0, 2048, .inl (upd (fun _ => 0) 591 1)))] H := hP
    have hD : va_D A [(o, .inr (3, [.ref o6, .ref fi, .ref of, .int 0])), (of, .inl (cT 1, 3, .inr (.inl (vp_updL (fun _ => 0) 0 10485770)))), (o6, .inr (6, [.int 1, .int 0, .int 0, .int 0, .ref a6])), (a6, .inl (cT 0, 25, .inl (fun _ => (-1)))), (fi, .inr (1, [.ref k, .ref pa, .ref la, .ref le, .int 0])), (pa, .inl (cT 0, 800, .inl (upd (fun _ => 0) 0 (-1)))), (la, .inl (cT 0, 800, .inl (fun _ => 0))), (le, .inl (cT 0, 800, .inl (upd (fun _ => 0) 0 1))), (k, .inr (2, [.ref a, .ref b, .int 1])), (a, .inl (cT 1, 800, .inr (.inl (vp_updL (fun _ => 0) 0 10485770)))), (b, .inl (cT 0, 2048, .inl (upd (fun _ => 0) 591 1)))] := hD
    subst h_6
    refine lv_pop hx hb dX3_renew_69 rfl ?_
    refine lv_iinc (v := 1) (lv' := [(1, .int 1), (0, .ref o)]) hx hb dX3_renew_70 hl (k := 0) rfl (by decide) (by decide) rfl (fun ls hl => ?_)
    refine lv_goto (tgt := 35) hx hb dX3_renew_73 (by decide) ?_
    refine lv_iload_n hx hb dX3_renew_35 rfl (lv_at hl 0 rfl) ?_
    refine lv_iconst (v := 3) hx hb dX3_renew_36 (by decide) ?_
    refine icmp_ge_f hx hb dX3_renew_37 76 (by decide) (by decide) ?_
    refine lv_aload_n hx hb dX3_renew_40 rfl (lv_at hl 1 rfl) ?_
    refine va_get (C := RX3) (T := TX3) (N := 4) (v := .ref of) hx hb hts hi_X3_renew_X3 hown hK hP 0 rfl rfl 2 (by decide) (hts (.fieldLink RX3 20 "BothWays$Kinds" "ofLetters" "[J") (by decide +kernel)) (fun _ h => h) rfl dX3_renew_41 ?_
    refine lv_iload_n hx hb dX3_renew_44 rfl (lv_at hl 0 rfl) ?_
    refine lv_aload_n hx hb dX3_renew_45 rfl (lv_at hl 1 rfl) ?_
    refine va_get (C := RX3) (T := TX3) (N := 4) (v := .ref o6) hx hb hts hi_X3_renew_X3 hown hK hP 0 rfl rfl 0 (by decide) (hts (.fieldLink RX3 28 "BothWays$Kinds" "reader" "LBothWays$Reader;") (by decide +kernel)) (fun _ h => h) rfl dX3_renew_46 ?_
    refine lv_iload_n hx hb dX3_renew_49 rfl (lv_at hl 0 rfl) ?_
    refine cj_l 0 0 (wr := [(o, .inr (3, [.ref o6, .ref fi, .ref of, .int 0])), (of, .inl (cT 1, 3, .inr (.inl (vp_updL (fun _ => 0) 0 10485770)))), (fi, .inr (1, [.ref k, .ref pa, .ref la, .ref le, .int 0])), (pa, .inl (cT 0, 800, .inl (upd (fun _ => 0) 0 (-1)))), (la, .inl (cT 0, 800, .inl (fun _ => 0))), (le, .inl (cT 0, 800, .inl (upd (fun _ => 0) 0 1))), (k, .inr (2, [.ref a, .ref b, .int 1])), (a, .inl (cT 1, 800, .inr (.inl (vp_updL (fun _ => 0) 0 10485770)))), (b, .inl (cT 0, 2048, .inl (upd (fun _ => 0) 591 1)))]) (va_runS (As := [.ref o6, .int 1]) (rest := [.int 1, .ref of]) ⟨hx, hb, hml, hown, hts⟩ (c_Ki_tableOfLetter l g cT H.size o6 a6 1) (va_cwS 2 hts gX3_renew_X3_tableOfLetter rfl rfl rfl yd_X3_tableOfLetter.2 ⟨(Nat.le_of_ble_eq_true rfl), (Nat.le_of_ble_eq_true rfl)⟩) (preS (wc := [(o6, .inr (6, [.int 1, .int 0, .int 0, .int 0, .ref a6])), (a6, .inl (cT 0, 25, .inl (fun _ => (-1))))]) rfl hP hD hK hN hZ hS hA [2, 3] rfl (by decide)) rfl rfl hl.1 rfl (lv_room (Nat.le_of_ble_eq_true rfl)) dX3_renew_50 ⟨(Nat.le_of_ble_eq_true rfl), (Nat.le_of_ble_eq_true rfl)⟩) hP hD hS hA [2, 3] [0, 1, 4, 5, 6, 7, 8, 9, 10] rfl rfl (by decide) (by decide) (Nat.le_of_ble_eq_true rfl) (Nat.le_of_ble_eq_true rfl) (fun r_7 u H locs h_8 hP hD hS => ?_)
    have hP : va_P g vwCl [(o, .inr (3, [.ref o6, .ref fi, .ref of, .int 0])), (of, .inl (cT 1, 3, .inr (.inl (vp_updL (fun _ => 0) 0 10485770)))), (fi, .inr (1, [.ref k, .ref pa, .ref la, .ref le, .int 0])), (pa, .inl (cT 0, 800, .inl (upd (fun _ => 0) 0 (-1)))), (la, .inl (cT 0, 800, .inl (fun _ => 0))), (le, .inl (cT 0, 800, .inl (upd (fun _ => 0) 0 1))), (k, .inr (2, [.ref a, .ref b, .int 1])), (a, .inl (cT 1, 800, .inr (.inl (vp_updL (fun _ => 0) 0 10485770)))), (b, .inl (cT 0, 2048, .inl (upd (fun _ => 0) 591 1))), (o6, .inr (6, [.int 1, .int 0, .int 0, .int 0, .ref a6])), (a6, .inl (cT 0, 25, .inl (fun _ => (-1))))] H := hP
    have hD : va_D A [(o, .inr (3, [.ref o6, .ref fi, .ref of, .int 0])), (of, .inl (cT 1, 3, .inr (.inl (vp_updL (fun _ => 0) 0 10485770)))), (fi, .inr (1, [.ref k, .ref pa, .ref la, .ref le, .int 0])), (pa, .inl (cT 0, 800, .inl (upd (fun _ => 0) 0 (-1)))), (la, .inl (cT 0, 800, .inl (fun _ => 0))), (le, .inl (cT 0, 800, .inl (upd (fun _ => 0) 0 1))), (k, .inr (2, [.ref a, .ref b, .int 1])), (a, .inl (cT 1, 800, .inr (.inl (vp_updL (fun _ => 0) 0 10485770)))), (b, .inl (cT 0, 2048, .inl (upd (fun _ => 0) 591 1))), (o6, .inr (6, [.int 1, .int 0, .int 0, .int 0, .ref a6])), (a6, .inl (cT 0, 25, .inl (fun _ => (-1))))] := hD
    subst h_8
    refine w_last (f' := (vp_updL (vp_updL (fun _ => 0) 0 10485770) 1 10485770)) hx hb hK hP hD hS 1 rfl dX3_renew_53 (inC (by decide)) rfl (fun H locs hP hD hS => ?_)
    have hP : va_P g vwCl [(o, .inr (3, [.ref o6, .ref fi, .ref of, .int 0])), (of, .inl (cT 1, 3, .inr (.inl (vp_updL (vp_updL (fun _ => 0) 0 10485770) 1 10485770)))), (fi, .inr (1, [.ref k, .ref pa, .ref la, .ref le, .int 0])), (pa, .inl (cT 0, 800, .inl (upd (fun _ => 0) 0 (-1)))), (la, .inl (cT 0, 800, .inl (fun _ => 0))), (le, .inl (cT 0, 800, .inl (upd (fun _ => 0) 0 1))), (k, .inr (2, [.ref a, .ref b, .int 1])), (a, .inl (cT 1, 800, .inr (.inl (vp_updL (fun _ => 0) 0 10485770)))), (b, .inl (cT 0, 2048, .inl (upd (fun _ => 0) 591 1))), (o6, .inr (6, [.int 1, .int 0, .int 0, .int 0, .ref a6])), (a6, .inl (cT 0, 25, .inl (fun _ => (-1))))] H := hP
    have hD : va_D A [(o, .inr (3, [.ref o6, .ref fi, .ref of, .int 0])), (of, .inl (cT 1, 3, .inr (.inl (vp_updL (vp_updL (fun _ => 0) 0 10485770) 1 10485770)))), (fi, .inr (1, [.ref k, .ref pa, .ref la, .ref le, .int 0])), (pa, .inl (cT 0, 800, .inl (upd (fun _ => 0) 0 (-1)))), (la, .inl (cT 0, 800, .inl (fun _ => 0))), (le, .inl (cT 0, 800, .inl (upd (fun _ => 0) 0 1))), (k, .inr (2, [.ref a, .ref b, .int 1])), (a, .inl (cT 1, 800, .inr (.inl (vp_updL (fun _ => 0) 0 10485770)))), (b, .inl (cT 0, 2048, .inl (upd (fun _ => 0) 591 1))), (o6, .inr (6, [.int 1, .int 0, .int 0, .int 0, .ref a6])), (a6, .inl (cT 0, 25, .inl (fun _ => (-1))))] := hD
    refine lv_aload_n hx hb dX3_renew_54 rfl (lv_at hl 1 rfl) ?_
    refine va_get (C := RX3) (T := TX3) (N := 4) (v := .ref fi) hx hb hts hi_X3_renew_X3 hown hK hP 0 rfl rfl 1 (by decide) (hts (.fieldLink RX3 14 "BothWays$Kinds" "finds" "LBothWays$Finds;") (by decide +kernel)) (fun _ h => h) rfl dX3_renew_55 ?_
    refine lv_aload_n hx hb dX3_renew_58 rfl (lv_at hl 1 rfl) ?_
    refine va_get (C := RX3) (T := TX3) (N := 4) (v := .ref of) hx hb hts hi_X3_renew_X3 hown hK hP 0 rfl rfl 2 (by decide) (hts (.fieldLink RX3 20 "BothWays$Kinds" "ofLetters" "[J") (by decide +kernel)) (fun _ h => h) rfl dX3_renew_59 ?_
    refine lv_iload_n hx hb dX3_renew_62 rfl (lv_at hl 0 rfl) ?_
    refine w_lald (v := 10485770) hx hb hK hP 1 rfl dX3_renew_63 (inC (by decide)) (by decide) ?_
    refine lv_iconst (v := (-1)) hx hb dX3_renew_64 (by decide) ?_
    refine lv_iload_n hx hb dX3_renew_65 rfl (lv_at hl 0 rfl) ?_
    refine cj_i 0 0 (wr := [(o, .inr (3, [.ref o6, .ref fi, .ref of, .int 0])), (of, .inl (cT 1, 3, .inr (.inl (vp_updL (vp_updL (fun _ => 0) 0 10485770) 1 10485770)))), (o6, .inr (6, [.int 1, .int 0, .int 0, .int 0, .ref a6])), (a6, .inl (cT 0, 25, .inl (fun _ => (-1))))]) (va_runV (As := [.long 10485770, .int (-1), .int 1]) (rest := []) ⟨hx, hb, hml, hown, hts⟩ (c_F_reach_800_10485770p l g cT H.size fi k a b pa la le (-1) 1) (cwV 3 hts gX3_renew_X1_reach rfl rfl rfl yd_X1_reach ⟨(Nat.le_of_ble_eq_true rfl), (Nat.le_of_ble_eq_true rfl)⟩) (preV (wc := [(fi, .inr (1, [.ref k, .ref pa, .ref la, .ref le, .int 0])), (pa, .inl (cT 0, 800, .inl (upd (fun _ => 0) 0 (-1)))), (la, .inl (cT 0, 800, .inl (fun _ => 0))), (le, .inl (cT 0, 800, .inl (upd (fun _ => 0) 0 1))), (k, .inr (2, [.ref a, .ref b, .int 1])), (a, .inl (cT 1, 800, .inr (.inl (vp_updL (fun _ => 0) 0 10485770)))), (b, .inl (cT 0, 2048, .inl (upd (fun _ => 0) 591 1)))]) rfl hP hD hK hN hZ hS hA [2, 3, 4, 5, 6, 7, 8] rfl (by decide) (ci := 1) (q0 := 2) rfl rfl) rfl rfl hl.1 rfl (lv_room (Nat.le_of_ble_eq_true rfl)) dX3_renew_66 ⟨(Nat.le_of_ble_eq_true rfl), (Nat.le_of_ble_eq_true rfl)⟩) hP hD hS hA [2, 3, 4, 5, 6, 7, 8] [0, 1, 9, 10] rfl rfl (by decide) (by decide) (Nat.le_of_ble_eq_true rfl) (Nat.le_of_ble_eq_true rfl) (fun r_9 u H locs h_10 hP hD hS => ?_)
    have hP : va_P g vwCl [(o, .inr (3, [.ref o6, .ref fi, .ref of, .int 0])), (of, .inl (cT 1, 3, .inr (.inl (vp_updL (vp_updL (fun _ => 0) 0 10485770) 1 10485770)))), (o6, .inr (6, [.int 1, .int 0, .int 0, .int 0, .ref a6])), (a6, .inl (cT 0, 25, .inl (fun _ => (-1)))), (fi, .inr (1, [.ref k, .ref pa, .ref la, .ref le, .int 0])), (pa, .inl (cT 0, 800, .inl (upd (fun _ => 0) 0 (-1)))), (la, .inl (cT 0, 800, .inl (fun _ => 0))), (le, .inl (cT 0, 800, .inl (upd (fun _ => 0) 0 1))), (k, .inr (2, [.ref a, .ref b, .int 1])), (a, .inl (cT 1, 800, .inr (.inl (vp_updL (fun _ => 0) 0 10485770)))), (b, .inl (cT 0, 2048, .inl (upd (fun _ => 0) 591 1)))] H := hP
    have hD : va_D A [(o, .inr (3, [.ref o6, .ref fi, .ref of, .int 0])), (of, .inl (cT 1, 3, .inr (.inl (vp_updL (vp_updL (fun _ => 0) 0 10485770) 1 10485770)))), (o6, .inr (6, [.int 1, .int 0, .int 0, .int 0, .ref a6])), (a6, .inl (cT 0, 25, .inl (fun _ => (-1)))), (fi, .inr (1, [.ref k, .ref pa, .ref la, .ref le, .int 0])), (pa, .inl (cT 0, 800, .inl (upd (fun _ => 0) 0 (-1)))), (la, .inl (cT 0, 800, .inl (fun _ => 0))), (le, .inl (cT 0, 800, .inl (upd (fun _ => 0) 0 1))), (k, .inr (2, [.ref a, .ref b, .int 1])), (a, .inl (cT 1, 800, .inr (.inl (vp_updL (fun _ => 0) 0 10485770)))), (b, .inl (cT 0, 2048, .inl (upd (fun _ => 0) 591 1)))] := hD
    subst h_10
    refine lv_pop hx hb dX3_renew_69 rfl ?_
    refine lv_iinc (v := 2) (lv' := [(1, .int 2), (0, .ref o)]) hx hb dX3_renew_70 hl (k := 0) rfl (by decide) (by decide) rfl (fun ls hl => ?_)
    refine lv_goto (tgt := 35) hx hb dX3_renew_73 (by decide) ?_
    refine lv_iload_n hx hb dX3_renew_35 rfl (lv_at hl 0 rfl) ?_
    refine lv_iconst (v := 3) hx hb dX3_renew_36 (by decide) ?_
    refine icmp_ge_f hx hb dX3_renew_37 76 (by decide) (by decide) ?_
    refine lv_aload_n hx hb dX3_renew_40 rfl (lv_at hl 1 rfl) ?_
    refine va_get (C := RX3) (T := TX3) (N := 4) (v := .ref of) hx hb hts hi_X3_renew_X3 hown hK hP 0 rfl rfl 2 (by decide) (hts (.fieldLink RX3 20 "BothWays$Kinds" "ofLetters" "[J") (by decide +kernel)) (fun _ h => h) rfl dX3_renew_41 ?_
    refine lv_iload_n hx hb dX3_renew_44 rfl (lv_at hl 0 rfl) ?_
    refine lv_aload_n hx hb dX3_renew_45 rfl (lv_at hl 1 rfl) ?_
    refine va_get (C := RX3) (T := TX3) (N := 4) (v := .ref o6) hx hb hts hi_X3_renew_X3 hown hK hP 0 rfl rfl 0 (by decide) (hts (.fieldLink RX3 28 "BothWays$Kinds" "reader" "LBothWays$Reader;") (by decide +kernel)) (fun _ h => h) rfl dX3_renew_46 ?_
    refine lv_iload_n hx hb dX3_renew_49 rfl (lv_at hl 0 rfl) ?_
    refine cj_l 0 0 (wr := [(o, .inr (3, [.ref o6, .ref fi, .ref of, .int 0])), (of, .inl (cT 1, 3, .inr (.inl (vp_updL (vp_updL (fun _ => 0) 0 10485770) 1 10485770)))), (fi, .inr (1, [.ref k, .ref pa, .ref la, .ref le, .int 0])), (pa, .inl (cT 0, 800, .inl (upd (fun _ => 0) 0 (-1)))), (la, .inl (cT 0, 800, .inl (fun _ => 0))), (le, .inl (cT 0, 800, .inl (upd (fun _ => 0) 0 1))), (k, .inr (2, [.ref a, .ref b, .int 1])), (a, .inl (cT 1, 800, .inr (.inl (vp_updL (fun _ => 0) 0 10485770)))), (b, .inl (cT 0, 2048, .inl (upd (fun _ => 0) 591 1)))]) (va_runS (As := [.ref o6, .int 2]) (rest := [.int 2, .ref of]) ⟨hx, hb, hml, hown, hts⟩ (c_Ki_tableOfLetter l g cT H.size o6 a6 2) (va_cwS 2 hts gX3_renew_X3_tableOfLetter rfl rfl rfl yd_X3_tableOfLetter.2 ⟨(Nat.le_of_ble_eq_true rfl), (Nat.le_of_ble_eq_true rfl)⟩) (preS (wc := [(o6, .inr (6, [.int 1, .int 0, .int 0, .int 0, .ref a6])), (a6, .inl (cT 0, 25, .inl (fun _ => (-1))))]) rfl hP hD hK hN hZ hS hA [2, 3] rfl (by decide)) rfl rfl hl.1 rfl (lv_room (Nat.le_of_ble_eq_true rfl)) dX3_renew_50 ⟨(Nat.le_of_ble_eq_true rfl), (Nat.le_of_ble_eq_true rfl)⟩) hP hD hS hA [2, 3] [0, 1, 4, 5, 6, 7, 8, 9, 10] rfl rfl (by decide) (by decide) (Nat.le_of_ble_eq_true rfl) (Nat.le_of_ble_eq_true rfl) (fun r_11 u H locs h_12 hP hD hS => ?_)
    have hP : va_P g vwCl [(o, .inr (3, [.ref o6, .ref fi, .ref of, .int 0])), (of, .inl (cT 1, 3, .inr (.inl (vp_updL (vp_updL (fun _ => 0) 0 10485770) 1 10485770)))), (fi, .inr (1, [.ref k, .ref pa, .ref la, .ref le, .int 0])), (pa, .inl (cT 0, 800, .inl (upd (fun _ => 0) 0 (-1)))), (la, .inl (cT 0, 800, .inl (fun _ => 0))), (le, .inl (cT 0, 800, .inl (upd (fun _ => 0) 0 1))), (k, .inr (2, [.ref a, .ref b, .int 1])), (a, .inl (cT 1, 800, .inr (.inl (vp_updL (fun _ => 0) 0 10485770)))), (b, .inl (cT 0, 2048, .inl (upd (fun _ => 0) 591 1))), (o6, .inr (6, [.int 1, .int 0, .int 0, .int 0, .ref a6])), (a6, .inl (cT 0, 25, .inl (fun _ => (-1))))] H := hP
    have hD : va_D A [(o, .inr (3, [.ref o6, .ref fi, .ref of, .int 0])), (of, .inl (cT 1, 3, .inr (.inl (vp_updL (vp_updL (fun _ => 0) 0 10485770) 1 10485770)))), (fi, .inr (1, [.ref k, .ref pa, .ref la, .ref le, .int 0])), (pa, .inl (cT 0, 800, .inl (upd (fun _ => 0) 0 (-1)))), (la, .inl (cT 0, 800, .inl (fun _ => 0))), (le, .inl (cT 0, 800, .inl (upd (fun _ => 0) 0 1))), (k, .inr (2, [.ref a, .ref b, .int 1])), (a, .inl (cT 1, 800, .inr (.inl (vp_updL (fun _ => 0) 0 10485770)))), (b, .inl (cT 0, 2048, .inl (upd (fun _ => 0) 591 1))), (o6, .inr (6, [.int 1, .int 0, .int 0, .int 0, .ref a6])), (a6, .inl (cT 0, 25, .inl (fun _ => (-1))))] := hD
    subst h_12
    refine w_last (f' := (vp_updL (vp_updL (vp_updL (fun _ => 0) 0 10485770) 1 10485770) 2 10485770)) hx hb hK hP hD hS 1 rfl dX3_renew_53 (inC (by decide)) rfl (fun H locs hP hD hS => ?_)
    have hP : va_P g vwCl [(o, .inr (3, [.ref o6, .ref fi, .ref of, .int 0])), (of, .inl (cT 1, 3, .inr (.inl (vp_updL (vp_updL (vp_updL (fun _ => 0) 0 10485770) 1 10485770) 2 10485770)))), (fi, .inr (1, [.ref k, .ref pa, .ref la, .ref le, .int 0])), (pa, .inl (cT 0, 800, .inl (upd (fun _ => 0) 0 (-1)))), (la, .inl (cT 0, 800, .inl (fun _ => 0))), (le, .inl (cT 0, 800, .inl (upd (fun _ => 0) 0 1))), (k, .inr (2, [.ref a, .ref b, .int 1])), (a, .inl (cT 1, 800, .inr (.inl (vp_updL (fun _ => 0) 0 10485770)))), (b, .inl (cT 0, 2048, .inl (upd (fun _ => 0) 591 1))), (o6, .inr (6, [.int 1, .int 0, .int 0, .int 0, .ref a6])), (a6, .inl (cT 0, 25, .inl (fun _ => (-1))))] H := hP
    have hD : va_D A [(o, .inr (3, [.ref o6, .ref fi, .ref of, .int 0])), (of, .inl (cT 1, 3, .inr (.inl (vp_updL (vp_updL (vp_updL (fun _ => 0) 0 10485770) 1 10485770) 2 10485770)))), (fi, .inr (1, [.ref k, .ref pa, .ref la, .ref le, .int 0])), (pa, .inl (cT 0, 800, .inl (upd (fun _ => 0) 0 (-1)))), (la, .inl (cT 0, 800, .inl (fun _ => 0))), (le, .inl (cT 0, 800, .inl (upd (fun _ => 0) 0 1))), (k, .inr (2, [.ref a, .ref b, .int 1])), (a, .inl (cT 1, 800, .inr (.inl (vp_updL (fun _ => 0) 0 10485770)))), (b, .inl (cT 0, 2048, .inl (upd (fun _ => 0) 591 1))), (o6, .inr (6, [.int 1, .int 0, .int 0, .int 0, .ref a6])), (a6, .inl (cT 0, 25, .inl (fun _ => (-1))))] := hD
    refine lv_aload_n hx hb dX3_renew_54 rfl (lv_at hl 1 rfl) ?_
    refine va_get (C := RX3) (T := TX3) (N := 4) (v := .ref fi) hx hb hts hi_X3_renew_X3 hown hK hP 0 rfl rfl 1 (by decide) (hts (.fieldLink RX3 14 "BothWays$Kinds" "finds" "LBothWays$Finds;") (by decide +kernel)) (fun _ h => h) rfl dX3_renew_55 ?_
    refine lv_aload_n hx hb dX3_renew_58 rfl (lv_at hl 1 rfl) ?_
    refine va_get (C := RX3) (T := TX3) (N := 4) (v := .ref of) hx hb hts hi_X3_renew_X3 hown hK hP 0 rfl rfl 2 (by decide) (hts (.fieldLink RX3 20 "BothWays$Kinds" "ofLetters" "[J") (by decide +kernel)) (fun _ h => h) rfl dX3_renew_59 ?_
    refine lv_iload_n hx hb dX3_renew_62 rfl (lv_at hl 0 rfl) ?_
    refine w_lald (v := 10485770) hx hb hK hP 1 rfl dX3_renew_63 (inC (by decide)) (by decide) ?_
    refine lv_iconst (v := (-1)) hx hb dX3_renew_64 (by decide) ?_
    refine lv_iload_n hx hb dX3_renew_65 rfl (lv_at hl 0 rfl) ?_
    refine cj_i 0 0 (wr := [(o, .inr (3, [.ref o6, .ref fi, .ref of, .int 0])), (of, .inl (cT 1, 3, .inr (.inl (vp_updL (vp_updL (vp_updL (fun _ => 0) 0 10485770) 1 10485770) 2 10485770)))), (o6, .inr (6, [.int 1, .int 0, .int 0, .int 0, .ref a6])), (a6, .inl (cT 0, 25, .inl (fun _ => (-1))))]) (va_runV (As := [.long 10485770, .int (-1), .int 2]) (rest := []) ⟨hx, hb, hml, hown, hts⟩ (c_F_reach_800_10485770p l g cT H.size fi k a b pa la le (-1) 2) (cwV 3 hts gX3_renew_X1_reach rfl rfl rfl yd_X1_reach ⟨(Nat.le_of_ble_eq_true rfl), (Nat.le_of_ble_eq_true rfl)⟩) (preV (wc := [(fi, .inr (1, [.ref k, .ref pa, .ref la, .ref le, .int 0])), (pa, .inl (cT 0, 800, .inl (upd (fun _ => 0) 0 (-1)))), (la, .inl (cT 0, 800, .inl (fun _ => 0))), (le, .inl (cT 0, 800, .inl (upd (fun _ => 0) 0 1))), (k, .inr (2, [.ref a, .ref b, .int 1])), (a, .inl (cT 1, 800, .inr (.inl (vp_updL (fun _ => 0) 0 10485770)))), (b, .inl (cT 0, 2048, .inl (upd (fun _ => 0) 591 1)))]) rfl hP hD hK hN hZ hS hA [2, 3, 4, 5, 6, 7, 8] rfl (by decide) (ci := 1) (q0 := 2) rfl rfl) rfl rfl hl.1 rfl (lv_room (Nat.le_of_ble_eq_true rfl)) dX3_renew_66 ⟨(Nat.le_of_ble_eq_true rfl), (Nat.le_of_ble_eq_true rfl)⟩) hP hD hS hA [2, 3, 4, 5, 6, 7, 8] [0, 1, 9, 10] rfl rfl (by decide) (by decide) (Nat.le_of_ble_eq_true rfl) (Nat.le_of_ble_eq_true rfl) (fun r_13 u H locs h_14 hP hD hS => ?_)
    have hP : va_P g vwCl [(o, .inr (3, [.ref o6, .ref fi, .ref of, .int 0])), (of, .inl (cT 1, 3, .inr (.inl (vp_updL (vp_updL (vp_updL (fun _ => 0) 0 10485770) 1 10485770) 2 10485770)))), (o6, .inr (6, [.int 1, .int 0, .int 0, .int 0, .ref a6])), (a6, .inl (cT 0, 25, .inl (fun _ => (-1)))), (fi, .inr (1, [.ref k, .ref pa, .ref la, .ref le, .int 0])), (pa, .inl (cT 0, 800, .inl (upd (fun _ => 0) 0 (-1)))), (la, .inl (cT 0, 800, .inl (fun _ => 0))), (le, .inl (cT 0, 800, .inl (upd (fun _ => 0) 0 1))), (k, .inr (2, [.ref a, .ref b, .int 1])), (a, .inl (cT 1, 800, .inr (.inl (vp_updL (fun _ => 0) 0 10485770)))), (b, .inl (cT 0, 2048, .inl (upd (fun _ => 0) 591 1)))] H := hP
    have hD : va_D A [(o, .inr (3, [.ref o6, .ref fi, .ref of, .int 0])), (of, .inl (cT 1, 3, .inr (.inl (vp_updL (vp_updL (vp_updL (fun _ => 0) 0 10485770) 1 10485770) 2 10485770)))), (o6, .inr (6, [.int 1, .int 0, .int 0, .int 0, .ref a6])), (a6, .inl (cT 0, 25, .inl (fun _ => (-1)))), (fi, .inr (1, [.ref k, .ref pa, .ref la, .ref le, .int 0])), (pa, .inl (cT 0, 800, .inl (upd (fun _ => 0) 0 (-1)))), (la, .inl (cT 0, 800, .inl (fun _ => 0))), (le, .inl (cT 0, 800, .inl (upd (fun _ => 0) 0 1))), (k, .inr (2, [.ref a, .ref b, .int 1])), (a, .inl (cT 1, 800, .inr (.inl (vp_updL (fun _ => 0) 0 10485770)))), (b, .inl (cT 0, 2048, .inl (upd (fun _ => 0) 591 1)))] := hD
    subst h_14
    refine lv_pop hx hb dX3_renew_69 rfl ?_
    refine lv_iinc (v := 3) (lv' := [(1, .int 3), (0, .ref o)]) hx hb dX3_renew_70 hl (k := 0) rfl (by decide) (by decide) rfl (fun ls hl => ?_)
    refine lv_goto (tgt := 35) hx hb dX3_renew_73 (by decide) ?_
    refine lv_iload_n hx hb dX3_renew_35 rfl (lv_at hl 0 rfl) ?_
    refine lv_iconst (v := 3) hx hb dX3_renew_36 (by decide) ?_
    refine icmp_ge_t hx hb 76 dX3_renew_37 (by decide) (by decide) ?_
    refine lv_iconst (v := 0) hx hb dX3_renew_76 (by decide) ?_
    refine lv_istore_n (lv' := [(1, .int 0), (0, .ref o)]) hx hb dX3_renew_77 rfl hl (by decide) rfl (fun ls hl => ?_)
    refine lv_iload_n hx hb dX3_renew_78 rfl (lv_at hl 0 rfl) ?_
    refine lv_sipush (v := 800) hx hb dX3_renew_79 (by decide) ?_
    refine icmp_ge_f hx hb dX3_renew_82 162 (by decide) (by decide) ?_
    refine lv_iload_n hx hb dX3_renew_85 rfl (lv_at hl 0 rfl) ?_
    refine lv_aload_n hx hb dX3_renew_86 rfl (lv_at hl 1 rfl) ?_
    refine va_get (C := RX3) (T := TX3) (N := 4) (v := .ref fi) hx hb hts hi_X3_renew_X3 hown hK hP 0 rfl rfl 1 (by decide) (hts (.fieldLink RX3 14 "BothWays$Kinds" "finds" "LBothWays$Finds;") (by decide +kernel)) (fun _ h => h) rfl dX3_renew_87 ?_
    refine va_getN (C := RX1) (T := TX1) (N := 5) (v := .ref k) hx hb hts hi_X3_renew_X1 hown hK hP 4 rfl rfl 0 (by decide) (nf_25 hN) (fun _ h => h) rfl dX3_renew_90 ?_
    refine va_getN (C := RX2) (T := TX2) (N := 3) (v := .int 1) hx hb hts hi_X3_renew_X2 hown hK hP 8 rfl rfl 2 (by decide) (nf_19 hN) (fun _ h => h) rfl dX3_renew_93 ?_
    refine icmp_ge_f hx hb dX3_renew_96 162 (by decide) (by decide) ?_
    refine lv_aload_n hx hb dX3_renew_99 rfl (lv_at hl 1 rfl) ?_
    refine va_get (C := RX3) (T := TX3) (N := 4) (v := .ref fi) hx hb hts hi_X3_renew_X3 hown hK hP 0 rfl rfl 1 (by decide) (hts (.fieldLink RX3 14 "BothWays$Kinds" "finds" "LBothWays$Finds;") (by decide +kernel)) (fun _ h => h) rfl dX3_renew_100 ?_
    refine va_getN (C := RX1) (T := TX1) (N := 5) (v := .int 0) hx hb hts hi_X3_renew_X1 hown hK hP 4 rfl rfl 4 (by decide) (nf_30 hN) (fun _ h => h) rfl dX3_renew_103 ?_
    refine if_ne_f hx hb dX3_renew_106 162 (by decide) (by decide) ?_
    refine lv_iconst (v := 0) hx hb dX3_renew_109 (by decide) ?_
    refine lv_istore_n (lv' := [(2, .int 0), (1, .int 0), (0, .ref o)]) hx hb dX3_renew_110 rfl hl (by decide) rfl (fun ls hl => ?_)
    refine lv_iload_n hx hb dX3_renew_111 rfl (lv_at hl 0 rfl) ?_
    refine lv_iconst (v := 3) hx hb dX3_renew_112 (by decide) ?_
    refine icmp_ge_f hx hb dX3_renew_113 156 (by decide) (by decide) ?_
    refine lv_aload_n hx hb dX3_renew_116 rfl (lv_at hl 2 rfl) ?_
    refine va_get (C := RX3) (T := TX3) (N := 4) (v := .ref fi) hx hb hts hi_X3_renew_X3 hown hK hP 0 rfl rfl 1 (by decide) (hts (.fieldLink RX3 14 "BothWays$Kinds" "finds" "LBothWays$Finds;") (by decide +kernel)) (fun _ h => h) rfl dX3_renew_117 ?_
    refine lv_aload_n hx hb dX3_renew_120 rfl (lv_at hl 2 rfl) ?_
    refine va_get (C := RX3) (T := TX3) (N := 4) (v := .ref o6) hx hb hts hi_X3_renew_X3 hown hK hP 0 rfl rfl 0 (by decide) (hts (.fieldLink RX3 28 "BothWays$Kinds" "reader" "LBothWays$Reader;") (by decide +kernel)) (fun _ h => h) rfl dX3_renew_121 ?_
    refine lv_aload_n hx hb dX3_renew_124 rfl (lv_at hl 2 rfl) ?_
    refine va_get (C := RX3) (T := TX3) (N := 4) (v := .ref fi) hx hb hts hi_X3_renew_X3 hown hK hP 0 rfl rfl 1 (by decide) (hts (.fieldLink RX3 14 "BothWays$Kinds" "finds" "LBothWays$Finds;") (by decide +kernel)) (fun _ h => h) rfl dX3_renew_125 ?_
    refine va_getN (C := RX1) (T := TX1) (N := 5) (v := .ref k) hx hb hts hi_X3_renew_X1 hown hK hP 4 rfl rfl 0 (by decide) (nf_25 hN) (fun _ h => h) rfl dX3_renew_128 ?_
    refine lv_iload_n hx hb dX3_renew_131 rfl (lv_at hl 1 rfl) ?_
    refine cj_l 0 0 (wr := [(o, .inr (3, [.ref o6, .ref fi, .ref of, .int 0])), (of, .inl (cT 1, 3, .inr (.inl (vp_updL (vp_updL (vp_updL (fun _ => 0) 0 10485770) 1 10485770) 2 10485770)))), (o6, .inr (6, [.int 1, .int 0, .int 0, .int 0, .ref a6])), (a6, .inl (cT 0, 25, .inl (fun _ => (-1)))), (fi, .inr (1, [.ref k, .ref pa, .ref la, .ref le, .int 0])), (pa, .inl (cT 0, 800, .inl (upd (fun _ => 0) 0 (-1)))), (la, .inl (cT 0, 800, .inl (fun _ => 0))), (le, .inl (cT 0, 800, .inl (upd (fun _ => 0) 0 1))), (b, .inl (cT 0, 2048, .inl (upd (fun _ => 0) 591 1)))]) (va_runV (As := [.int 0]) (rest := [.ref o6, .ref fi]) ⟨hx, hb, hml, hown, hts⟩ (c_K_keyAt_800_10485770 l g cT H.size k a b) (cwV 1 hts gX3_renew_X2_keyAt rfl rfl rfl yd_X2_keyAt ⟨(Nat.le_of_ble_eq_true rfl), (Nat.le_of_ble_eq_true rfl)⟩) (preV (wc := [(k, .inr (2, [.ref a, .ref b, .int 1])), (a, .inl (cT 1, 800, .inr (.inl (vp_updL (fun _ => 0) 0 10485770))))]) rfl hP hD hK hN hZ hS hA [8, 9] rfl (by decide) (ci := 2) (q0 := 8) rfl rfl) rfl rfl hl.1 rfl (lv_room (Nat.le_of_ble_eq_true rfl)) dX3_renew_132 ⟨(Nat.le_of_ble_eq_true rfl), (Nat.le_of_ble_eq_true rfl)⟩) hP hD hS hA [8, 9] [0, 1, 2, 3, 4, 5, 6, 7, 10] rfl rfl (by decide) (by decide) (Nat.le_of_ble_eq_true rfl) (Nat.le_of_ble_eq_true rfl) (fun r_15 u H locs h_16 hP hD hS => ?_)
    have hP : va_P g vwCl [(o, .inr (3, [.ref o6, .ref fi, .ref of, .int 0])), (of, .inl (cT 1, 3, .inr (.inl (vp_updL (vp_updL (vp_updL (fun _ => 0) 0 10485770) 1 10485770) 2 10485770)))), (o6, .inr (6, [.int 1, .int 0, .int 0, .int 0, .ref a6])), (a6, .inl (cT 0, 25, .inl (fun _ => (-1)))), (fi, .inr (1, [.ref k, .ref pa, .ref la, .ref le, .int 0])), (pa, .inl (cT 0, 800, .inl (upd (fun _ => 0) 0 (-1)))), (la, .inl (cT 0, 800, .inl (fun _ => 0))), (le, .inl (cT 0, 800, .inl (upd (fun _ => 0) 0 1))), (b, .inl (cT 0, 2048, .inl (upd (fun _ => 0) 591 1))), (k, .inr (2, [.ref a, .ref b, .int 1])), (a, .inl (cT 1, 800, .inr (.inl (vp_updL (fun _ => 0) 0 10485770))))] H := hP
    have hD : va_D A [(o, .inr (3, [.ref o6, .ref fi, .ref of, .int 0])), (of, .inl (cT 1, 3, .inr (.inl (vp_updL (vp_updL (vp_updL (fun _ => 0) 0 10485770) 1 10485770) 2 10485770)))), (o6, .inr (6, [.int 1, .int 0, .int 0, .int 0, .ref a6])), (a6, .inl (cT 0, 25, .inl (fun _ => (-1)))), (fi, .inr (1, [.ref k, .ref pa, .ref la, .ref le, .int 0])), (pa, .inl (cT 0, 800, .inl (upd (fun _ => 0) 0 (-1)))), (la, .inl (cT 0, 800, .inl (fun _ => 0))), (le, .inl (cT 0, 800, .inl (upd (fun _ => 0) 0 1))), (b, .inl (cT 0, 2048, .inl (upd (fun _ => 0) 591 1))), (k, .inr (2, [.ref a, .ref b, .int 1])), (a, .inl (cT 1, 800, .inr (.inl (vp_updL (fun _ => 0) 0 10485770))))] := hD
    subst h_16
    refine lv_aload_n hx hb dX3_renew_135 rfl (lv_at hl 2 rfl) ?_
    refine va_get (C := RX3) (T := TX3) (N := 4) (v := .ref of) hx hb hts hi_X3_renew_X3 hown hK hP 0 rfl rfl 2 (by decide) (hts (.fieldLink RX3 20 "BothWays$Kinds" "ofLetters" "[J") (by decide +kernel)) (fun _ h => h) rfl dX3_renew_136 ?_
    refine lv_iload_n hx hb dX3_renew_139 rfl (lv_at hl 0 rfl) ?_
    refine w_lald (v := 10485770) hx hb hK hP 1 rfl dX3_renew_140 (inC (by decide)) (by decide) ?_
    refine cj_l 0 0 (wr := [(o, .inr (3, [.ref o6, .ref fi, .ref of, .int 0])), (of, .inl (cT 1, 3, .inr (.inl (vp_updL (vp_updL (vp_updL (fun _ => 0) 0 10485770) 1 10485770) 2 10485770)))), (fi, .inr (1, [.ref k, .ref pa, .ref la, .ref le, .int 0])), (pa, .inl (cT 0, 800, .inl (upd (fun _ => 0) 0 (-1)))), (la, .inl (cT 0, 800, .inl (fun _ => 0))), (le, .inl (cT 0, 800, .inl (upd (fun _ => 0) 0 1))), (b, .inl (cT 0, 2048, .inl (upd (fun _ => 0) 591 1))), (k, .inr (2, [.ref a, .ref b, .int 1])), (a, .inl (cT 1, 800, .inr (.inl (vp_updL (fun _ => 0) 0 10485770))))]) (va_runS (As := [.ref o6, .long 10485770, .long 10485770]) (rest := [.ref fi]) ⟨hx, hb, hml, hown, hts⟩ (c_Ki_joined l g cT H.size o6 a6) (va_cwS 3 hts gX3_renew_X3_joined rfl rfl rfl yd_X3_joined.2 ⟨(Nat.le_of_ble_eq_true rfl), (Nat.le_of_ble_eq_true rfl)⟩) (preS (wc := [(o6, .inr (6, [.int 1, .int 0, .int 0, .int 0, .ref a6])), (a6, .inl (cT 0, 25, .inl (fun _ => (-1))))]) rfl hP hD hK hN hZ hS hA [2, 3] rfl (by decide)) rfl rfl hl.1 rfl (lv_room (Nat.le_of_ble_eq_true rfl)) dX3_renew_141 ⟨(Nat.le_of_ble_eq_true rfl), (Nat.le_of_ble_eq_true rfl)⟩) hP hD hS hA [2, 3] [0, 1, 4, 5, 6, 7, 8, 9, 10] rfl rfl (by decide) (by decide) (Nat.le_of_ble_eq_true rfl) (Nat.le_of_ble_eq_true rfl) (fun r_17 u H locs h_18 hP hD hS => ?_)
    have hP : va_P g vwCl [(o, .inr (3, [.ref o6, .ref fi, .ref of, .int 0])), (of, .inl (cT 1, 3, .inr (.inl (vp_updL (vp_updL (vp_updL (fun _ => 0) 0 10485770) 1 10485770) 2 10485770)))), (fi, .inr (1, [.ref k, .ref pa, .ref la, .ref le, .int 0])), (pa, .inl (cT 0, 800, .inl (upd (fun _ => 0) 0 (-1)))), (la, .inl (cT 0, 800, .inl (fun _ => 0))), (le, .inl (cT 0, 800, .inl (upd (fun _ => 0) 0 1))), (b, .inl (cT 0, 2048, .inl (upd (fun _ => 0) 591 1))), (k, .inr (2, [.ref a, .ref b, .int 1])), (a, .inl (cT 1, 800, .inr (.inl (vp_updL (fun _ => 0) 0 10485770)))), (o6, .inr (6, [.int 1, .int 0, .int 0, .int 0, .ref a6])), (a6, .inl (cT 0, 25, .inl (fun _ => (-1))))] H := hP
    have hD : va_D A [(o, .inr (3, [.ref o6, .ref fi, .ref of, .int 0])), (of, .inl (cT 1, 3, .inr (.inl (vp_updL (vp_updL (vp_updL (fun _ => 0) 0 10485770) 1 10485770) 2 10485770)))), (fi, .inr (1, [.ref k, .ref pa, .ref la, .ref le, .int 0])), (pa, .inl (cT 0, 800, .inl (upd (fun _ => 0) 0 (-1)))), (la, .inl (cT 0, 800, .inl (fun _ => 0))), (le, .inl (cT 0, 800, .inl (upd (fun _ => 0) 0 1))), (b, .inl (cT 0, 2048, .inl (upd (fun _ => 0) 591 1))), (k, .inr (2, [.ref a, .ref b, .int 1])), (a, .inl (cT 1, 800, .inr (.inl (vp_updL (fun _ => 0) 0 10485770)))), (o6, .inr (6, [.int 1, .int 0, .int 0, .int 0, .ref a6])), (a6, .inl (cT 0, 25, .inl (fun _ => (-1))))] := hD
    subst h_18
    refine lv_iload_n hx hb dX3_renew_144 rfl (lv_at hl 1 rfl) ?_
    refine lv_iload_n hx hb dX3_renew_145 rfl (lv_at hl 0 rfl) ?_
    refine cj_i 0 0 (wr := [(o, .inr (3, [.ref o6, .ref fi, .ref of, .int 0])), (of, .inl (cT 1, 3, .inr (.inl (vp_updL (vp_updL (vp_updL (fun _ => 0) 0 10485770) 1 10485770) 2 10485770)))), (o6, .inr (6, [.int 1, .int 0, .int 0, .int 0, .ref a6])), (a6, .inl (cT 0, 25, .inl (fun _ => (-1))))]) (va_runV (As := [.long 10485770, .int 0, .int 0]) (rest := []) ⟨hx, hb, hml, hown, hts⟩ (c_F_reach_800_10485770p l g cT H.size fi k a b pa la le 0 0) (cwV 3 hts gX3_renew_X1_reach rfl rfl rfl yd_X1_reach ⟨(Nat.le_of_ble_eq_true rfl), (Nat.le_of_ble_eq_true rfl)⟩) (preV (wc := [(fi, .inr (1, [.ref k, .ref pa, .ref la, .ref le, .int 0])), (pa, .inl (cT 0, 800, .inl (upd (fun _ => 0) 0 (-1)))), (la, .inl (cT 0, 800, .inl (fun _ => 0))), (le, .inl (cT 0, 800, .inl (upd (fun _ => 0) 0 1))), (k, .inr (2, [.ref a, .ref b, .int 1])), (a, .inl (cT 1, 800, .inr (.inl (vp_updL (fun _ => 0) 0 10485770)))), (b, .inl (cT 0, 2048, .inl (upd (fun _ => 0) 591 1)))]) rfl hP hD hK hN hZ hS hA [2, 3, 4, 5, 7, 8, 6] rfl (by decide) (ci := 1) (q0 := 2) rfl rfl) rfl rfl hl.1 rfl (lv_room (Nat.le_of_ble_eq_true rfl)) dX3_renew_146 ⟨(Nat.le_of_ble_eq_true rfl), (Nat.le_of_ble_eq_true rfl)⟩) hP hD hS hA [2, 3, 4, 5, 7, 8, 6] [0, 1, 9, 10] rfl rfl (by decide) (by decide) (Nat.le_of_ble_eq_true rfl) (Nat.le_of_ble_eq_true rfl) (fun r_19 u H locs h_20 hP hD hS => ?_)
    have hP : va_P g vwCl [(o, .inr (3, [.ref o6, .ref fi, .ref of, .int 0])), (of, .inl (cT 1, 3, .inr (.inl (vp_updL (vp_updL (vp_updL (fun _ => 0) 0 10485770) 1 10485770) 2 10485770)))), (o6, .inr (6, [.int 1, .int 0, .int 0, .int 0, .ref a6])), (a6, .inl (cT 0, 25, .inl (fun _ => (-1)))), (fi, .inr (1, [.ref k, .ref pa, .ref la, .ref le, .int 0])), (pa, .inl (cT 0, 800, .inl (upd (fun _ => 0) 0 (-1)))), (la, .inl (cT 0, 800, .inl (fun _ => 0))), (le, .inl (cT 0, 800, .inl (upd (fun _ => 0) 0 1))), (k, .inr (2, [.ref a, .ref b, .int 1])), (a, .inl (cT 1, 800, .inr (.inl (vp_updL (fun _ => 0) 0 10485770)))), (b, .inl (cT 0, 2048, .inl (upd (fun _ => 0) 591 1)))] H := hP
    have hD : va_D A [(o, .inr (3, [.ref o6, .ref fi, .ref of, .int 0])), (of, .inl (cT 1, 3, .inr (.inl (vp_updL (vp_updL (vp_updL (fun _ => 0) 0 10485770) 1 10485770) 2 10485770)))), (o6, .inr (6, [.int 1, .int 0, .int 0, .int 0, .ref a6])), (a6, .inl (cT 0, 25, .inl (fun _ => (-1)))), (fi, .inr (1, [.ref k, .ref pa, .ref la, .ref le, .int 0])), (pa, .inl (cT 0, 800, .inl (upd (fun _ => 0) 0 (-1)))), (la, .inl (cT 0, 800, .inl (fun _ => 0))), (le, .inl (cT 0, 800, .inl (upd (fun _ => 0) 0 1))), (k, .inr (2, [.ref a, .ref b, .int 1])), (a, .inl (cT 1, 800, .inr (.inl (vp_updL (fun _ => 0) 0 10485770)))), (b, .inl (cT 0, 2048, .inl (upd (fun _ => 0) 591 1)))] := hD
    subst h_20
    refine lv_pop hx hb dX3_renew_149 rfl ?_
    refine lv_iinc (v := 1) (lv' := [(2, .int 1), (1, .int 0), (0, .ref o)]) hx hb dX3_renew_150 hl (k := 0) rfl (by decide) (by decide) rfl (fun ls hl => ?_)
    refine lv_goto (tgt := 111) hx hb dX3_renew_153 (by decide) ?_
    refine lv_iload_n hx hb dX3_renew_111 rfl (lv_at hl 0 rfl) ?_
    refine lv_iconst (v := 3) hx hb dX3_renew_112 (by decide) ?_
    refine icmp_ge_f hx hb dX3_renew_113 156 (by decide) (by decide) ?_
    refine lv_aload_n hx hb dX3_renew_116 rfl (lv_at hl 2 rfl) ?_
    refine va_get (C := RX3) (T := TX3) (N := 4) (v := .ref fi) hx hb hts hi_X3_renew_X3 hown hK hP 0 rfl rfl 1 (by decide) (hts (.fieldLink RX3 14 "BothWays$Kinds" "finds" "LBothWays$Finds;") (by decide +kernel)) (fun _ h => h) rfl dX3_renew_117 ?_
    refine lv_aload_n hx hb dX3_renew_120 rfl (lv_at hl 2 rfl) ?_
    refine va_get (C := RX3) (T := TX3) (N := 4) (v := .ref o6) hx hb hts hi_X3_renew_X3 hown hK hP 0 rfl rfl 0 (by decide) (hts (.fieldLink RX3 28 "BothWays$Kinds" "reader" "LBothWays$Reader;") (by decide +kernel)) (fun _ h => h) rfl dX3_renew_121 ?_
    refine lv_aload_n hx hb dX3_renew_124 rfl (lv_at hl 2 rfl) ?_
    refine va_get (C := RX3) (T := TX3) (N := 4) (v := .ref fi) hx hb hts hi_X3_renew_X3 hown hK hP 0 rfl rfl 1 (by decide) (hts (.fieldLink RX3 14 "BothWays$Kinds" "finds" "LBothWays$Finds;") (by decide +kernel)) (fun _ h => h) rfl dX3_renew_125 ?_
    refine va_getN (C := RX1) (T := TX1) (N := 5) (v := .ref k) hx hb hts hi_X3_renew_X1 hown hK hP 4 rfl rfl 0 (by decide) (nf_25 hN) (fun _ h => h) rfl dX3_renew_128 ?_
    refine lv_iload_n hx hb dX3_renew_131 rfl (lv_at hl 1 rfl) ?_
    refine cj_l 0 0 (wr := [(o, .inr (3, [.ref o6, .ref fi, .ref of, .int 0])), (of, .inl (cT 1, 3, .inr (.inl (vp_updL (vp_updL (vp_updL (fun _ => 0) 0 10485770) 1 10485770) 2 10485770)))), (o6, .inr (6, [.int 1, .int 0, .int 0, .int 0, .ref a6])), (a6, .inl (cT 0, 25, .inl (fun _ => (-1)))), (fi, .inr (1, [.ref k, .ref pa, .ref la, .ref le, .int 0])), (pa, .inl (cT 0, 800, .inl (upd (fun _ => 0) 0 (-1)))), (la, .inl (cT 0, 800, .inl (fun _ => 0))), (le, .inl (cT 0, 800, .inl (upd (fun _ => 0) 0 1))), (b, .inl (cT 0, 2048, .inl (upd (fun _ => 0) 591 1)))]) (va_runV (As := [.int 0]) (rest := [.ref o6, .ref fi]) ⟨hx, hb, hml, hown, hts⟩ (c_K_keyAt_800_10485770 l g cT H.size k a b) (cwV 1 hts gX3_renew_X2_keyAt rfl rfl rfl yd_X2_keyAt ⟨(Nat.le_of_ble_eq_true rfl), (Nat.le_of_ble_eq_true rfl)⟩) (preV (wc := [(k, .inr (2, [.ref a, .ref b, .int 1])), (a, .inl (cT 1, 800, .inr (.inl (vp_updL (fun _ => 0) 0 10485770))))]) rfl hP hD hK hN hZ hS hA [8, 9] rfl (by decide) (ci := 2) (q0 := 8) rfl rfl) rfl rfl hl.1 rfl (lv_room (Nat.le_of_ble_eq_true rfl)) dX3_renew_132 ⟨(Nat.le_of_ble_eq_true rfl), (Nat.le_of_ble_eq_true rfl)⟩) hP hD hS hA [8, 9] [0, 1, 2, 3, 4, 5, 6, 7, 10] rfl rfl (by decide) (by decide) (Nat.le_of_ble_eq_true rfl) (Nat.le_of_ble_eq_true rfl) (fun r_21 u H locs h_22 hP hD hS => ?_)
    have hP : va_P g vwCl [(o, .inr (3, [.ref o6, .ref fi, .ref of, .int 0])), (of, .inl (cT 1, 3, .inr (.inl (vp_updL (vp_updL (vp_updL (fun _ => 0) 0 10485770) 1 10485770) 2 10485770)))), (o6, .inr (6, [.int 1, .int 0, .int 0, .int 0, .ref a6])), (a6, .inl (cT 0, 25, .inl (fun _ => (-1)))), (fi, .inr (1, [.ref k, .ref pa, .ref la, .ref le, .int 0])), (pa, .inl (cT 0, 800, .inl (upd (fun _ => 0) 0 (-1)))), (la, .inl (cT 0, 800, .inl (fun _ => 0))), (le, .inl (cT 0, 800, .inl (upd (fun _ => 0) 0 1))), (b, .inl (cT 0, 2048, .inl (upd (fun _ => 0) 591 1))), (k, .inr (2, [.ref a, .ref b, .int 1])), (a, .inl (cT 1, 800, .inr (.inl (vp_updL (fun _ => 0) 0 10485770))))] H := hP
    have hD : va_D A [(o, .inr (3, [.ref o6, .ref fi, .ref of, .int 0])), (of, .inl (cT 1, 3, .inr (.inl (vp_updL (vp_updL (vp_updL (fun _ => 0) 0 10485770) 1 10485770) 2 10485770)))), (o6, .inr (6, [.int 1, .int 0, .int 0, .int 0, .ref a6])), (a6, .inl (cT 0, 25, .inl (fun _ => (-1)))), (fi, .inr (1, [.ref k, .ref pa, .ref la, .ref le, .int 0])), (pa, .inl (cT 0, 800, .inl (upd (fun _ => 0) 0 (-1)))), (la, .inl (cT 0, 800, .inl (fun _ => 0))), (le, .inl (cT 0, 800, .inl (upd (fun _ => 0) 0 1))), (b, .inl (cT 0, 2048, .inl (upd (fun _ => 0) 591 1))), (k, .inr (2, [.ref a, .ref b, .int 1])), (a, .inl (cT 1, 800, .inr (.inl (vp_updL (fun _ => 0) 0 10485770))))] := hD
    subst h_22
    refine lv_aload_n hx hb dX3_renew_135 rfl (lv_at hl 2 rfl) ?_
    refine va_get (C := RX3) (T := TX3) (N := 4) (v := .ref of) hx hb hts hi_X3_renew_X3 hown hK hP 0 rfl rfl 2 (by decide) (hts (.fieldLink RX3 20 "BothWays$Kinds" "ofLetters" "[J") (by decide +kernel)) (fun _ h => h) rfl dX3_renew_136 ?_
    refine lv_iload_n hx hb dX3_renew_139 rfl (lv_at hl 0 rfl) ?_
    refine w_lald (v := 10485770) hx hb hK hP 1 rfl dX3_renew_140 (inC (by decide)) (by decide) ?_
    refine cj_l 0 0 (wr := [(o, .inr (3, [.ref o6, .ref fi, .ref of, .int 0])), (of, .inl (cT 1, 3, .inr (.inl (vp_updL (vp_updL (vp_updL (fun _ => 0) 0 10485770) 1 10485770) 2 10485770)))), (fi, .inr (1, [.ref k, .ref pa, .ref la, .ref le, .int 0])), (pa, .inl (cT 0, 800, .inl (upd (fun _ => 0) 0 (-1)))), (la, .inl (cT 0, 800, .inl (fun _ => 0))), (le, .inl (cT 0, 800, .inl (upd (fun _ => 0) 0 1))), (b, .inl (cT 0, 2048, .inl (upd (fun _ => 0) 591 1))), (k, .inr (2, [.ref a, .ref b, .int 1])), (a, .inl (cT 1, 800, .inr (.inl (vp_updL (fun _ => 0) 0 10485770))))]) (va_runS (As := [.ref o6, .long 10485770, .long 10485770]) (rest := [.ref fi]) ⟨hx, hb, hml, hown, hts⟩ (c_Ki_joined l g cT H.size o6 a6) (va_cwS 3 hts gX3_renew_X3_joined rfl rfl rfl yd_X3_joined.2 ⟨(Nat.le_of_ble_eq_true rfl), (Nat.le_of_ble_eq_true rfl)⟩) (preS (wc := [(o6, .inr (6, [.int 1, .int 0, .int 0, .int 0, .ref a6])), (a6, .inl (cT 0, 25, .inl (fun _ => (-1))))]) rfl hP hD hK hN hZ hS hA [2, 3] rfl (by decide)) rfl rfl hl.1 rfl (lv_room (Nat.le_of_ble_eq_true rfl)) dX3_renew_141 ⟨(Nat.le_of_ble_eq_true rfl), (Nat.le_of_ble_eq_true rfl)⟩) hP hD hS hA [2, 3] [0, 1, 4, 5, 6, 7, 8, 9, 10] rfl rfl (by decide) (by decide) (Nat.le_of_ble_eq_true rfl) (Nat.le_of_ble_eq_true rfl) (fun r_23 u H locs h_24 hP hD hS => ?_)
    have hP : va_P g vwCl [(o, .inr (3, [.ref o6, .ref fi, .ref of, .int 0])), (of, .inl (cT 1, 3, .inr (.inl (vp_updL (vp_updL (vp_updL (fun _ => 0) 0 10485770) 1 10485770) 2 10485770)))), (fi, .inr (1, [.ref k, .ref pa, .ref la, .ref le, .int 0])), (pa, .inl (cT 0, 800, .inl (upd (fun _ => 0) 0 (-1)))), (la, .inl (cT 0, 800, .inl (fun _ => 0))), (le, .inl (cT 0, 800, .inl (upd (fun _ => 0) 0 1))), (b, .inl (cT 0, 2048, .inl (upd (fun _ => 0) 591 1))), (k, .inr (2, [.ref a, .ref b, .int 1])), (a, .inl (cT 1, 800, .inr (.inl (vp_updL (fun _ => 0) 0 10485770)))), (o6, .inr (6, [.int 1, .int 0, .int 0, .int 0, .ref a6])), (a6, .inl (cT 0, 25, .inl (fun _ => (-1))))] H := hP
    have hD : va_D A [(o, .inr (3, [.ref o6, .ref fi, .ref of, .int 0])), (of, .inl (cT 1, 3, .inr (.inl (vp_updL (vp_updL (vp_updL (fun _ => 0) 0 10485770) 1 10485770) 2 10485770)))), (fi, .inr (1, [.ref k, .ref pa, .ref la, .ref le, .int 0])), (pa, .inl (cT 0, 800, .inl (upd (fun _ => 0) 0 (-1)))), (la, .inl (cT 0, 800, .inl (fun _ => 0))), (le, .inl (cT 0, 800, .inl (upd (fun _ => 0) 0 1))), (b, .inl (cT 0, 2048, .inl (upd (fun _ => 0) 591 1))), (k, .inr (2, [.ref a, .ref b, .int 1])), (a, .inl (cT 1, 800, .inr (.inl (vp_updL (fun _ => 0) 0 10485770)))), (o6, .inr (6, [.int 1, .int 0, .int 0, .int 0, .ref a6])), (a6, .inl (cT 0, 25, .inl (fun _ => (-1))))] := hD
    subst h_24
    refine lv_iload_n hx hb dX3_renew_144 rfl (lv_at hl 1 rfl) ?_
    refine lv_iload_n hx hb dX3_renew_145 rfl (lv_at hl 0 rfl) ?_
    refine cj_i 0 0 (wr := [(o, .inr (3, [.ref o6, .ref fi, .ref of, .int 0])), (of, .inl (cT 1, 3, .inr (.inl (vp_updL (vp_updL (vp_updL (fun _ => 0) 0 10485770) 1 10485770) 2 10485770)))), (o6, .inr (6, [.int 1, .int 0, .int 0, .int 0, .ref a6])), (a6, .inl (cT 0, 25, .inl (fun _ => (-1))))]) (va_runV (As := [.long 10485770, .int 0, .int 1]) (rest := []) ⟨hx, hb, hml, hown, hts⟩ (c_F_reach_800_10485770p l g cT H.size fi k a b pa la le 0 1) (cwV 3 hts gX3_renew_X1_reach rfl rfl rfl yd_X1_reach ⟨(Nat.le_of_ble_eq_true rfl), (Nat.le_of_ble_eq_true rfl)⟩) (preV (wc := [(fi, .inr (1, [.ref k, .ref pa, .ref la, .ref le, .int 0])), (pa, .inl (cT 0, 800, .inl (upd (fun _ => 0) 0 (-1)))), (la, .inl (cT 0, 800, .inl (fun _ => 0))), (le, .inl (cT 0, 800, .inl (upd (fun _ => 0) 0 1))), (k, .inr (2, [.ref a, .ref b, .int 1])), (a, .inl (cT 1, 800, .inr (.inl (vp_updL (fun _ => 0) 0 10485770)))), (b, .inl (cT 0, 2048, .inl (upd (fun _ => 0) 591 1)))]) rfl hP hD hK hN hZ hS hA [2, 3, 4, 5, 7, 8, 6] rfl (by decide) (ci := 1) (q0 := 2) rfl rfl) rfl rfl hl.1 rfl (lv_room (Nat.le_of_ble_eq_true rfl)) dX3_renew_146 ⟨(Nat.le_of_ble_eq_true rfl), (Nat.le_of_ble_eq_true rfl)⟩) hP hD hS hA [2, 3, 4, 5, 7, 8, 6] [0, 1, 9, 10] rfl rfl (by decide) (by decide) (Nat.le_of_ble_eq_true rfl) (Nat.le_of_ble_eq_true rfl) (fun r_25 u H locs h_26 hP hD hS => ?_)
    have hP : va_P g vwCl [(o, .inr (3, [.ref o6, .ref fi, .ref of, .int 0])), (of, .inl (cT 1, 3, .inr (.inl (vp_updL (vp_updL (vp_updL (fun _ => 0) 0 10485770) 1 10485770) 2 10485770)))), (o6, .inr (6, [.int 1, .int 0, .int 0, .int 0, .ref a6])), (a6, .inl (cT 0, 25, .inl (fun _ => (-1)))), (fi, .inr (1, [.ref k, .ref pa, .ref la, .ref le, .int 0])), (pa, .inl (cT 0, 800, .inl (upd (fun _ => 0) 0 (-1)))), (la, .inl (cT 0, 800, .inl (fun _ => 0))), (le, .inl (cT 0, 800, .inl (upd (fun _ => 0) 0 1))), (k, .inr (2, [.ref a, .ref b, .int 1])), (a, .inl (cT 1, 800, .inr (.inl (vp_updL (fun _ => 0) 0 10485770)))), (b, .inl (cT 0, 2048, .inl (upd (fun _ => 0) 591 1)))] H := hP
    have hD : va_D A [(o, .inr (3, [.ref o6, .ref fi, .ref of, .int 0])), (of, .inl (cT 1, 3, .inr (.inl (vp_updL (vp_updL (vp_updL (fun _ => 0) 0 10485770) 1 10485770) 2 10485770)))), (o6, .inr (6, [.int 1, .int 0, .int 0, .int 0, .ref a6])), (a6, .inl (cT 0, 25, .inl (fun _ => (-1)))), (fi, .inr (1, [.ref k, .ref pa, .ref la, .ref le, .int 0])), (pa, .inl (cT 0, 800, .inl (upd (fun _ => 0) 0 (-1)))), (la, .inl (cT 0, 800, .inl (fun _ => 0))), (le, .inl (cT 0, 800, .inl (upd (fun _ => 0) 0 1))), (k, .inr (2, [.ref a, .ref b, .int 1])), (a, .inl (cT 1, 800, .inr (.inl (vp_updL (fun _ => 0) 0 10485770)))), (b, .inl (cT 0, 2048, .inl (upd (fun _ => 0) 591 1)))] := hD
    subst h_26
    refine lv_pop hx hb dX3_renew_149 rfl ?_
    refine lv_iinc (v := 2) (lv' := [(2, .int 2), (1, .int 0), (0, .ref o)]) hx hb dX3_renew_150 hl (k := 0) rfl (by decide) (by decide) rfl (fun ls hl => ?_)
    refine lv_goto (tgt := 111) hx hb dX3_renew_153 (by decide) ?_
    refine lv_iload_n hx hb dX3_renew_111 rfl (lv_at hl 0 rfl) ?_
    refine lv_iconst (v := 3) hx hb dX3_renew_112 (by decide) ?_
    refine icmp_ge_f hx hb dX3_renew_113 156 (by decide) (by decide) ?_
    refine lv_aload_n hx hb dX3_renew_116 rfl (lv_at hl 2 rfl) ?_
    refine va_get (C := RX3) (T := TX3) (N := 4) (v := .ref fi) hx hb hts hi_X3_renew_X3 hown hK hP 0 rfl rfl 1 (by decide) (hts (.fieldLink RX3 14 "BothWays$Kinds" "finds" "LBothWays$Finds;") (by decide +kernel)) (fun _ h => h) rfl dX3_renew_117 ?_
    refine lv_aload_n hx hb dX3_renew_120 rfl (lv_at hl 2 rfl) ?_
    refine va_get (C := RX3) (T := TX3) (N := 4) (v := .ref o6) hx hb hts hi_X3_renew_X3 hown hK hP 0 rfl rfl 0 (by decide) (hts (.fieldLink RX3 28 "BothWays$Kinds" "reader" "LBothWays$Reader;") (by decide +kernel)) (fun _ h => h) rfl dX3_renew_121 ?_
    refine lv_aload_n hx hb dX3_renew_124 rfl (lv_at hl 2 rfl) ?_
    refine va_get (C := RX3) (T := TX3) (N := 4) (v := .ref fi) hx hb hts hi_X3_renew_X3 hown hK hP 0 rfl rfl 1 (by decide) (hts (.fieldLink RX3 14 "BothWays$Kinds" "finds" "LBothWays$Finds;") (by decide +kernel)) (fun _ h => h) rfl dX3_renew_125 ?_
    refine va_getN (C := RX1) (T := TX1) (N := 5) (v := .ref k) hx hb hts hi_X3_renew_X1 hown hK hP 4 rfl rfl 0 (by decide) (nf_25 hN) (fun _ h => h) rfl dX3_renew_128 ?_
    refine lv_iload_n hx hb dX3_renew_131 rfl (lv_at hl 1 rfl) ?_
    refine cj_l 0 0 (wr := [(o, .inr (3, [.ref o6, .ref fi, .ref of, .int 0])), (of, .inl (cT 1, 3, .inr (.inl (vp_updL (vp_updL (vp_updL (fun _ => 0) 0 10485770) 1 10485770) 2 10485770)))), (o6, .inr (6, [.int 1, .int 0, .int 0, .int 0, .ref a6])), (a6, .inl (cT 0, 25, .inl (fun _ => (-1)))), (fi, .inr (1, [.ref k, .ref pa, .ref la, .ref le, .int 0])), (pa, .inl (cT 0, 800, .inl (upd (fun _ => 0) 0 (-1)))), (la, .inl (cT 0, 800, .inl (fun _ => 0))), (le, .inl (cT 0, 800, .inl (upd (fun _ => 0) 0 1))), (b, .inl (cT 0, 2048, .inl (upd (fun _ => 0) 591 1)))]) (va_runV (As := [.int 0]) (rest := [.ref o6, .ref fi]) ⟨hx, hb, hml, hown, hts⟩ (c_K_keyAt_800_10485770 l g cT H.size k a b) (cwV 1 hts gX3_renew_X2_keyAt rfl rfl rfl yd_X2_keyAt ⟨(Nat.le_of_ble_eq_true rfl), (Nat.le_of_ble_eq_true rfl)⟩) (preV (wc := [(k, .inr (2, [.ref a, .ref b, .int 1])), (a, .inl (cT 1, 800, .inr (.inl (vp_updL (fun _ => 0) 0 10485770))))]) rfl hP hD hK hN hZ hS hA [8, 9] rfl (by decide) (ci := 2) (q0 := 8) rfl rfl) rfl rfl hl.1 rfl (lv_room (Nat.le_of_ble_eq_true rfl)) dX3_renew_132 ⟨(Nat.le_of_ble_eq_true rfl), (Nat.le_of_ble_eq_true rfl)⟩) hP hD hS hA [8, 9] [0, 1, 2, 3, 4, 5, 6, 7, 10] rfl rfl (by decide) (by decide) (Nat.le_of_ble_eq_true rfl) (Nat.le_of_ble_eq_true rfl) (fun r_27 u H locs h_28 hP hD hS => ?_)
    have hP : va_P g vwCl [(o, .inr (3, [.ref o6, .ref fi, .ref of, .int 0])), (of, .inl (cT 1, 3, .inr (.inl (vp_updL (vp_updL (vp_updL (fun _ => 0) 0 10485770) 1 10485770) 2 10485770)))), (o6, .inr (6, [.int 1, .int 0, .int 0, .int 0, .ref a6])), (a6, .inl (cT 0, 25, .inl (fun _ => (-1)))), (fi, .inr (1, [.ref k, .ref pa, .ref la, .ref le, .int 0])), (pa, .inl (cT 0, 800, .inl (upd (fun _ => 0) 0 (-1)))), (la, .inl (cT 0, 800, .inl (fun _ => 0))), (le, .inl (cT 0, 800, .inl (upd (fun _ => 0) 0 1))), (b, .inl (cT 0, 2048, .inl (upd (fun _ => 0) 591 1))), (k, .inr (2, [.ref a, .ref b, .int 1])), (a, .inl (cT 1, 800, .inr (.inl (vp_updL (fun _ => 0) 0 10485770))))] H := hP
    have hD : va_D A [(o, .inr (3, [.ref o6, .ref fi, .ref of, .int 0])), (of, .inl (cT 1, 3, .inr (.inl (vp_updL (vp_updL (vp_updL (fun _ => 0) 0 10485770) 1 10485770) 2 10485770)))), (o6, .inr (6, [.int 1, .int 0, .int 0, .int 0, .ref a6])), (a6, .inl (cT 0, 25, .inl (fun _ => (-1)))), (fi, .inr (1, [.ref k, .ref pa, .ref la, .ref le, .int 0])), (pa, .inl (cT 0, 800, .inl (upd (fun _ => 0) 0 (-1)))), (la, .inl (cT 0, 800, .inl (fun _ => 0))), (le, .inl (cT 0, 800, .inl (upd (fun _ => 0) 0 1))), (b, .inl (cT 0, 2048, .inl (upd (fun _ => 0) 591 1))), (k, .inr (2, [.ref a, .ref b, .int 1])), (a, .inl (cT 1, 800, .inr (.inl (vp_updL (fun _ => 0) 0 10485770))))] := hD
    subst h_28
    refine lv_aload_n hx hb dX3_renew_135 rfl (lv_at hl 2 rfl) ?_
    refine va_get (C := RX3) (T := TX3) (N := 4) (v := .ref of) hx hb hts hi_X3_renew_X3 hown hK hP 0 rfl rfl 2 (by decide) (hts (.fieldLink RX3 20 "BothWays$Kinds" "ofLetters" "[J") (by decide +kernel)) (fun _ h => h) rfl dX3_renew_136 ?_
    refine lv_iload_n hx hb dX3_renew_139 rfl (lv_at hl 0 rfl) ?_
    refine w_lald (v := 10485770) hx hb hK hP 1 rfl dX3_renew_140 (inC (by decide)) (by decide) ?_
    refine cj_l 0 0 (wr := [(o, .inr (3, [.ref o6, .ref fi, .ref of, .int 0])), (of, .inl (cT 1, 3, .inr (.inl (vp_updL (vp_updL (vp_updL (fun _ => 0) 0 10485770) 1 10485770) 2 10485770)))), (fi, .inr (1, [.ref k, .ref pa, .ref la, .ref le, .int 0])), (pa, .inl (cT 0, 800, .inl (upd (fun _ => 0) 0 (-1)))), (la, .inl (cT 0, 800, .inl (fun _ => 0))), (le, .inl (cT 0, 800, .inl (upd (fun _ => 0) 0 1))), (b, .inl (cT 0, 2048, .inl (upd (fun _ => 0) 591 1))), (k, .inr (2, [.ref a, .ref b, .int 1])), (a, .inl (cT 1, 800, .inr (.inl (vp_updL (fun _ => 0) 0 10485770))))]) (va_runS (As := [.ref o6, .long 10485770, .long 10485770]) (rest := [.ref fi]) ⟨hx, hb, hml, hown, hts⟩ (c_Ki_joined l g cT H.size o6 a6) (va_cwS 3 hts gX3_renew_X3_joined rfl rfl rfl yd_X3_joined.2 ⟨(Nat.le_of_ble_eq_true rfl), (Nat.le_of_ble_eq_true rfl)⟩) (preS (wc := [(o6, .inr (6, [.int 1, .int 0, .int 0, .int 0, .ref a6])), (a6, .inl (cT 0, 25, .inl (fun _ => (-1))))]) rfl hP hD hK hN hZ hS hA [2, 3] rfl (by decide)) rfl rfl hl.1 rfl (lv_room (Nat.le_of_ble_eq_true rfl)) dX3_renew_141 ⟨(Nat.le_of_ble_eq_true rfl), (Nat.le_of_ble_eq_true rfl)⟩) hP hD hS hA [2, 3] [0, 1, 4, 5, 6, 7, 8, 9, 10] rfl rfl (by decide) (by decide) (Nat.le_of_ble_eq_true rfl) (Nat.le_of_ble_eq_true rfl) (fun r_29 u H locs h_30 hP hD hS => ?_)
    have hP : va_P g vwCl [(o, .inr (3, [.ref o6, .ref fi, .ref of, .int 0])), (of, .inl (cT 1, 3, .inr (.inl (vp_updL (vp_updL (vp_updL (fun _ => 0) 0 10485770) 1 10485770) 2 10485770)))), (fi, .inr (1, [.ref k, .ref pa, .ref la, .ref le, .int 0])), (pa, .inl (cT 0, 800, .inl (upd (fun _ => 0) 0 (-1)))), (la, .inl (cT 0, 800, .inl (fun _ => 0))), (le, .inl (cT 0, 800, .inl (upd (fun _ => 0) 0 1))), (b, .inl (cT 0, 2048, .inl (upd (fun _ => 0) 591 1))), (k, .inr (2, [.ref a, .ref b, .int 1])), (a, .inl (cT 1, 800, .inr (.inl (vp_updL (fun _ => 0) 0 10485770)))), (o6, .inr (6, [.int 1, .int 0, .int 0, .int 0, .ref a6])), (a6, .inl (cT 0, 25, .inl (fun _ => (-1))))] H := hP
    have hD : va_D A [(o, .inr (3, [.ref o6, .ref fi, .ref of, .int 0])), (of, .inl (cT 1, 3, .inr (.inl (vp_updL (vp_updL (vp_updL (fun _ => 0) 0 10485770) 1 10485770) 2 10485770)))), (fi, .inr (1, [.ref k, .ref pa, .ref la, .ref le, .int 0])), (pa, .inl (cT 0, 800, .inl (upd (fun _ => 0) 0 (-1)))), (la, .inl (cT 0, 800, .inl (fun _ => 0))), (le, .inl (cT 0, 800, .inl (upd (fun _ => 0) 0 1))), (b, .inl (cT 0, 2048, .inl (upd (fun _ => 0) 591 1))), (k, .inr (2, [.ref a, .ref b, .int 1])), (a, .inl (cT 1, 800, .inr (.inl (vp_updL (fun _ => 0) 0 10485770)))), (o6, .inr (6, [.int 1, .int 0, .int 0, .int 0, .ref a6])), (a6, .inl (cT 0, 25, .inl (fun _ => (-1))))] := hD
    subst h_30
    refine lv_iload_n hx hb dX3_renew_144 rfl (lv_at hl 1 rfl) ?_
    refine lv_iload_n hx hb dX3_renew_145 rfl (lv_at hl 0 rfl) ?_
    refine cj_i 0 0 (wr := [(o, .inr (3, [.ref o6, .ref fi, .ref of, .int 0])), (of, .inl (cT 1, 3, .inr (.inl (vp_updL (vp_updL (vp_updL (fun _ => 0) 0 10485770) 1 10485770) 2 10485770)))), (o6, .inr (6, [.int 1, .int 0, .int 0, .int 0, .ref a6])), (a6, .inl (cT 0, 25, .inl (fun _ => (-1))))]) (va_runV (As := [.long 10485770, .int 0, .int 2]) (rest := []) ⟨hx, hb, hml, hown, hts⟩ (c_F_reach_800_10485770p l g cT H.size fi k a b pa la le 0 2) (cwV 3 hts gX3_renew_X1_reach rfl rfl rfl yd_X1_reach ⟨(Nat.le_of_ble_eq_true rfl), (Nat.le_of_ble_eq_true rfl)⟩) (preV (wc := [(fi, .inr (1, [.ref k, .ref pa, .ref la, .ref le, .int 0])), (pa, .inl (cT 0, 800, .inl (upd (fun _ => 0) 0 (-1)))), (la, .inl (cT 0, 800, .inl (fun _ => 0))), (le, .inl (cT 0, 800, .inl (upd (fun _ => 0) 0 1))), (k, .inr (2, [.ref a, .ref b, .int 1])), (a, .inl (cT 1, 800, .inr (.inl (vp_updL (fun _ => 0) 0 10485770)))), (b, .inl (cT 0, 2048, .inl (upd (fun _ => 0) 591 1)))]) rfl hP hD hK hN hZ hS hA [2, 3, 4, 5, 7, 8, 6] rfl (by decide) (ci := 1) (q0 := 2) rfl rfl) rfl rfl hl.1 rfl (lv_room (Nat.le_of_ble_eq_true rfl)) dX3_renew_146 ⟨(Nat.le_of_ble_eq_true rfl), (Nat.le_of_ble_eq_true rfl)⟩) hP hD hS hA [2, 3, 4, 5, 7, 8, 6] [0, 1, 9, 10] rfl rfl (by decide) (by decide) (Nat.le_of_ble_eq_true rfl) (Nat.le_of_ble_eq_true rfl) (fun r_31 u H locs h_32 hP hD hS => ?_)
    have hP : va_P g vwCl [(o, .inr (3, [.ref o6, .ref fi, .ref of, .int 0])), (of, .inl (cT 1, 3, .inr (.inl (vp_updL (vp_updL (vp_updL (fun _ => 0) 0 10485770) 1 10485770) 2 10485770)))), (o6, .inr (6, [.int 1, .int 0, .int 0, .int 0, .ref a6])), (a6, .inl (cT 0, 25, .inl (fun _ => (-1)))), (fi, .inr (1, [.ref k, .ref pa, .ref la, .ref le, .int 0])), (pa, .inl (cT 0, 800, .inl (upd (fun _ => 0) 0 (-1)))), (la, .inl (cT 0, 800, .inl (fun _ => 0))), (le, .inl (cT 0, 800, .inl (upd (fun _ => 0) 0 1))), (k, .inr (2, [.ref a, .ref b, .int 1])), (a, .inl (cT 1, 800, .inr (.inl (vp_updL (fun _ => 0) 0 10485770)))), (b, .inl (cT 0, 2048, .inl (upd (fun _ => 0) 591 1)))] H := hP
    have hD : va_D A [(o, .inr (3, [.ref o6, .ref fi, .ref of, .int 0])), (of, .inl (cT 1, 3, .inr (.inl (vp_updL (vp_updL (vp_updL (fun _ => 0) 0 10485770) 1 10485770) 2 10485770)))), (o6, .inr (6, [.int 1, .int 0, .int 0, .int 0, .ref a6])), (a6, .inl (cT 0, 25, .inl (fun _ => (-1)))), (fi, .inr (1, [.ref k, .ref pa, .ref la, .ref le, .int 0])), (pa, .inl (cT 0, 800, .inl (upd (fun _ => 0) 0 (-1)))), (la, .inl (cT 0, 800, .inl (fun _ => 0))), (le, .inl (cT 0, 800, .inl (upd (fun _ => 0) 0 1))), (k, .inr (2, [.ref a, .ref b, .int 1])), (a, .inl (cT 1, 800, .inr (.inl (vp_updL (fun _ => 0) 0 10485770)))), (b, .inl (cT 0, 2048, .inl (upd (fun _ => 0) 591 1)))] := hD
    subst h_32
    refine lv_pop hx hb dX3_renew_149 rfl ?_
    refine lv_iinc (v := 3) (lv' := [(2, .int 3), (1, .int 0), (0, .ref o)]) hx hb dX3_renew_150 hl (k := 0) rfl (by decide) (by decide) rfl (fun ls hl => ?_)
    refine lv_goto (tgt := 111) hx hb dX3_renew_153 (by decide) ?_
    refine lv_iload_n hx hb dX3_renew_111 rfl (lv_at hl 0 rfl) ?_
    refine lv_iconst (v := 3) hx hb dX3_renew_112 (by decide) ?_
    refine icmp_ge_t hx hb 156 dX3_renew_113 (by decide) (by decide) ?_
    refine lv_iinc (v := 1) (lv' := [(1, .int 1), (2, .int 3), (0, .ref o)]) hx hb dX3_renew_156 hl (k := 1) rfl (by decide) (by decide) rfl (fun ls hl => ?_)
    refine lv_goto (tgt := 78) hx hb dX3_renew_159 (by decide) ?_
    refine lv_iload_n hx hb dX3_renew_78 rfl (lv_at hl 0 rfl) ?_
    refine lv_sipush (v := 800) hx hb dX3_renew_79 (by decide) ?_
    refine icmp_ge_f hx hb dX3_renew_82 162 (by decide) (by decide) ?_
    refine lv_iload_n hx hb dX3_renew_85 rfl (lv_at hl 0 rfl) ?_
    refine lv_aload_n hx hb dX3_renew_86 rfl (lv_at hl 2 rfl) ?_
    refine va_get (C := RX3) (T := TX3) (N := 4) (v := .ref fi) hx hb hts hi_X3_renew_X3 hown hK hP 0 rfl rfl 1 (by decide) (hts (.fieldLink RX3 14 "BothWays$Kinds" "finds" "LBothWays$Finds;") (by decide +kernel)) (fun _ h => h) rfl dX3_renew_87 ?_
    refine va_getN (C := RX1) (T := TX1) (N := 5) (v := .ref k) hx hb hts hi_X3_renew_X1 hown hK hP 4 rfl rfl 0 (by decide) (nf_25 hN) (fun _ h => h) rfl dX3_renew_90 ?_
    refine va_getN (C := RX2) (T := TX2) (N := 3) (v := .int 1) hx hb hts hi_X3_renew_X2 hown hK hP 8 rfl rfl 2 (by decide) (nf_19 hN) (fun _ h => h) rfl dX3_renew_93 ?_
    refine icmp_ge_t hx hb 162 dX3_renew_96 (by decide) (by decide) ?_
    exact rt_v hx hb hr hlocks hQ hP hD hS () [0, 4, 8] dX3_renew_162 (Nat.le_of_ble_eq_true rfl) (Nat.le_of_ble_eq_true rfl) rfl (by decide) trivial
  rw [hH, hlo] at hgo
  exact hgo
abbrev rm_c_B_first : Room := { frames := 0, cells := 0, slots := 0, locals := 0 }
set_option maxHeartbeats 4000000 in
set_option maxRecDepth 100000 in
theorem c_B_first (l : Launch) (g : va_G) (cT : Nat → ClassId) (sz : Nat) (t : Int64)  : Ctr l g cT sz yX0_first wsX0_first rm_c_B_first [.long t] [] (QI g (fun (r : Int32) (u : Unit) => r = (t &&& (7 : Int64)).toInt32) (fun (u : Unit) => [])) 0 0 := by
  refine mk_ctr (cc := cX0_first) (maxL := 2) (ret := (some .int)) (by decide) rfl (Nat.le_of_ble_eq_true rfl) ?_
  intro p e s m args below meth c A Q hx hb hr hts hown hlocks hin hml hP hK hD hN hZ hA hS hQ ls hl
  have hl : lv_has ls 2 [(0, .long t)] := hl
  obtain ⟨H, hH⟩ : ∃ H : Heap, H = s.heap := ⟨_, rfl⟩
  obtain ⟨locs, hlo⟩ : ∃ x : List Loc, x = [] := ⟨_, rfl⟩
  rw [← hH] at hP
  have hS : va_S A s.heap H locs := by rw [hH, hlo]; exact hS
  have hgo : W p l e rm_c_B_first s m args below meth c H locs 0 0 Q (F0 m 0 ls []) := by
    clear hH hlo
    refine lv_lload_n hx hb dX0_first_0 rfl (lv_at hl 0 rfl) ?_
    refine lv_ldc2 (v := 7) hx hb hown (hts (.constantLong RX0 80 (7)) (by decide +kernel)) dX0_first_1 ?_
    refine w_land (v := t &&& (7 : Int64)) hx hb dX0_first_4 rfl ?_
    refine lv_l2i (v := (t &&& (7 : Int64)).toInt32) hx hb dX0_first_5 rfl ?_
    exact rt_i hx hb hr hlocks hQ hP hD hS () [] dX0_first_6 rfl (Nat.le_of_ble_eq_true rfl) (Nat.le_of_ble_eq_true rfl) rfl (by decide) rfl
  rw [hH, hlo] at hgo
  exact hgo
abbrev rm_c_B_back : Room := { frames := 0, cells := 0, slots := 0, locals := 0 }
set_option maxHeartbeats 4000000 in
set_option maxRecDepth 100000 in
theorem c_B_back (l : Launch) (g : va_G) (cT : Nat → ClassId) (sz : Nat) (t : Int64) (q : Int32)  : Ctr l g cT sz yX0_back wsX0_back rm_c_B_back [.long t, .int q] [] (QI g (fun (r : Int32) (u : Unit) => r = ((t >>> (((3 : Int32) * (q + (1 : Int32))).toInt64 &&& 63)) &&& (7 : Int64)).toInt32) (fun (u : Unit) => [])) 0 0 := by
  refine mk_ctr (cc := cX0_back) (maxL := 3) (ret := (some .int)) (by decide) rfl (Nat.le_of_ble_eq_true rfl) ?_
  intro p e s m args below meth c A Q hx hb hr hts hown hlocks hin hml hP hK hD hN hZ hA hS hQ ls hl
  have hl : lv_has ls 3 [(0, .long t), (2, .int q)] := hl
  obtain ⟨H, hH⟩ : ∃ H : Heap, H = s.heap := ⟨_, rfl⟩
  obtain ⟨locs, hlo⟩ : ∃ x : List Loc, x = [] := ⟨_, rfl⟩
  rw [← hH] at hP
  have hS : va_S A s.heap H locs := by rw [hH, hlo]; exact hS
  have hgo : W p l e rm_c_B_back s m args below meth c H locs 0 0 Q (F0 m 0 ls []) := by
    clear hH hlo
    refine lv_lload_n hx hb dX0_back_0 rfl (lv_at hl 0 rfl) ?_
    refine lv_iconst (v := 3) hx hb dX0_back_1 (by decide) ?_
    refine lv_iload_n hx hb dX0_back_2 rfl (lv_at hl 1 rfl) ?_
    refine lv_iconst (v := 1) hx hb dX0_back_3 (by decide) ?_
    refine w_iadd (v := q + (1 : Int32)) hx hb dX0_back_4 rfl ?_
    refine w_imul (v := (3 : Int32) * (q + (1 : Int32))) hx hb dX0_back_5 rfl ?_
    refine lv_lshr (v := t >>> (((3 : Int32) * (q + (1 : Int32))).toInt64 &&& 63)) hx hb dX0_back_6 rfl ?_
    refine lv_ldc2 (v := 7) hx hb hown (hts (.constantLong RX0 80 (7)) (by decide +kernel)) dX0_back_7 ?_
    refine w_land (v := (t >>> (((3 : Int32) * (q + (1 : Int32))).toInt64 &&& 63)) &&& (7 : Int64)) hx hb dX0_back_10 rfl ?_
    refine lv_l2i (v := ((t >>> (((3 : Int32) * (q + (1 : Int32))).toInt64 &&& 63)) &&& (7 : Int64)).toInt32) hx hb dX0_back_11 rfl ?_
    exact rt_i hx hb hr hlocks hQ hP hD hS () [] dX0_back_12 rfl (Nat.le_of_ble_eq_true rfl) (Nat.le_of_ble_eq_true rfl) rfl (by decide) rfl
  rw [hH, hlo] at hgo
  exact hgo
theorem hi_X0_empty_X0 : ∀ w ∈ wsX00, w ∈ wsX0_empty := fun _ h => List.mem_cons_of_mem _ (List.mem_append_left _ (List.mem_append_right _ h))
theorem hi_X0_empty_X6 : ∀ w ∈ wsX60, w ∈ wsX0_empty := fun _ h => List.mem_cons_of_mem _ (List.mem_append_right _ h)
theorem yd_X0_back : yX0_back.cls = RX0 ∧ yX0_back.cls ≠ "java/lang/invoke/MethodHandle" ∧ yX0_back.cls ≠ "java/lang/invoke/VarHandle" ∧ (parseMethodDescriptor yX0_back.desc).map (fun d => d.parameters.length) = some 2 := by decide +kernel
abbrev rm_c_B_empty : Room := { frames := 1, cells := 0, slots := 0, locals := 23 }
set_option maxHeartbeats 4000000 in
set_option maxRecDepth 100000 in
theorem c_B_empty (l : Launch) (g : va_G) (cT : Nat → ClassId) (sz : Nat) (o : Nat) (o6 : Nat) (a6 : Nat) (fi : Nat) (nx : Nat) (en : Nat)  : Ctr l g cT sz yX0_empty wsX0_empty rm_c_B_empty [.ref o] [(o, .inr (0, [.ref o6, .ref fi, .ref nx, .ref en, .int 0])), (o6, .inr (6, [.int 1, .int 0, .int 0, .int 0, .ref a6])), (a6, .inl (cT 0, 25, .inl (fun _ => (-1))))] (QL g (fun (r : Int64) (u : Unit) => r = 45) (fun (u : Unit) => [(o, .inr (0, [.ref o6, .ref fi, .ref nx, .ref en, .int 0])), (o6, .inr (6, [.int 1, .int 0, .int 0, .int 0, .ref a6])), (a6, .inl (cT 0, 25, .inl (fun _ => (-1))))])) 0 0 := by
  refine mk_ctr (cc := cX0_empty) (maxL := 5) (ret := (some .long)) (by decide) rfl (Nat.le_of_ble_eq_true rfl) ?_
  intro p e s m args below meth c A Q hx hb hr hts hown hlocks hin hml hP hK hD hN hZ hA hS hQ ls hl
  have hl : lv_has ls 5 [(0, .ref o)] := hl
  obtain ⟨H, hH⟩ : ∃ H : Heap, H = s.heap := ⟨_, rfl⟩
  obtain ⟨locs, hlo⟩ : ∃ x : List Loc, x = [] := ⟨_, rfl⟩
  rw [← hH] at hP
  have hS : va_S A s.heap H locs := by rw [hH, hlo]; exact hS
  have hgo : W p l e rm_c_B_empty s m args below meth c H locs 0 0 Q (F0 m 0 ls []) := by
    clear hH hlo
    refine lv_lconst (v := 0) hx hb dX0_empty_0 (by decide) ?_
    refine lv_lstore_n (lv' := [(1, .long 0), (0, .ref o)]) hx hb dX0_empty_1 rfl hl (by decide) rfl (fun ls hl => ?_)
    refine lv_iconst (v := 0) hx hb dX0_empty_2 (by decide) ?_
    refine lv_istore_n (lv' := [(3, .int 0), (1, .long 0), (0, .ref o)]) hx hb dX0_empty_3 rfl hl (by decide) rfl (fun ls hl => ?_)
    refine lv_iload_n hx hb dX0_empty_4 rfl (lv_at hl 0 rfl) ?_
    refine lv_aload_n hx hb dX0_empty_5 rfl (lv_at hl 2 rfl) ?_
    refine va_get (C := RX0) (T := TX0) (N := 5) (v := .ref o6) hx hb hts hi_X0_empty_X0 hown hK hP 0 rfl rfl 0 (by decide) (hts (.fieldLink RX0 31 "BothWays$Beginnings" "reader" "LBothWays$Reader;") (by decide +kernel)) (fun _ h => h) rfl dX0_empty_6 ?_
    refine va_getN (C := RX6) (T := TX6) (N := 5) (v := .int 1) hx hb hts hi_X0_empty_X6 hown hK hP 1 rfl rfl 0 (by decide) (nf_12 hN) (fun _ h => h) rfl dX0_empty_9 ?_
    refine icmp_ge_f hx hb dX0_empty_12 57 (by decide) (by decide) ?_
    refine lv_aload_n hx hb dX0_empty_15 rfl (lv_at hl 2 rfl) ?_
    refine va_get (C := RX0) (T := TX0) (N := 5) (v := .ref o6) hx hb hts hi_X0_empty_X0 hown hK hP 0 rfl rfl 0 (by decide) (hts (.fieldLink RX0 31 "BothWays$Beginnings" "reader" "LBothWays$Reader;") (by decide +kernel)) (fun _ h => h) rfl dX0_empty_16 ?_
    refine lv_iload_n hx hb dX0_empty_19 rfl (lv_at hl 0 rfl) ?_
    refine lv_iconst (v := 3) hx hb dX0_empty_20 (by decide) ?_
    refine cj_i 0 0 (wr := [(o, .inr (0, [.ref o6, .ref fi, .ref nx, .ref en, .int 0]))]) (va_runV (As := [.int 0, .int 3]) (rest := []) ⟨hx, hb, hml, hown, hts⟩ (c_R_moveOf l g cT H.size o6 a6 0 0 3) (cwV 2 hts gX0_empty_X6_moveOf rfl rfl rfl yd_X6_moveOf ⟨(Nat.le_of_ble_eq_true rfl), (Nat.le_of_ble_eq_true rfl)⟩) (preV (wc := [(o6, .inr (6, [.int 1, .int 0, .int 0, .int 0, .ref a6])), (a6, .inl (cT 0, 25, .inl (fun _ => (-1))))]) rfl hP hD hK hN hZ hS hA [1, 2] rfl (by decide) (ci := 6) (q0 := 1) rfl rfl) rfl rfl hl.1 rfl (lv_room (Nat.le_of_ble_eq_true rfl)) dX0_empty_21 ⟨(Nat.le_of_ble_eq_true rfl), (Nat.le_of_ble_eq_true rfl)⟩) hP hD hS hA [1, 2] [0] rfl rfl (by decide) (by decide) (Nat.le_of_ble_eq_true rfl) (Nat.le_of_ble_eq_true rfl) (fun r_1 u H locs h_2 hP hD hS => ?_)
    have hP : va_P g vwCl [(o, .inr (0, [.ref o6, .ref fi, .ref nx, .ref en, .int 0])), (o6, .inr (6, [.int 1, .int 0, .int 0, .int 0, .ref a6])), (a6, .inl (cT 0, 25, .inl (fun _ => (-1))))] H := hP
    have hD : va_D A [(o, .inr (0, [.ref o6, .ref fi, .ref nx, .ref en, .int 0])), (o6, .inr (6, [.int 1, .int 0, .int 0, .int 0, .ref a6])), (a6, .inl (cT 0, 25, .inl (fun _ => (-1))))] := hD
    subst h_2
    refine lv_istore (lv' := [(4, .int (-1)), (3, .int 0), (1, .long 0), (0, .ref o)]) hx hb dX0_empty_24 hl (by decide) rfl (fun ls hl => ?_)
    refine lv_lload_n hx hb dX0_empty_26 rfl (lv_at hl 2 rfl) ?_
    refine lv_iload hx hb dX0_empty_27 (lv_at hl 0 rfl) ?_
    refine lv_iconst (v := (-1)) hx hb dX0_empty_29 (by decide) ?_
    refine icmp_ne_f hx hb dX0_empty_30 37 (by decide) (by decide) ?_
    refine lv_iconst (v := 5) hx hb dX0_empty_33 (by decide) ?_
    refine lv_goto (tgt := 42) hx hb dX0_empty_34 (by decide) ?_
    refine lv_i2l (v := 5) hx hb dX0_empty_42 (by decide) ?_
    refine lv_iconst (v := 3) hx hb dX0_empty_43 (by decide) ?_
    refine lv_iload_n hx hb dX0_empty_44 rfl (lv_at hl 1 rfl) ?_
    refine lv_iconst (v := 1) hx hb dX0_empty_45 (by decide) ?_
    refine w_iadd (v := 1) hx hb dX0_empty_46 (by decide) ?_
    refine w_imul (v := 3) hx hb dX0_empty_47 (by decide) ?_
    refine lv_lshl (v := 40) hx hb dX0_empty_48 (by decide) ?_
    refine w_lor (v := 40) hx hb dX0_empty_49 (by decide) ?_
    refine lv_lstore_n (lv' := [(1, .long 40), (4, .int (-1)), (3, .int 0), (0, .ref o)]) hx hb dX0_empty_50 rfl hl (by decide) rfl (fun ls hl => ?_)
    refine lv_iinc (v := 1) (lv' := [(3, .int 1), (1, .long 40), (4, .int (-1)), (0, .ref o)]) hx hb dX0_empty_51 hl (k := 2) rfl (by decide) (by decide) rfl (fun ls hl => ?_)
    refine lv_goto (tgt := 4) hx hb dX0_empty_54 (by decide) ?_
    refine lv_iload_n hx hb dX0_empty_4 rfl (lv_at hl 0 rfl) ?_
    refine lv_aload_n hx hb dX0_empty_5 rfl (lv_at hl 3 rfl) ?_
    refine va_get (C := RX0) (T := TX0) (N := 5) (v := .ref o6) hx hb hts hi_X0_empty_X0 hown hK hP 0 rfl rfl 0 (by decide) (hts (.fieldLink RX0 31 "BothWays$Beginnings" "reader" "LBothWays$Reader;") (by decide +kernel)) (fun _ h => h) rfl dX0_empty_6 ?_
    refine va_getN (C := RX6) (T := TX6) (N := 5) (v := .int 1) hx hb hts hi_X0_empty_X6 hown hK hP 1 rfl rfl 0 (by decide) (nf_12 hN) (fun _ h => h) rfl dX0_empty_9 ?_
    refine icmp_ge_t hx hb 57 dX0_empty_12 (by decide) (by decide) ?_
    refine lv_lload_n hx hb dX0_empty_57 rfl (lv_at hl 1 rfl) ?_
    refine lv_lload_n hx hb dX0_empty_58 rfl (lv_at hl 1 rfl) ?_
    refine lv_iconst (v := 0) hx hb dX0_empty_59 (by decide) ?_
    refine cp_i (va_runS (As := [.long 40, .int 0]) (rest := [.long 40]) ⟨hx, hb, hml, hown, hts⟩ (c_B_back l g cT H.size 40 0) (va_cwS 2 hts gX0_empty_X0_back rfl rfl rfl yd_X0_back.2 ⟨(Nat.le_of_ble_eq_true rfl), (Nat.le_of_ble_eq_true rfl)⟩) (preS (ws := []) (wc := []) rfl (fun _ _ h => by simp at h) (va_D_nil (A := A)) hK hN hZ hS hA [] rfl rfl) rfl rfl hl.1 rfl (lv_room (Nat.le_of_ble_eq_true rfl)) dX0_empty_60 ⟨(Nat.le_of_ble_eq_true rfl), (Nat.le_of_ble_eq_true rfl)⟩) hP hS hA (fun r_3 u H locs h_4 hP hS => ?_)
    subst h_4
    refine tI 5 (by decide) ?_
    refine lv_i2l (v := 5) hx hb dX0_empty_63 (by decide) ?_
    refine w_lor (v := 45) hx hb dX0_empty_64 (by decide) ?_
    exact rt_l hx hb hr hlocks hQ hP hD hS () [0, 1, 2] dX0_empty_65 (Nat.le_of_ble_eq_true rfl) (Nat.le_of_ble_eq_true rfl) rfl (by decide) rfl
  rw [hH, hlo] at hgo
  exact hgo
theorem hi_X0_leaving_X0 : ∀ w ∈ wsX00, w ∈ wsX0_leaving := fun _ h => List.mem_cons_of_mem _ (List.mem_append_left _ (List.mem_append_right _ h))
abbrev rm_c_B_leaving : Room := { frames := 1, cells := 0, slots := 0, locals := 23 }
set_option maxHeartbeats 4000000 in
set_option maxRecDepth 100000 in
theorem c_B_leaving (l : Launch) (g : va_G) (cT : Nat → ClassId) (sz : Nat) (o : Nat) (o6 : Nat) (a6 : Nat) (fi : Nat) (nx : Nat) (en : Nat) (z : Int32)  : Ctr l g cT sz yX0_leaving wsX0_leaving rm_c_B_leaving [.ref o, .long 45, .int z, .int 0] [(o, .inr (0, [.ref o6, .ref fi, .ref nx, .ref en, .int 0])), (o6, .inr (6, [.int 1, .int 0, .int 0, .int 0, .ref a6])), (a6, .inl (cT 0, 25, .inl (fun _ => (-1))))] (QI g (fun (r : Int32) (u : Unit) => r = 5) (fun (u : Unit) => [(o, .inr (0, [.ref o6, .ref fi, .ref nx, .ref en, .int 0])), (o6, .inr (6, [.int 1, .int 0, .int 0, .int 0, .ref a6])), (a6, .inl (cT 0, 25, .inl (fun _ => (-1))))])) 0 0 := by
  refine mk_ctr (cc := cX0_leaving) (maxL := 8) (ret := (some .int)) (by decide) rfl (Nat.le_of_ble_eq_true rfl) ?_
  intro p e s m args below meth c A Q hx hb hr hts hown hlocks hin hml hP hK hD hN hZ hA hS hQ ls hl
  have hl : lv_has ls 8 [(0, .ref o), (1, .long 45), (3, .int z), (4, .int 0)] := hl
  obtain ⟨H, hH⟩ : ∃ H : Heap, H = s.heap := ⟨_, rfl⟩
  obtain ⟨locs, hlo⟩ : ∃ x : List Loc, x = [] := ⟨_, rfl⟩
  rw [← hH] at hP
  have hS : va_S A s.heap H locs := by rw [hH, hlo]; exact hS
  have hgo : W p l e rm_c_B_leaving s m args below meth c H locs 0 0 Q (F0 m 0 ls []) := by
    clear hH hlo
    refine lv_iload hx hb dX0_leaving_0 (lv_at hl 3 rfl) ?_
    refine lv_istore (lv' := [(5, .int 0), (0, .ref o), (1, .long 45), (3, .int z), (4, .int 0)]) hx hb dX0_leaving_2 hl (by decide) rfl (fun ls hl => ?_)
    refine lv_iconst (v := 0) hx hb dX0_leaving_4 (by decide) ?_
    refine lv_istore (lv' := [(6, .int 0), (5, .int 0), (0, .ref o), (1, .long 45), (3, .int z), (4, .int 0)]) hx hb dX0_leaving_5 hl (by decide) rfl (fun ls hl => ?_)
    refine lv_iload hx hb dX0_leaving_7 (lv_at hl 0 rfl) ?_
    refine lv_iconst (v := 5) hx hb dX0_leaving_9 (by decide) ?_
    refine icmp_gt_f hx hb dX0_leaving_10 73 (by decide) (by decide) ?_
    refine lv_aload_n hx hb dX0_leaving_13 rfl (lv_at hl 2 rfl) ?_
    refine va_get (C := RX0) (T := TX0) (N := 5) (v := .ref o6) hx hb hts hi_X0_leaving_X0 hown hK hP 0 rfl rfl 0 (by decide) (hts (.fieldLink RX0 31 "BothWays$Beginnings" "reader" "LBothWays$Reader;") (by decide +kernel)) (fun _ h => h) rfl dX0_leaving_14 ?_
    refine lv_iload hx hb dX0_leaving_17 (lv_at hl 1 rfl) ?_
    refine lv_iload_n hx hb dX0_leaving_19 rfl (lv_at hl 4 rfl) ?_
    refine cj_i 0 0 (wr := [(o, .inr (0, [.ref o6, .ref fi, .ref nx, .ref en, .int 0]))]) (va_runV (As := [.int 0, .int z]) (rest := []) ⟨hx, hb, hml, hown, hts⟩ (c_R_moveOf l g cT H.size o6 a6 0 0 z) (cwV 2 hts gX0_leaving_X6_moveOf rfl rfl rfl yd_X6_moveOf ⟨(Nat.le_of_ble_eq_true rfl), (Nat.le_of_ble_eq_true rfl)⟩) (preV (wc := [(o6, .inr (6, [.int 1, .int 0, .int 0, .int 0, .ref a6])), (a6, .inl (cT 0, 25, .inl (fun _ => (-1))))]) rfl hP hD hK hN hZ hS hA [1, 2] rfl (by decide) (ci := 6) (q0 := 1) rfl rfl) rfl rfl hl.1 rfl (lv_room (Nat.le_of_ble_eq_true rfl)) dX0_leaving_20 ⟨(Nat.le_of_ble_eq_true rfl), (Nat.le_of_ble_eq_true rfl)⟩) hP hD hS hA [1, 2] [0] rfl rfl (by decide) (by decide) (Nat.le_of_ble_eq_true rfl) (Nat.le_of_ble_eq_true rfl) (fun r_1 u H locs h_2 hP hD hS => ?_)
    have hP : va_P g vwCl [(o, .inr (0, [.ref o6, .ref fi, .ref nx, .ref en, .int 0])), (o6, .inr (6, [.int 1, .int 0, .int 0, .int 0, .ref a6])), (a6, .inl (cT 0, 25, .inl (fun _ => (-1))))] H := hP
    have hD : va_D A [(o, .inr (0, [.ref o6, .ref fi, .ref nx, .ref en, .int 0])), (o6, .inr (6, [.int 1, .int 0, .int 0, .int 0, .ref a6])), (a6, .inl (cT 0, 25, .inl (fun _ => (-1))))] := hD
    subst h_2
    refine lv_istore (lv' := [(7, .int (-1)), (6, .int 0), (5, .int 0), (0, .ref o), (1, .long 45), (3, .int z), (4, .int 0)]) hx hb dX0_leaving_23 hl (by decide) rfl (fun ls hl => ?_)
    refine lv_iload hx hb dX0_leaving_25 (lv_at hl 0 rfl) ?_
    refine lv_iconst (v := (-1)) hx hb dX0_leaving_27 (by decide) ?_
    refine icmp_ne_f hx hb dX0_leaving_28 33 (by decide) (by decide) ?_
    refine lv_iconst (v := 5) hx hb dX0_leaving_31 (by decide) ?_
    exact rt_i hx hb hr hlocks hQ hP hD hS () [0, 1, 2] dX0_leaving_32 rfl (Nat.le_of_ble_eq_true rfl) (Nat.le_of_ble_eq_true rfl) rfl (by decide) rfl
  rw [hH, hlo] at hgo
  exact hgo
theorem hi_X0_longer_X0 : ∀ w ∈ wsX00, w ∈ wsX0_longer := fun _ h => List.mem_cons_of_mem _ (List.mem_append_left _ (List.mem_append_right _ h))
theorem hi_X0_longer_X6 : ∀ w ∈ wsX60, w ∈ wsX0_longer := fun _ h => List.mem_cons_of_mem _ (List.mem_append_right _ h)
theorem yd_X0_leaving : yX0_leaving.cls = RX0 ∧ yX0_leaving.cls ≠ "java/lang/invoke/MethodHandle" ∧ yX0_leaving.cls ≠ "java/lang/invoke/VarHandle" ∧ (parseMethodDescriptor yX0_leaving.desc).map (fun d => d.parameters.length) = some 3 := by decide +kernel
theorem yd_X0_first : yX0_first.cls = RX0 ∧ yX0_first.cls ≠ "java/lang/invoke/MethodHandle" ∧ yX0_first.cls ≠ "java/lang/invoke/VarHandle" ∧ (parseMethodDescriptor yX0_first.desc).map (fun d => d.parameters.length) = some 1 := by decide +kernel
abbrev rm_c_B_longer : Room := { frames := 2, cells := 0, slots := 0, locals := 50 }
set_option maxHeartbeats 4000000 in
set_option maxRecDepth 100000 in
theorem c_B_longer (l : Launch) (g : va_G) (cT : Nat → ClassId) (sz : Nat) (o : Nat) (o6 : Nat) (a6 : Nat) (fi : Nat) (nx : Nat) (en : Nat) (z : Int32)  : Ctr l g cT sz yX0_longer wsX0_longer rm_c_B_longer [.ref o, .long 45, .int z] [(o, .inr (0, [.ref o6, .ref fi, .ref nx, .ref en, .int 0])), (o6, .inr (6, [.int 1, .int 0, .int 0, .int 0, .ref a6])), (a6, .inl (cT 0, 25, .inl (fun _ => (-1))))] (QL g (fun (r : Int64) (u : Unit) => r = 45) (fun (u : Unit) => [(o, .inr (0, [.ref o6, .ref fi, .ref nx, .ref en, .int 0])), (o6, .inr (6, [.int 1, .int 0, .int 0, .int 0, .ref a6])), (a6, .inl (cT 0, 25, .inl (fun _ => (-1))))])) 0 0 := by
  refine mk_ctr (cc := cX0_longer) (maxL := 7) (ret := (some .long)) (by decide) rfl (Nat.le_of_ble_eq_true rfl) ?_
  intro p e s m args below meth c A Q hx hb hr hts hown hlocks hin hml hP hK hD hN hZ hA hS hQ ls hl
  have hl : lv_has ls 7 [(0, .ref o), (1, .long 45), (3, .int z)] := hl
  obtain ⟨H, hH⟩ : ∃ H : Heap, H = s.heap := ⟨_, rfl⟩
  obtain ⟨locs, hlo⟩ : ∃ x : List Loc, x = [] := ⟨_, rfl⟩
  rw [← hH] at hP
  have hS : va_S A s.heap H locs := by rw [hH, hlo]; exact hS
  have hgo : W p l e rm_c_B_longer s m args below meth c H locs 0 0 Q (F0 m 0 ls []) := by
    clear hH hlo
    refine lv_lconst (v := 0) hx hb dX0_longer_0 (by decide) ?_
    refine lv_lstore (lv' := [(4, .long 0), (0, .ref o), (1, .long 45), (3, .int z)]) hx hb dX0_longer_1 hl (by decide) rfl (fun ls hl => ?_)
    refine lv_iconst (v := 0) hx hb dX0_longer_3 (by decide) ?_
    refine lv_istore (lv' := [(6, .int 0), (4, .long 0), (0, .ref o), (1, .long 45), (3, .int z)]) hx hb dX0_longer_4 hl (by decide) rfl (fun ls hl => ?_)
    refine lv_iload hx hb dX0_longer_6 (lv_at hl 0 rfl) ?_
    refine lv_aload_n hx hb dX0_longer_8 rfl (lv_at hl 2 rfl) ?_
    refine va_get (C := RX0) (T := TX0) (N := 5) (v := .ref o6) hx hb hts hi_X0_longer_X0 hown hK hP 0 rfl rfl 0 (by decide) (hts (.fieldLink RX0 31 "BothWays$Beginnings" "reader" "LBothWays$Reader;") (by decide +kernel)) (fun _ h => h) rfl dX0_longer_9 ?_
    refine va_getN (C := RX6) (T := TX6) (N := 5) (v := .int 1) hx hb hts hi_X0_longer_X6 hown hK hP 1 rfl rfl 0 (by decide) (nf_12 hN) (fun _ h => h) rfl dX0_longer_12 ?_
    refine icmp_ge_f hx hb dX0_longer_15 45 (by decide) (by decide) ?_
    refine lv_lload hx hb dX0_longer_18 (lv_at hl 1 rfl) ?_
    refine lv_aload_n hx hb dX0_longer_20 rfl (lv_at hl 2 rfl) ?_
    refine lv_lload_n hx hb dX0_longer_21 rfl (lv_at hl 3 rfl) ?_
    refine lv_iload_n hx hb dX0_longer_22 rfl (lv_at hl 4 rfl) ?_
    refine lv_iload hx hb dX0_longer_23 (lv_at hl 0 rfl) ?_
    refine cj_i 0 0 (wr := []) (va_runV (As := [.long 45, .int z, .int 0]) (rest := [.long 0]) ⟨hx, hb, hml, hown, hts⟩ (c_B_leaving l g cT H.size o o6 a6 fi nx en z) (cwV 3 hts gX0_longer_X0_leaving rfl rfl rfl yd_X0_leaving ⟨(Nat.le_of_ble_eq_true rfl), (Nat.le_of_ble_eq_true rfl)⟩) (preV (wc := [(o, .inr (0, [.ref o6, .ref fi, .ref nx, .ref en, .int 0])), (o6, .inr (6, [.int 1, .int 0, .int 0, .int 0, .ref a6])), (a6, .inl (cT 0, 25, .inl (fun _ => (-1))))]) rfl hP hD hK hN hZ hS hA [0, 1, 2] rfl (by decide) (ci := 0) (q0 := 0) rfl rfl) rfl rfl hl.1 rfl (lv_room (Nat.le_of_ble_eq_true rfl)) dX0_longer_25 ⟨(Nat.le_of_ble_eq_true rfl), (Nat.le_of_ble_eq_true rfl)⟩) hP hD hS hA [0, 1, 2] [] rfl rfl (by decide) (by decide) (Nat.le_of_ble_eq_true rfl) (Nat.le_of_ble_eq_true rfl) (fun r_1 u H locs h_2 hP hD hS => ?_)
    have hP : va_P g vwCl [(o, .inr (0, [.ref o6, .ref fi, .ref nx, .ref en, .int 0])), (o6, .inr (6, [.int 1, .int 0, .int 0, .int 0, .ref a6])), (a6, .inl (cT 0, 25, .inl (fun _ => (-1))))] H := hP
    have hD : va_D A [(o, .inr (0, [.ref o6, .ref fi, .ref nx, .ref en, .int 0])), (o6, .inr (6, [.int 1, .int 0, .int 0, .int 0, .ref a6])), (a6, .inl (cT 0, 25, .inl (fun _ => (-1))))] := hD
    subst h_2
    refine lv_i2l (v := 5) hx hb dX0_longer_28 (by decide) ?_
    refine lv_iconst (v := 3) hx hb dX0_longer_29 (by decide) ?_
    refine lv_iload hx hb dX0_longer_30 (lv_at hl 0 rfl) ?_
    refine lv_iconst (v := 1) hx hb dX0_longer_32 (by decide) ?_
    refine w_iadd (v := 1) hx hb dX0_longer_33 (by decide) ?_
    refine w_imul (v := 3) hx hb dX0_longer_34 (by decide) ?_
    refine lv_lshl (v := 40) hx hb dX0_longer_35 (by decide) ?_
    refine w_lor (v := 40) hx hb dX0_longer_36 (by decide) ?_
    refine lv_lstore (lv' := [(4, .long 40), (6, .int 0), (0, .ref o), (1, .long 45), (3, .int z)]) hx hb dX0_longer_37 hl (by decide) rfl (fun ls hl => ?_)
    refine lv_iinc (v := 1) (lv' := [(6, .int 1), (4, .long 40), (0, .ref o), (1, .long 45), (3, .int z)]) hx hb dX0_longer_39 hl (k := 1) rfl (by decide) (by decide) rfl (fun ls hl => ?_)
    refine lv_goto (tgt := 6) hx hb dX0_longer_42 (by decide) ?_
    refine lv_iload hx hb dX0_longer_6 (lv_at hl 0 rfl) ?_
    refine lv_aload_n hx hb dX0_longer_8 rfl (lv_at hl 2 rfl) ?_
    refine va_get (C := RX0) (T := TX0) (N := 5) (v := .ref o6) hx hb hts hi_X0_longer_X0 hown hK hP 0 rfl rfl 0 (by decide) (hts (.fieldLink RX0 31 "BothWays$Beginnings" "reader" "LBothWays$Reader;") (by decide +kernel)) (fun _ h => h) rfl dX0_longer_9 ?_
    refine va_getN (C := RX6) (T := TX6) (N := 5) (v := .int 1) hx hb hts hi_X0_longer_X6 hown hK hP 1 rfl rfl 0 (by decide) (nf_12 hN) (fun _ h => h) rfl dX0_longer_12 ?_
    refine icmp_ge_t hx hb 45 dX0_longer_15 (by decide) (by decide) ?_
    refine lv_lload_n hx hb dX0_longer_45 rfl (lv_at hl 3 rfl) ?_
    refine cp_i (va_runS (As := [.long 45]) (rest := []) ⟨hx, hb, hml, hown, hts⟩ (c_B_first l g cT H.size 45) (va_cwS 1 hts gX0_longer_X0_first rfl rfl rfl yd_X0_first.2 ⟨(Nat.le_of_ble_eq_true rfl), (Nat.le_of_ble_eq_true rfl)⟩) (preS (ws := []) (wc := []) rfl (fun _ _ h => by simp at h) (va_D_nil (A := A)) hK hN hZ hS hA [] rfl rfl) rfl rfl hl.1 rfl (lv_room (Nat.le_of_ble_eq_true rfl)) dX0_longer_46 ⟨(Nat.le_of_ble_eq_true rfl), (Nat.le_of_ble_eq_true rfl)⟩) hP hS hA (fun r_3 u H locs h_4 hP hS => ?_)
    subst h_4
    refine tI 5 (by decide) ?_
    refine lv_istore (lv' := [(6, .int 5), (4, .long 40), (0, .ref o), (1, .long 45), (3, .int z)]) hx hb dX0_longer_49 hl (by decide) rfl (fun ls hl => ?_)
    refine lv_lload hx hb dX0_longer_51 (lv_at hl 1 rfl) ?_
    refine lv_iload hx hb dX0_longer_53 (lv_at hl 0 rfl) ?_
    refine lv_iconst (v := 5) hx hb dX0_longer_55 (by decide) ?_
    refine icmp_ge_t hx hb 69 dX0_longer_56 (by decide) (by decide) ?_
    refine lv_iload hx hb dX0_longer_69 (lv_at hl 0 rfl) ?_
    refine lv_i2l (v := 5) hx hb dX0_longer_71 (by decide) ?_
    refine w_lor (v := 45) hx hb dX0_longer_72 (by decide) ?_
    exact rt_l hx hb hr hlocks hQ hP hD hS () [0, 1, 2] dX0_longer_73 (Nat.le_of_ble_eq_true rfl) (Nat.le_of_ble_eq_true rfl) rfl (by decide) rfl
  rw [hH, hlo] at hgo
  exact hgo
abbrev rm_c_B_endOf : Room := { frames := 1, cells := 0, slots := 0, locals := 21 }
set_option maxHeartbeats 4000000 in
set_option maxRecDepth 100000 in
theorem c_B_endOf (l : Launch) (g : va_G) (cT : Nat → ClassId) (sz : Nat) (o : Nat) (o6 : Nat) (a6 : Nat) (fi : Nat) (nx : Nat) (en : Nat)  : Ctr l g cT sz yX0_endOf wsX0_endOf rm_c_B_endOf [.ref o, .long 45] [(o, .inr (0, [.ref o6, .ref fi, .ref nx, .ref en, .int 0])), (o6, .inr (6, [.int 1, .int 0, .int 0, .int 0, .ref a6])), (a6, .inl (cT 0, 25, .inl (fun _ => (-1))))] (QI g (fun (r : Int32) (u : Unit) => r = 0) (fun (u : Unit) => [(o, .inr (0, [.ref o6, .ref fi, .ref nx, .ref en, .int 0])), (o6, .inr (6, [.int 1, .int 0, .int 0, .int 0, .ref a6])), (a6, .inl (cT 0, 25, .inl (fun _ => (-1))))])) 0 0 := by
  refine mk_ctr (cc := cX0_endOf) (maxL := 6) (ret := (some .int)) (by decide) rfl (Nat.le_of_ble_eq_true rfl) ?_
  intro p e s m args below meth c A Q hx hb hr hts hown hlocks hin hml hP hK hD hN hZ hA hS hQ ls hl
  have hl : lv_has ls 6 [(0, .ref o), (1, .long 45)] := hl
  obtain ⟨H, hH⟩ : ∃ H : Heap, H = s.heap := ⟨_, rfl⟩
  obtain ⟨locs, hlo⟩ : ∃ x : List Loc, x = [] := ⟨_, rfl⟩
  rw [← hH] at hP
  have hS : va_S A s.heap H locs := by rw [hH, hlo]; exact hS
  have hgo : W p l e rm_c_B_endOf s m args below meth c H locs 0 0 Q (F0 m 0 ls []) := by
    clear hH hlo
    refine lv_lload_n hx hb dX0_endOf_0 rfl (lv_at hl 1 rfl) ?_
    refine cp_i (va_runS (As := [.long 45]) (rest := []) ⟨hx, hb, hml, hown, hts⟩ (c_B_first l g cT H.size 45) (va_cwS 1 hts gX0_endOf_X0_first rfl rfl rfl yd_X0_first.2 ⟨(Nat.le_of_ble_eq_true rfl), (Nat.le_of_ble_eq_true rfl)⟩) (preS (ws := []) (wc := []) rfl (fun _ _ h => by simp at h) (va_D_nil (A := A)) hK hN hZ hS hA [] rfl rfl) rfl rfl hl.1 rfl (lv_room (Nat.le_of_ble_eq_true rfl)) dX0_endOf_1 ⟨(Nat.le_of_ble_eq_true rfl), (Nat.le_of_ble_eq_true rfl)⟩) hP hS hA (fun r_1 u H locs h_2 hP hS => ?_)
    subst h_2
    refine tI 5 (by decide) ?_
    refine lv_istore_n (lv' := [(3, .int 5), (0, .ref o), (1, .long 45)]) hx hb dX0_endOf_4 rfl hl (by decide) rfl (fun ls hl => ?_)
    refine lv_iconst (v := 0) hx hb dX0_endOf_5 (by decide) ?_
    refine lv_istore (lv' := [(4, .int 0), (3, .int 5), (0, .ref o), (1, .long 45)]) hx hb dX0_endOf_6 hl (by decide) rfl (fun ls hl => ?_)
    refine lv_iload hx hb dX0_endOf_8 (lv_at hl 0 rfl) ?_
    refine lv_iconst (v := 5) hx hb dX0_endOf_10 (by decide) ?_
    refine icmp_gt_f hx hb dX0_endOf_11 69 (by decide) (by decide) ?_
    refine lv_iload_n hx hb dX0_endOf_14 rfl (lv_at hl 1 rfl) ?_
    refine lv_iconst (v := 5) hx hb dX0_endOf_15 (by decide) ?_
    refine icmp_ge_t hx hb 69 dX0_endOf_16 (by decide) (by decide) ?_
    refine lv_iload_n hx hb dX0_endOf_69 rfl (lv_at hl 1 rfl) ?_
    refine lv_iconst (v := 5) hx hb dX0_endOf_70 (by decide) ?_
    refine icmp_ne_f hx hb dX0_endOf_71 78 (by decide) (by decide) ?_
    refine lv_iconst (v := 0) hx hb dX0_endOf_74 (by decide) ?_
    refine lv_goto (tgt := 79) hx hb dX0_endOf_75 (by decide) ?_
    exact rt_i hx hb hr hlocks hQ hP hD hS () [0, 1, 2] dX0_endOf_79 rfl (Nat.le_of_ble_eq_true rfl) (Nat.le_of_ble_eq_true rfl) rfl (by decide) rfl
  rw [hH, hlo] at hgo
  exact hgo
theorem hi_X0_init_X1 : ∀ w ∈ wsX10, w ∈ wsX0_init := fun _ h => List.mem_cons_of_mem _ (List.mem_append_left _ (List.mem_append_left _ (List.mem_append_right _ h)))
theorem hi_X0_init_X0 : ∀ w ∈ wsX00, w ∈ wsX0_init := fun _ h => List.mem_cons_of_mem _ (List.mem_append_left _ (List.mem_append_right _ h))
abbrev rm_c_B_init : Room := { frames := 3, cells := 9, slots := 8456, locals := 66 }
set_option maxHeartbeats 4000000 in
set_option maxRecDepth 100000 in
theorem c_B_init (l : Launch) (g : va_G) (cT : Nat → ClassId) (sz : Nat) (o : Nat) (o6 : Nat)  : Ctr l g cT sz yX0_init wsX0_init rm_c_B_init [.ref o, .ref o6] [(o, .inr (0, [.null, .null, .null, .null, .int 0]))] (QV g (fun (u : Nat × Nat × Nat × Nat × Nat × Nat × Nat × Nat × Nat) => True) (fun (u : Nat × Nat × Nat × Nat × Nat × Nat × Nat × Nat × Nat) => [(o, .inr (0, [.ref o6, .ref u.2.2.1, .ref u.1, .ref u.2.1, .int (-1)])), (u.1, .inl (cT 0, 2400, .inl (fun _ => 0))), (u.2.1, .inl (cT 0, 800, .inl (fun _ => 0))), (u.2.2.1, .inr (1, [.ref u.2.2.2.1, .ref u.2.2.2.2.2.2.1, .ref u.2.2.2.2.2.2.2.1, .ref u.2.2.2.2.2.2.2.2, .int 0])), (u.2.2.2.2.2.2.1, .inl (cT 0, 800, .inl (fun _ => 0))), (u.2.2.2.2.2.2.2.1, .inl (cT 0, 800, .inl (fun _ => 0))), (u.2.2.2.2.2.2.2.2, .inl (cT 0, 800, .inl (fun _ => 0))), (u.2.2.2.1, .inr (2, [.ref u.2.2.2.2.1, .ref u.2.2.2.2.2.1, .int 0])), (u.2.2.2.2.1, .inl (cT 1, 800, .inr (.inl (fun _ => 0)))), (u.2.2.2.2.2.1, .inl (cT 0, 2048, .inl (fun _ => 0)))])) 9 8456 := by
  refine mk_ctr (cc := cX0_init) (maxL := 2) (ret := none) (by decide) rfl (Nat.le_of_ble_eq_true rfl) ?_
  intro p e s m args below meth c A Q hx hb hr hts hown hlocks hin hml hP hK hD hN hZ hA hS hQ ls hl
  have hl : lv_has ls 2 [(0, .ref o), (1, .ref o6)] := hl
  obtain ⟨H, hH⟩ : ∃ H : Heap, H = s.heap := ⟨_, rfl⟩
  obtain ⟨locs, hlo⟩ : ∃ x : List Loc, x = [] := ⟨_, rfl⟩
  rw [← hH] at hP
  have hS : va_S A s.heap H locs := by rw [hH, hlo]; exact hS
  have hgo : W p l e rm_c_B_init s m args below meth c H locs 0 0 Q (F0 m 0 ls []) := by
    clear hH hlo
    refine lv_aload_n hx hb dX0_init_0 rfl (lv_at hl 0 rfl) ?_
    refine W.objInit hx hb hown (hts (.methodLink RX0 3 objectInit) (by decide +kernel)) (hts (.instanceMethod objectInit) (by decide +kernel)) (hts _ (List.mem_cons_of_mem _ (List.mem_append_left _ (List.mem_append_left _ (List.mem_append_left _ (List.mem_append_left _ (List.mem_of_getElem? (i := 2) rfl))))))) rfl (by rw [hml]; exact hl.1) rfl dX0_init_1 (Nat.le_of_ble_eq_true rfl) (Nat.le_of_ble_eq_true rfl) ?_
    refine W.eq (g2 := F0 m 4 ls []) rfl ?_
    refine lv_aload_n hx hb dX0_init_4 rfl (lv_at hl 0 rfl) ?_
    refine va_new (ci := 1) (fs := [.null, .null, .null, .null, .int 0]) (C := RX1) (T := TX1) (N := 5) hx hb hts hi_X0_init_X1 tyX1 tyX1_ok hown (hts (.classLink RX0 9 RX1) (by decide +kernel)) (hts (.instantiable RX1 5) (by decide +kernel)) (hts (.initialized RX1) (by decide +kernel)) hK hP hD hS hA rfl dv_X1 (Nat.le_of_ble_eq_true rfl) (Nat.le_of_ble_eq_true rfl) dX0_init_5 (fun q_1 H hP hD hS => ?_)
    have hP : va_P g vwCl [(o, .inr (0, [.null, .null, .null, .null, .int 0])), (q_1, .inr (1, [.null, .null, .null, .null, .int 0]))] H := hP
    have hD : va_D A [(o, .inr (0, [.null, .null, .null, .null, .int 0])), (q_1, .inr (1, [.null, .null, .null, .null, .int 0]))] := hD
    refine W.widen (k := 1) (n := 5) (Nat.le_of_ble_eq_true rfl) (Nat.le_of_ble_eq_true rfl) ?_
    refine lv_dup hx hb dX0_init_8 rfl ?_
    refine lv_sipush (v := 800) hx hb dX0_init_9 (by decide) ?_
    refine cj_v 7 5256 (wr := [(o, .inr (0, [.null, .null, .null, .null, .int 0]))]) (va_runI (As := [.int 800]) (rest := [.ref q_1, .ref o]) ⟨hx, hb, hml, hown, hts⟩ (c_F_init_800 l g cT H.size q_1) (cwI 1 hts gX0_init_X1_init rfl rfl rfl (hts (.initialized RX1) (by decide +kernel)) (hts (.methodLink RX0 11 yX1_init) (by decide +kernel)) (hts (.instanceMethod yX1_init) (by decide +kernel)) rfl yd_X1_init.2 ⟨(Nat.le_of_ble_eq_true rfl), (Nat.le_of_ble_eq_true rfl)⟩) (preS (wc := [(q_1, .inr (1, [.null, .null, .null, .null, .int 0]))]) rfl hP hD hK hN hZ hS hA [1] rfl (by decide)) rfl rfl hl.1 rfl (lv_room (Nat.le_of_ble_eq_true rfl)) dX0_init_12 ⟨(Nat.le_of_ble_eq_true rfl), (Nat.le_of_ble_eq_true rfl)⟩) hP hD hS hA [1] [0] rfl rfl (by decide) (by decide) (Nat.le_of_ble_eq_true rfl) (Nat.le_of_ble_eq_true rfl) (fun u H locs h_3 hP hD hS => ?_)
    obtain ⟨u_4, u_5, u_6, u_7, u_8, u_9⟩ := u
    have hP : va_P g vwCl [(o, .inr (0, [.null, .null, .null, .null, .int 0])), (q_1, .inr (1, [.ref u_4, .ref u_7, .ref u_8, .ref u_9, .int 0])), (u_7, .inl (cT 0, 800, .inl (fun _ => 0))), (u_8, .inl (cT 0, 800, .inl (fun _ => 0))), (u_9, .inl (cT 0, 800, .inl (fun _ => 0))), (u_4, .inr (2, [.ref u_5, .ref u_6, .int 0])), (u_5, .inl (cT 1, 800, .inr (.inl (fun _ => 0)))), (u_6, .inl (cT 0, 2048, .inl (fun _ => 0)))] H := hP
    have hD : va_D A [(o, .inr (0, [.null, .null, .null, .null, .int 0])), (q_1, .inr (1, [.ref u_4, .ref u_7, .ref u_8, .ref u_9, .int 0])), (u_7, .inl (cT 0, 800, .inl (fun _ => 0))), (u_8, .inl (cT 0, 800, .inl (fun _ => 0))), (u_9, .inl (cT 0, 800, .inl (fun _ => 0))), (u_4, .inr (2, [.ref u_5, .ref u_6, .int 0])), (u_5, .inl (cT 1, 800, .inr (.inl (fun _ => 0)))), (u_6, .inl (cT 0, 2048, .inl (fun _ => 0)))] := hD
    refine va_putF (C := RX0) (T := TX0) (N := 5) (v := .ref q_1) (ty := .object "BothWays$Finds") hx hb hts hi_X0_init_X0 tyX0 tyX0_ok nmX0 hown hK hP hD hS 0 rfl rfl 1 (by decide) (hts (.fieldLink RX0 14 "BothWays$Beginnings" "finds" "LBothWays$Finds;") (by decide +kernel)) (fun _ h => h) rfl hin rfl (by decide +kernel) rfl rfl (Nat.le_of_ble_eq_true rfl) dX0_init_15 (fun H locs hP hD hS => ?_)
    have hP : va_P g vwCl [(o, .inr (0, [.null, .ref q_1, .null, .null, .int 0])), (q_1, .inr (1, [.ref u_4, .ref u_7, .ref u_8, .ref u_9, .int 0])), (u_7, .inl (cT 0, 800, .inl (fun _ => 0))), (u_8, .inl (cT 0, 800, .inl (fun _ => 0))), (u_9, .inl (cT 0, 800, .inl (fun _ => 0))), (u_4, .inr (2, [.ref u_5, .ref u_6, .int 0])), (u_5, .inl (cT 1, 800, .inr (.inl (fun _ => 0)))), (u_6, .inl (cT 0, 2048, .inl (fun _ => 0)))] H := hP
    have hD : va_D A [(o, .inr (0, [.null, .ref q_1, .null, .null, .int 0])), (q_1, .inr (1, [.ref u_4, .ref u_7, .ref u_8, .ref u_9, .int 0])), (u_7, .inl (cT 0, 800, .inl (fun _ => 0))), (u_8, .inl (cT 0, 800, .inl (fun _ => 0))), (u_9, .inl (cT 0, 800, .inl (fun _ => 0))), (u_4, .inr (2, [.ref u_5, .ref u_6, .int 0])), (u_5, .inl (cT 1, 800, .inr (.inl (fun _ => 0)))), (u_6, .inl (cT 0, 2048, .inl (fun _ => 0)))] := hD
    refine lv_aload_n hx hb dX0_init_18 rfl (lv_at hl 0 rfl) ?_
    refine lv_sipush (v := 2400) hx hb dX0_init_19 (by decide) ?_
    refine w_newI hx hb (hts (.arrayClass .int) (by decide +kernel)) hK hP hD hS hA 2400 8 7656 dX0_init_22 (by decide) (by decide) (by decide) (Nat.le_of_ble_eq_true rfl) (Nat.le_of_ble_eq_true rfl) (Nat.le_of_ble_eq_true rfl) (Nat.le_of_ble_eq_true rfl) (fun q_10 H hP hD hS => ?_)
    have hP : va_P g vwCl [(o, .inr (0, [.null, .ref q_1, .null, .null, .int 0])), (q_1, .inr (1, [.ref u_4, .ref u_7, .ref u_8, .ref u_9, .int 0])), (u_7, .inl (cT 0, 800, .inl (fun _ => 0))), (u_8, .inl (cT 0, 800, .inl (fun _ => 0))), (u_9, .inl (cT 0, 800, .inl (fun _ => 0))), (u_4, .inr (2, [.ref u_5, .ref u_6, .int 0])), (u_5, .inl (cT 1, 800, .inr (.inl (fun _ => 0)))), (u_6, .inl (cT 0, 2048, .inl (fun _ => 0))), (q_10, .inl (cT 0, 2400, .inl (fun _ => 0)))] H := hP
    have hD : va_D A [(o, .inr (0, [.null, .ref q_1, .null, .null, .int 0])), (q_1, .inr (1, [.ref u_4, .ref u_7, .ref u_8, .ref u_9, .int 0])), (u_7, .inl (cT 0, 800, .inl (fun _ => 0))), (u_8, .inl (cT 0, 800, .inl (fun _ => 0))), (u_9, .inl (cT 0, 800, .inl (fun _ => 0))), (u_4, .inr (2, [.ref u_5, .ref u_6, .int 0])), (u_5, .inl (cT 1, 800, .inr (.inl (fun _ => 0)))), (u_6, .inl (cT 0, 2048, .inl (fun _ => 0))), (q_10, .inl (cT 0, 2400, .inl (fun _ => 0)))] := hD
    refine va_putF (C := RX0) (T := TX0) (N := 5) (v := .ref q_10) (ty := .array .int) hx hb hts hi_X0_init_X0 tyX0 tyX0_ok nmX0 hown hK hP hD hS 0 rfl rfl 2 (by decide) (hts (.fieldLink RX0 20 "BothWays$Beginnings" "nexts" "[I") (by decide +kernel)) (fun _ h => h) rfl hin rfl (by decide +kernel) rfl rfl (Nat.le_of_ble_eq_true rfl) dX0_init_24 (fun H locs hP hD hS => ?_)
    have hP : va_P g vwCl [(o, .inr (0, [.null, .ref q_1, .ref q_10, .null, .int 0])), (q_1, .inr (1, [.ref u_4, .ref u_7, .ref u_8, .ref u_9, .int 0])), (u_7, .inl (cT 0, 800, .inl (fun _ => 0))), (u_8, .inl (cT 0, 800, .inl (fun _ => 0))), (u_9, .inl (cT 0, 800, .inl (fun _ => 0))), (u_4, .inr (2, [.ref u_5, .ref u_6, .int 0])), (u_5, .inl (cT 1, 800, .inr (.inl (fun _ => 0)))), (u_6, .inl (cT 0, 2048, .inl (fun _ => 0))), (q_10, .inl (cT 0, 2400, .inl (fun _ => 0)))] H := hP
    have hD : va_D A [(o, .inr (0, [.null, .ref q_1, .ref q_10, .null, .int 0])), (q_1, .inr (1, [.ref u_4, .ref u_7, .ref u_8, .ref u_9, .int 0])), (u_7, .inl (cT 0, 800, .inl (fun _ => 0))), (u_8, .inl (cT 0, 800, .inl (fun _ => 0))), (u_9, .inl (cT 0, 800, .inl (fun _ => 0))), (u_4, .inr (2, [.ref u_5, .ref u_6, .int 0])), (u_5, .inl (cT 1, 800, .inr (.inl (fun _ => 0)))), (u_6, .inl (cT 0, 2048, .inl (fun _ => 0))), (q_10, .inl (cT 0, 2400, .inl (fun _ => 0)))] := hD
    refine lv_aload_n hx hb dX0_init_27 rfl (lv_at hl 0 rfl) ?_
    refine lv_sipush (v := 800) hx hb dX0_init_28 (by decide) ?_
    refine w_newI hx hb (hts (.arrayClass .int) (by decide +kernel)) hK hP hD hS hA 800 9 8456 dX0_init_31 (by decide) (by decide) (by decide) (Nat.le_of_ble_eq_true rfl) (Nat.le_of_ble_eq_true rfl) (Nat.le_of_ble_eq_true rfl) (Nat.le_of_ble_eq_true rfl) (fun q_11 H hP hD hS => ?_)
    have hP : va_P g vwCl [(o, .inr (0, [.null, .ref q_1, .ref q_10, .null, .int 0])), (q_1, .inr (1, [.ref u_4, .ref u_7, .ref u_8, .ref u_9, .int 0])), (u_7, .inl (cT 0, 800, .inl (fun _ => 0))), (u_8, .inl (cT 0, 800, .inl (fun _ => 0))), (u_9, .inl (cT 0, 800, .inl (fun _ => 0))), (u_4, .inr (2, [.ref u_5, .ref u_6, .int 0])), (u_5, .inl (cT 1, 800, .inr (.inl (fun _ => 0)))), (u_6, .inl (cT 0, 2048, .inl (fun _ => 0))), (q_10, .inl (cT 0, 2400, .inl (fun _ => 0))), (q_11, .inl (cT 0, 800, .inl (fun _ => 0)))] H := hP
    have hD : va_D A [(o, .inr (0, [.null, .ref q_1, .ref q_10, .null, .int 0])), (q_1, .inr (1, [.ref u_4, .ref u_7, .ref u_8, .ref u_9, .int 0])), (u_7, .inl (cT 0, 800, .inl (fun _ => 0))), (u_8, .inl (cT 0, 800, .inl (fun _ => 0))), (u_9, .inl (cT 0, 800, .inl (fun _ => 0))), (u_4, .inr (2, [.ref u_5, .ref u_6, .int 0])), (u_5, .inl (cT 1, 800, .inr (.inl (fun _ => 0)))), (u_6, .inl (cT 0, 2048, .inl (fun _ => 0))), (q_10, .inl (cT 0, 2400, .inl (fun _ => 0))), (q_11, .inl (cT 0, 800, .inl (fun _ => 0)))] := hD
    refine va_putF (C := RX0) (T := TX0) (N := 5) (v := .ref q_11) (ty := .array .int) hx hb hts hi_X0_init_X0 tyX0 tyX0_ok nmX0 hown hK hP hD hS 0 rfl rfl 3 (by decide) (hts (.fieldLink RX0 24 "BothWays$Beginnings" "ends" "[I") (by decide +kernel)) (fun _ h => h) rfl hin rfl (by decide +kernel) rfl rfl (Nat.le_of_ble_eq_true rfl) dX0_init_33 (fun H locs hP hD hS => ?_)
    have hP : va_P g vwCl [(o, .inr (0, [.null, .ref q_1, .ref q_10, .ref q_11, .int 0])), (q_1, .inr (1, [.ref u_4, .ref u_7, .ref u_8, .ref u_9, .int 0])), (u_7, .inl (cT 0, 800, .inl (fun _ => 0))), (u_8, .inl (cT 0, 800, .inl (fun _ => 0))), (u_9, .inl (cT 0, 800, .inl (fun _ => 0))), (u_4, .inr (2, [.ref u_5, .ref u_6, .int 0])), (u_5, .inl (cT 1, 800, .inr (.inl (fun _ => 0)))), (u_6, .inl (cT 0, 2048, .inl (fun _ => 0))), (q_10, .inl (cT 0, 2400, .inl (fun _ => 0))), (q_11, .inl (cT 0, 800, .inl (fun _ => 0)))] H := hP
    have hD : va_D A [(o, .inr (0, [.null, .ref q_1, .ref q_10, .ref q_11, .int 0])), (q_1, .inr (1, [.ref u_4, .ref u_7, .ref u_8, .ref u_9, .int 0])), (u_7, .inl (cT 0, 800, .inl (fun _ => 0))), (u_8, .inl (cT 0, 800, .inl (fun _ => 0))), (u_9, .inl (cT 0, 800, .inl (fun _ => 0))), (u_4, .inr (2, [.ref u_5, .ref u_6, .int 0])), (u_5, .inl (cT 1, 800, .inr (.inl (fun _ => 0)))), (u_6, .inl (cT 0, 2048, .inl (fun _ => 0))), (q_10, .inl (cT 0, 2400, .inl (fun _ => 0))), (q_11, .inl (cT 0, 800, .inl (fun _ => 0)))] := hD
    refine lv_aload_n hx hb dX0_init_36 rfl (lv_at hl 0 rfl) ?_
    refine lv_iconst (v := (-1)) hx hb dX0_init_37 (by decide) ?_
    refine va_put (C := RX0) (T := TX0) (N := 5) (v := .int (-1)) (ty := .int) hx hb hts hi_X0_init_X0 tyX0 tyX0_ok nmX0 hown hK hP hD hS 0 rfl rfl 4 (by decide) (hts (.fieldLink RX0 27 "BothWays$Beginnings" "version" "I") (by decide +kernel)) (fun _ h => h) rfl (by decide +kernel) rfl rfl (Nat.le_of_ble_eq_true rfl) dX0_init_38 (fun H locs hP hD hS => ?_)
    have hP : va_P g vwCl [(o, .inr (0, [.null, .ref q_1, .ref q_10, .ref q_11, .int (-1)])), (q_1, .inr (1, [.ref u_4, .ref u_7, .ref u_8, .ref u_9, .int 0])), (u_7, .inl (cT 0, 800, .inl (fun _ => 0))), (u_8, .inl (cT 0, 800, .inl (fun _ => 0))), (u_9, .inl (cT 0, 800, .inl (fun _ => 0))), (u_4, .inr (2, [.ref u_5, .ref u_6, .int 0])), (u_5, .inl (cT 1, 800, .inr (.inl (fun _ => 0)))), (u_6, .inl (cT 0, 2048, .inl (fun _ => 0))), (q_10, .inl (cT 0, 2400, .inl (fun _ => 0))), (q_11, .inl (cT 0, 800, .inl (fun _ => 0)))] H := hP
    have hD : va_D A [(o, .inr (0, [.null, .ref q_1, .ref q_10, .ref q_11, .int (-1)])), (q_1, .inr (1, [.ref u_4, .ref u_7, .ref u_8, .ref u_9, .int 0])), (u_7, .inl (cT 0, 800, .inl (fun _ => 0))), (u_8, .inl (cT 0, 800, .inl (fun _ => 0))), (u_9, .inl (cT 0, 800, .inl (fun _ => 0))), (u_4, .inr (2, [.ref u_5, .ref u_6, .int 0])), (u_5, .inl (cT 1, 800, .inr (.inl (fun _ => 0)))), (u_6, .inl (cT 0, 2048, .inl (fun _ => 0))), (q_10, .inl (cT 0, 2400, .inl (fun _ => 0))), (q_11, .inl (cT 0, 800, .inl (fun _ => 0)))] := hD
    refine lv_aload_n hx hb dX0_init_41 rfl (lv_at hl 0 rfl) ?_
    refine lv_aload_n hx hb dX0_init_42 rfl (lv_at hl 1 rfl) ?_
    refine va_putF (C := RX0) (T := TX0) (N := 5) (v := .ref o6) (ty := .object "BothWays$Reader") hx hb hts hi_X0_init_X0 tyX0 tyX0_ok nmX0 hown hK hP hD hS 0 rfl rfl 0 (by decide) (hts (.fieldLink RX0 31 "BothWays$Beginnings" "reader" "LBothWays$Reader;") (by decide +kernel)) (fun _ h => h) rfl hin rfl (by decide +kernel) rfl rfl (Nat.le_of_ble_eq_true rfl) dX0_init_43 (fun H locs hP hD hS => ?_)
    have hP : va_P g vwCl [(o, .inr (0, [.ref o6, .ref q_1, .ref q_10, .ref q_11, .int (-1)])), (q_1, .inr (1, [.ref u_4, .ref u_7, .ref u_8, .ref u_9, .int 0])), (u_7, .inl (cT 0, 800, .inl (fun _ => 0))), (u_8, .inl (cT 0, 800, .inl (fun _ => 0))), (u_9, .inl (cT 0, 800, .inl (fun _ => 0))), (u_4, .inr (2, [.ref u_5, .ref u_6, .int 0])), (u_5, .inl (cT 1, 800, .inr (.inl (fun _ => 0)))), (u_6, .inl (cT 0, 2048, .inl (fun _ => 0))), (q_10, .inl (cT 0, 2400, .inl (fun _ => 0))), (q_11, .inl (cT 0, 800, .inl (fun _ => 0)))] H := hP
    have hD : va_D A [(o, .inr (0, [.ref o6, .ref q_1, .ref q_10, .ref q_11, .int (-1)])), (q_1, .inr (1, [.ref u_4, .ref u_7, .ref u_8, .ref u_9, .int 0])), (u_7, .inl (cT 0, 800, .inl (fun _ => 0))), (u_8, .inl (cT 0, 800, .inl (fun _ => 0))), (u_9, .inl (cT 0, 800, .inl (fun _ => 0))), (u_4, .inr (2, [.ref u_5, .ref u_6, .int 0])), (u_5, .inl (cT 1, 800, .inr (.inl (fun _ => 0)))), (u_6, .inl (cT 0, 2048, .inl (fun _ => 0))), (q_10, .inl (cT 0, 2400, .inl (fun _ => 0))), (q_11, .inl (cT 0, 800, .inl (fun _ => 0)))] := hD
    exact rt_v hx hb hr hlocks hQ hP hD hS (q_10, q_11, q_1, u_4, u_5, u_6, u_7, u_8, u_9) [0, 8, 9, 1, 2, 3, 4, 5, 6, 7] dX0_init_46 (Nat.le_of_ble_eq_true rfl) (Nat.le_of_ble_eq_true rfl) rfl (by decide) trivial
  rw [hH, hlo] at hgo
  exact hgo
theorem hi_X0_renew_X0 : ∀ w ∈ wsX00, w ∈ wsX0_renew := fun _ h => List.mem_cons_of_mem _ (List.mem_append_left _ (List.mem_append_left _ (List.mem_append_left _ (List.mem_append_right _ h))))
theorem hi_X0_renew_X6 : ∀ w ∈ wsX60, w ∈ wsX0_renew := fun _ h => List.mem_cons_of_mem _ (List.mem_append_left _ (List.mem_append_left _ (List.mem_append_right _ h)))
theorem hi_X0_renew_X1 : ∀ w ∈ wsX10, w ∈ wsX0_renew := fun _ h => List.mem_cons_of_mem _ (List.mem_append_left _ (List.mem_append_right _ h))
theorem hi_X0_renew_X2 : ∀ w ∈ wsX20, w ∈ wsX0_renew := fun _ h => List.mem_cons_of_mem _ (List.mem_append_right _ h)
theorem yd_X0_empty : yX0_empty.cls = RX0 ∧ yX0_empty.cls ≠ "java/lang/invoke/MethodHandle" ∧ yX0_empty.cls ≠ "java/lang/invoke/VarHandle" ∧ (parseMethodDescriptor yX0_empty.desc).map (fun d => d.parameters.length) = some 0 := by decide +kernel
theorem yd_X0_endOf : yX0_endOf.cls = RX0 ∧ yX0_endOf.cls ≠ "java/lang/invoke/MethodHandle" ∧ yX0_endOf.cls ≠ "java/lang/invoke/VarHandle" ∧ (parseMethodDescriptor yX0_endOf.desc).map (fun d => d.parameters.length) = some 1 := by decide +kernel
theorem yd_X0_longer : yX0_longer.cls = RX0 ∧ yX0_longer.cls ≠ "java/lang/invoke/MethodHandle" ∧ yX0_longer.cls ≠ "java/lang/invoke/VarHandle" ∧ (parseMethodDescriptor yX0_longer.desc).map (fun d => d.parameters.length) = some 2 := by decide +kernel
abbrev rm_c_B_renew : Room := { frames := 3, cells := 0, slots := 0, locals := 76 }
set_option maxHeartbeats 4000000 in
set_option maxRecDepth 100000 in
theorem c_B_renew (l : Launch) (g : va_G) (cT : Nat → ClassId) (sz : Nat) (o : Nat) (nx : Nat) (en : Nat) (fi : Nat) (k : Nat) (a : Nat) (b : Nat) (pa : Nat) (la : Nat) (le : Nat) (o6 : Nat) (a6 : Nat)  : Ctr l g cT sz yX0_renew wsX0_renew rm_c_B_renew [.ref o] [(o, .inr (0, [.ref o6, .ref fi, .ref nx, .ref en, .int (-1)])), (nx, .inl (cT 0, 2400, .inl (fun _ => 0))), (en, .inl (cT 0, 800, .inl (fun _ => 0))), (fi, .inr (1, [.ref k, .ref pa, .ref la, .ref le, .int 0])), (pa, .inl (cT 0, 800, .inl (fun _ => 0))), (la, .inl (cT 0, 800, .inl (fun _ => 0))), (le, .inl (cT 0, 800, .inl (fun _ => 0))), (k, .inr (2, [.ref a, .ref b, .int 0])), (a, .inl (cT 1, 800, .inr (.inl (fun _ => 0)))), (b, .inl (cT 0, 2048, .inl (fun _ => 0))), (o6, .inr (6, [.int 1, .int 0, .int 0, .int 0, .ref a6])), (a6, .inl (cT 0, 25, .inl (fun _ => (-1))))] (QV g (fun (u : Unit) => True) (fun (u : Unit) => [(o, .inr (0, [.ref o6, .ref fi, .ref nx, .ref en, .int 0])), (nx, .inl (cT 0, 2400, .inl (fun _ => 0))), (en, .inl (cT 0, 800, .inl (fun _ => 0))), (fi, .inr (1, [.ref k, .ref pa, .ref la, .ref le, .int 0])), (k, .inr (2, [.ref a, .ref b, .int 1])), (o6, .inr (6, [.int 1, .int 0, .int 0, .int 0, .ref a6])), (a6, .inl (cT 0, 25, .inl (fun _ => (-1))))])) 0 0 := by
  refine mk_ctr (cc := cX0_renew) (maxL := 5) (ret := none) (by decide) rfl (Nat.le_of_ble_eq_true rfl) ?_
  intro p e s m args below meth c A Q hx hb hr hts hown hlocks hin hml hP hK hD hN hZ hA hS hQ ls hl
  have hl : lv_has ls 5 [(0, .ref o)] := hl
  obtain ⟨H, hH⟩ : ∃ H : Heap, H = s.heap := ⟨_, rfl⟩
  obtain ⟨locs, hlo⟩ : ∃ x : List Loc, x = [] := ⟨_, rfl⟩
  rw [← hH] at hP
  have hS : va_S A s.heap H locs := by rw [hH, hlo]; exact hS
  have hgo : W p l e rm_c_B_renew s m args below meth c H locs 0 0 Q (F0 m 0 ls []) := by
    clear hH hlo
    refine lv_aload_n hx hb dX0_renew_0 rfl (lv_at hl 0 rfl) ?_
    refine va_get (C := RX0) (T := TX0) (N := 5) (v := .int (-1)) hx hb hts hi_X0_renew_X0 hown hK hP 0 rfl rfl 4 (by decide) (hts (.fieldLink RX0 27 "BothWays$Beginnings" "version" "I") (by decide +kernel)) (fun _ h => h) rfl dX0_renew_1 ?_
    refine lv_aload_n hx hb dX0_renew_4 rfl (lv_at hl 0 rfl) ?_
    refine va_get (C := RX0) (T := TX0) (N := 5) (v := .ref o6) hx hb hts hi_X0_renew_X0 hown hK hP 0 rfl rfl 0 (by decide) (hts (.fieldLink RX0 31 "BothWays$Beginnings" "reader" "LBothWays$Reader;") (by decide +kernel)) (fun _ h => h) rfl dX0_renew_5 ?_
    refine va_getN (C := RX6) (T := TX6) (N := 5) (v := .int 0) hx hb hts hi_X0_renew_X6 hown hK hP 10 rfl rfl 3 (by decide) (nf_15 hN) (fun _ h => h) rfl dX0_renew_8 ?_
    refine icmp_ne_t hx hb 15 dX0_renew_11 (by decide) (by decide) ?_
    refine lv_aload_n hx hb dX0_renew_15 rfl (lv_at hl 0 rfl) ?_
    refine lv_aload_n hx hb dX0_renew_16 rfl (lv_at hl 0 rfl) ?_
    refine va_get (C := RX0) (T := TX0) (N := 5) (v := .ref o6) hx hb hts hi_X0_renew_X0 hown hK hP 0 rfl rfl 0 (by decide) (hts (.fieldLink RX0 31 "BothWays$Beginnings" "reader" "LBothWays$Reader;") (by decide +kernel)) (fun _ h => h) rfl dX0_renew_17 ?_
    refine va_getN (C := RX6) (T := TX6) (N := 5) (v := .int 0) hx hb hts hi_X0_renew_X6 hown hK hP 10 rfl rfl 3 (by decide) (nf_15 hN) (fun _ h => h) rfl dX0_renew_20 ?_
    refine va_put (C := RX0) (T := TX0) (N := 5) (v := .int 0) (ty := .int) hx hb hts hi_X0_renew_X0 tyX0 tyX0_ok nmX0 hown hK hP hD hS 0 rfl rfl 4 (by decide) (hts (.fieldLink RX0 27 "BothWays$Beginnings" "version" "I") (by decide +kernel)) (fun _ h => h) rfl (by decide +kernel) rfl rfl (Nat.le_of_ble_eq_true rfl) dX0_renew_23 (fun H locs hP hD hS => ?_)
    have hP : va_P g vwCl [(o, .inr (0, [.ref o6, .ref fi, .ref nx, .ref en, .int 0])), (nx, .inl (cT 0, 2400, .inl (fun _ => 0))), (en, .inl (cT 0, 800, .inl (fun _ => 0))), (fi, .inr (1, [.ref k, .ref pa, .ref la, .ref le, .int 0])), (pa, .inl (cT 0, 800, .inl (fun _ => 0))), (la, .inl (cT 0, 800, .inl (fun _ => 0))), (le, .inl (cT 0, 800, .inl (fun _ => 0))), (k, .inr (2, [.ref a, .ref b, .int 0])), (a, .inl (cT 1, 800, .inr (.inl (fun _ => 0)))), (b, .inl (cT 0, 2048, .inl (fun _ => 0))), (o6, .inr (6, [.int 1, .int 0, .int 0, .int 0, .ref a6])), (a6, .inl (cT 0, 25, .inl (fun _ => (-1))))] H := hP
    have hD : va_D A [(o, .inr (0, [.ref o6, .ref fi, .ref nx, .ref en, .int 0])), (nx, .inl (cT 0, 2400, .inl (fun _ => 0))), (en, .inl (cT 0, 800, .inl (fun _ => 0))), (fi, .inr (1, [.ref k, .ref pa, .ref la, .ref le, .int 0])), (pa, .inl (cT 0, 800, .inl (fun _ => 0))), (la, .inl (cT 0, 800, .inl (fun _ => 0))), (le, .inl (cT 0, 800, .inl (fun _ => 0))), (k, .inr (2, [.ref a, .ref b, .int 0])), (a, .inl (cT 1, 800, .inr (.inl (fun _ => 0)))), (b, .inl (cT 0, 2048, .inl (fun _ => 0))), (o6, .inr (6, [.int 1, .int 0, .int 0, .int 0, .ref a6])), (a6, .inl (cT 0, 25, .inl (fun _ => (-1))))] := hD
    refine lv_aload_n hx hb dX0_renew_26 rfl (lv_at hl 0 rfl) ?_
    refine va_get (C := RX0) (T := TX0) (N := 5) (v := .ref fi) hx hb hts hi_X0_renew_X0 hown hK hP 0 rfl rfl 1 (by decide) (hts (.fieldLink RX0 14 "BothWays$Beginnings" "finds" "LBothWays$Finds;") (by decide +kernel)) (fun _ h => h) rfl dX0_renew_27 ?_
    refine cj_v 0 0 (wr := [(o, .inr (0, [.ref o6, .ref fi, .ref nx, .ref en, .int 0])), (nx, .inl (cT 0, 2400, .inl (fun _ => 0))), (en, .inl (cT 0, 800, .inl (fun _ => 0))), (pa, .inl (cT 0, 800, .inl (fun _ => 0))), (la, .inl (cT 0, 800, .inl (fun _ => 0))), (le, .inl (cT 0, 800, .inl (fun _ => 0))), (a, .inl (cT 1, 800, .inr (.inl (fun _ => 0)))), (o6, .inr (6, [.int 1, .int 0, .int 0, .int 0, .ref a6])), (a6, .inl (cT 0, 25, .inl (fun _ => (-1))))]) (va_runV (As := []) (rest := []) ⟨hx, hb, hml, hown, hts⟩ (c_F_clear l g cT H.size fi k a b pa la le 0 2048 (fun _ => 0) 0 (by decide)) (cwV 0 hts gX0_renew_X1_clear rfl rfl rfl yd_X1_clear ⟨(Nat.le_of_ble_eq_true rfl), (Nat.le_of_ble_eq_true rfl)⟩) (preV (wc := [(fi, .inr (1, [.ref k, .ref pa, .ref la, .ref le, .int 0])), (k, .inr (2, [.ref a, .ref b, .int 0])), (b, .inl (cT 0, 2048, .inl (fun _ => 0)))]) rfl hP hD hK hN hZ hS hA [3, 7, 9] rfl (by decide) (ci := 1) (q0 := 3) rfl rfl) rfl rfl hl.1 rfl (lv_room (Nat.le_of_ble_eq_true rfl)) dX0_renew_30 ⟨(Nat.le_of_ble_eq_true rfl), (Nat.le_of_ble_eq_true rfl)⟩) hP hD hS hA [3, 7, 9] [0, 1, 2, 4, 5, 6, 8, 10, 11] rfl rfl (by decide) (by decide) (Nat.le_of_ble_eq_true rfl) (Nat.le_of_ble_eq_true rfl) (fun u H locs h_2 hP hD hS => ?_)
    have hP : va_P g vwCl [(o, .inr (0, [.ref o6, .ref fi, .ref nx, .ref en, .int 0])), (nx, .inl (cT 0, 2400, .inl (fun _ => 0))), (en, .inl (cT 0, 800, .inl (fun _ => 0))), (pa, .inl (cT 0, 800, .inl (fun _ => 0))), (la, .inl (cT 0, 800, .inl (fun _ => 0))), (le, .inl (cT 0, 800, .inl (fun _ => 0))), (a, .inl (cT 1, 800, .inr (.inl (fun _ => 0)))), (o6, .inr (6, [.int 1, .int 0, .int 0, .int 0, .ref a6])), (a6, .inl (cT 0, 25, .inl (fun _ => (-1)))), (fi, .inr (1, [.ref k, .ref pa, .ref la, .ref le, .int 0])), (k, .inr (2, [.ref a, .ref b, .int 0])), (b, .inl (cT 0, 2048, .inl (fun _ => 0)))] H := hP
    have hD : va_D A [(o, .inr (0, [.ref o6, .ref fi, .ref nx, .ref en, .int 0])), (nx, .inl (cT 0, 2400, .inl (fun _ => 0))), (en, .inl (cT 0, 800, .inl (fun _ => 0))), (pa, .inl (cT 0, 800, .inl (fun _ => 0))), (la, .inl (cT 0, 800, .inl (fun _ => 0))), (le, .inl (cT 0, 800, .inl (fun _ => 0))), (a, .inl (cT 1, 800, .inr (.inl (fun _ => 0)))), (o6, .inr (6, [.int 1, .int 0, .int 0, .int 0, .ref a6])), (a6, .inl (cT 0, 25, .inl (fun _ => (-1)))), (fi, .inr (1, [.ref k, .ref pa, .ref la, .ref le, .int 0])), (k, .inr (2, [.ref a, .ref b, .int 0])), (b, .inl (cT 0, 2048, .inl (fun _ => 0)))] := hD
    refine lv_aload_n hx hb dX0_renew_33 rfl (lv_at hl 0 rfl) ?_
    refine va_get (C := RX0) (T := TX0) (N := 5) (v := .ref fi) hx hb hts hi_X0_renew_X0 hown hK hP 0 rfl rfl 1 (by decide) (hts (.fieldLink RX0 14 "BothWays$Beginnings" "finds" "LBothWays$Finds;") (by decide +kernel)) (fun _ h => h) rfl dX0_renew_34 ?_
    refine lv_aload_n hx hb dX0_renew_37 rfl (lv_at hl 0 rfl) ?_
    refine cj_l 0 0 (wr := [(nx, .inl (cT 0, 2400, .inl (fun _ => 0))), (en, .inl (cT 0, 800, .inl (fun _ => 0))), (pa, .inl (cT 0, 800, .inl (fun _ => 0))), (la, .inl (cT 0, 800, .inl (fun _ => 0))), (le, .inl (cT 0, 800, .inl (fun _ => 0))), (a, .inl (cT 1, 800, .inr (.inl (fun _ => 0)))), (fi, .inr (1, [.ref k, .ref pa, .ref la, .ref le, .int 0])), (k, .inr (2, [.ref a, .ref b, .int 0])), (b, .inl (cT 0, 2048, .inl (fun _ => 0)))]) (va_runV (As := []) (rest := [.ref fi]) ⟨hx, hb, hml, hown, hts⟩ (c_B_empty l g cT H.size o o6 a6 fi nx en) (cwV 0 hts gX0_renew_X0_empty rfl rfl rfl yd_X0_empty ⟨(Nat.le_of_ble_eq_true rfl), (Nat.le_of_ble_eq_true rfl)⟩) (preV (wc := [(o, .inr (0, [.ref o6, .ref fi, .ref nx, .ref en, .int 0])), (o6, .inr (6, [.int 1, .int 0, .int 0, .int 0, .ref a6])), (a6, .inl (cT 0, 25, .inl (fun _ => (-1))))]) rfl hP hD hK hN hZ hS hA [0, 7, 8] rfl (by decide) (ci := 0) (q0 := 0) rfl rfl) rfl rfl hl.1 rfl (lv_room (Nat.le_of_ble_eq_true rfl)) dX0_renew_38 ⟨(Nat.le_of_ble_eq_true rfl), (Nat.le_of_ble_eq_true rfl)⟩) hP hD hS hA [0, 7, 8] [1, 2, 3, 4, 5, 6, 9, 10, 11] rfl rfl (by decide) (by decide) (Nat.le_of_ble_eq_true rfl) (Nat.le_of_ble_eq_true rfl) (fun r_3 u H locs h_4 hP hD hS => ?_)
    have hP : va_P g vwCl [(nx, .inl (cT 0, 2400, .inl (fun _ => 0))), (en, .inl (cT 0, 800, .inl (fun _ => 0))), (pa, .inl (cT 0, 800, .inl (fun _ => 0))), (la, .inl (cT 0, 800, .inl (fun _ => 0))), (le, .inl (cT 0, 800, .inl (fun _ => 0))), (a, .inl (cT 1, 800, .inr (.inl (fun _ => 0)))), (fi, .inr (1, [.ref k, .ref pa, .ref la, .ref le, .int 0])), (k, .inr (2, [.ref a, .ref b, .int 0])), (b, .inl (cT 0, 2048, .inl (fun _ => 0))), (o, .inr (0, [.ref o6, .ref fi, .ref nx, .ref en, .int 0])), (o6, .inr (6, [.int 1, .int 0, .int 0, .int 0, .ref a6])), (a6, .inl (cT 0, 25, .inl (fun _ => (-1))))] H := hP
    have hD : va_D A [(nx, .inl (cT 0, 2400, .inl (fun _ => 0))), (en, .inl (cT 0, 800, .inl (fun _ => 0))), (pa, .inl (cT 0, 800, .inl (fun _ => 0))), (la, .inl (cT 0, 800, .inl (fun _ => 0))), (le, .inl (cT 0, 800, .inl (fun _ => 0))), (a, .inl (cT 1, 800, .inr (.inl (fun _ => 0)))), (fi, .inr (1, [.ref k, .ref pa, .ref la, .ref le, .int 0])), (k, .inr (2, [.ref a, .ref b, .int 0])), (b, .inl (cT 0, 2048, .inl (fun _ => 0))), (o, .inr (0, [.ref o6, .ref fi, .ref nx, .ref en, .int 0])), (o6, .inr (6, [.int 1, .int 0, .int 0, .int 0, .ref a6])), (a6, .inl (cT 0, 25, .inl (fun _ => (-1))))] := hD
    subst h_4
    refine lv_iconst (v := (-1)) hx hb dX0_renew_41 (by decide) ?_
    refine lv_iconst (v := (-1)) hx hb dX0_renew_42 (by decide) ?_
    refine cj_i 0 0 (wr := [(nx, .inl (cT 0, 2400, .inl (fun _ => 0))), (en, .inl (cT 0, 800, .inl (fun _ => 0))), (o, .inr (0, [.ref o6, .ref fi, .ref nx, .ref en, .int 0])), (o6, .inr (6, [.int 1, .int 0, .int 0, .int 0, .ref a6])), (a6, .inl (cT 0, 25, .inl (fun _ => (-1))))]) (va_runV (As := [.long 45, .int (-1), .int (-1)]) (rest := []) ⟨hx, hb, hml, hown, hts⟩ (c_F_reach_800_45e l g cT H.size fi k a b pa la le) (cwV 3 hts gX0_renew_X1_reach rfl rfl rfl yd_X1_reach ⟨(Nat.le_of_ble_eq_true rfl), (Nat.le_of_ble_eq_true rfl)⟩) (preV (wc := [(fi, .inr (1, [.ref k, .ref pa, .ref la, .ref le, .int 0])), (pa, .inl (cT 0, 800, .inl (fun _ => 0))), (la, .inl (cT 0, 800, .inl (fun _ => 0))), (le, .inl (cT 0, 800, .inl (fun _ => 0))), (k, .inr (2, [.ref a, .ref b, .int 0])), (a, .inl (cT 1, 800, .inr (.inl (fun _ => 0)))), (b, .inl (cT 0, 2048, .inl (fun _ => 0)))]) rfl hP hD hK hN hZ hS hA [6, 2, 3, 4, 7, 5, 8] rfl (by decide) (ci := 1) (q0 := 6) rfl rfl) rfl rfl hl.1 rfl (lv_room (Nat.le_of_ble_eq_true rfl)) dX0_renew_43 ⟨(Nat.le_of_ble_eq_true rfl), (Nat.le_of_ble_eq_true rfl)⟩) hP hD hS hA [6, 2, 3, 4, 7, 5, 8] [0, 1, 9, 10, 11] rfl rfl (by decide) (by decide) (Nat.le_of_ble_eq_true rfl) (Nat.le_of_ble_eq_true rfl) (fun r_5 u H locs h_6 hP hD hS => ?_)
    have hP : va_P g vwCl [(nx, .inl (cT 0, 2400, .inl (fun _ => 0))), (en, .inl (cT 0, 800, .inl (fun _ => 0))), (o, .inr (0, [.ref o6, .ref fi, .ref nx, .ref en, .int 0])), (o6, .inr (6, [.int 1, .int 0, .int 0, .int 0, .ref a6])), (a6, .inl (cT 0, 25, .inl (fun _ => (-1)))), (fi, .inr (1, [.ref k, .ref pa, .ref la, .ref le, .int 0])), (pa, .inl (cT 0, 800, .inl (upd (fun _ => 0) 0 (-1)))), (la, .inl (cT 0, 800, .inl (upd (fun _ => 0) 0 (-1)))), (le, .inl (cT 0, 800, .inl (fun _ => 0))), (k, .inr (2, [.ref a, .ref b, .int 1])), (a, .inl (cT 1, 800, .inr (.inl (vp_updL (fun _ => 0) 0 45)))), (b, .inl (cT 0, 2048, .inl (upd (fun _ => 0) 101 1)))] H := hP
    have hD : va_D A [(nx, .inl (cT 0, 2400, .inl (fun _ => 0))), (en, .inl (cT 0, 800, .inl (fun _ => 0))), (o, .inr (0, [.ref o6, .ref fi, .ref nx, .ref en, .int 0])), (o6, .inr (6, [.int 1, .int 0, .int 0, .int 0, .ref a6])), (a6, .inl (cT 0, 25, .inl (fun _ => (-1)))), (fi, .inr (1, [.ref k, .ref pa, .ref la, .ref le, .int 0])), (pa, .inl (cT 0, 800, .inl (upd (fun _ => 0) 0 (-1)))), (la, .inl (cT 0, 800, .inl (upd (fun _ => 0) 0 (-1)))), (le, .inl (cT 0, 800, .inl (fun _ => 0))), (k, .inr (2, [.ref a, .ref b, .int 1])), (a, .inl (cT 1, 800, .inr (.inl (vp_updL (fun _ => 0) 0 45)))), (b, .inl (cT 0, 2048, .inl (upd (fun _ => 0) 101 1)))] := hD
    subst h_6
    refine lv_pop hx hb dX0_renew_46 rfl ?_
    refine lv_iconst (v := 0) hx hb dX0_renew_47 (by decide) ?_
    refine lv_istore_n (lv' := [(1, .int 0), (0, .ref o)]) hx hb dX0_renew_48 rfl hl (by decide) rfl (fun ls hl => ?_)
    refine lv_iload_n hx hb dX0_renew_49 rfl (lv_at hl 0 rfl) ?_
    refine lv_sipush (v := 800) hx hb dX0_renew_50 (by decide) ?_
    refine icmp_ge_f hx hb dX0_renew_53 152 (by decide) (by decide) ?_
    refine lv_iload_n hx hb dX0_renew_56 rfl (lv_at hl 0 rfl) ?_
    refine lv_aload_n hx hb dX0_renew_57 rfl (lv_at hl 1 rfl) ?_
    refine va_get (C := RX0) (T := TX0) (N := 5) (v := .ref fi) hx hb hts hi_X0_renew_X0 hown hK hP 2 rfl rfl 1 (by decide) (hts (.fieldLink RX0 14 "BothWays$Beginnings" "finds" "LBothWays$Finds;") (by decide +kernel)) (fun _ h => h) rfl dX0_renew_58 ?_
    refine va_getN (C := RX1) (T := TX1) (N := 5) (v := .ref k) hx hb hts hi_X0_renew_X1 hown hK hP 5 rfl rfl 0 (by decide) (nf_23 hN) (fun _ h => h) rfl dX0_renew_61 ?_
    refine va_getN (C := RX2) (T := TX2) (N := 3) (v := .int 1) hx hb hts hi_X0_renew_X2 hown hK hP 9 rfl rfl 2 (by decide) (nf_17 hN) (fun _ h => h) rfl dX0_renew_64 ?_
    refine icmp_ge_f hx hb dX0_renew_67 152 (by decide) (by decide) ?_
    refine lv_aload_n hx hb dX0_renew_70 rfl (lv_at hl 1 rfl) ?_
    refine va_get (C := RX0) (T := TX0) (N := 5) (v := .ref fi) hx hb hts hi_X0_renew_X0 hown hK hP 2 rfl rfl 1 (by decide) (hts (.fieldLink RX0 14 "BothWays$Beginnings" "finds" "LBothWays$Finds;") (by decide +kernel)) (fun _ h => h) rfl dX0_renew_71 ?_
    refine va_getN (C := RX1) (T := TX1) (N := 5) (v := .int 0) hx hb hts hi_X0_renew_X1 hown hK hP 5 rfl rfl 4 (by decide) (nf_28 hN) (fun _ h => h) rfl dX0_renew_74 ?_
    refine if_ne_f hx hb dX0_renew_77 152 (by decide) (by decide) ?_
    refine lv_aload_n hx hb dX0_renew_80 rfl (lv_at hl 1 rfl) ?_
    refine va_get (C := RX0) (T := TX0) (N := 5) (v := .ref fi) hx hb hts hi_X0_renew_X0 hown hK hP 2 rfl rfl 1 (by decide) (hts (.fieldLink RX0 14 "BothWays$Beginnings" "finds" "LBothWays$Finds;") (by decide +kernel)) (fun _ h => h) rfl dX0_renew_81 ?_
    refine va_getN (C := RX1) (T := TX1) (N := 5) (v := .ref k) hx hb hts hi_X0_renew_X1 hown hK hP 5 rfl rfl 0 (by decide) (nf_23 hN) (fun _ h => h) rfl dX0_renew_84 ?_
    refine lv_iload_n hx hb dX0_renew_87 rfl (lv_at hl 0 rfl) ?_
    refine cj_l 0 0 (wr := [(nx, .inl (cT 0, 2400, .inl (fun _ => 0))), (en, .inl (cT 0, 800, .inl (fun _ => 0))), (o, .inr (0, [.ref o6, .ref fi, .ref nx, .ref en, .int 0])), (o6, .inr (6, [.int 1, .int 0, .int 0, .int 0, .ref a6])), (a6, .inl (cT 0, 25, .inl (fun _ => (-1)))), (fi, .inr (1, [.ref k, .ref pa, .ref la, .ref le, .int 0])), (pa, .inl (cT 0, 800, .inl (upd (fun _ => 0) 0 (-1)))), (la, .inl (cT 0, 800, .inl (upd (fun _ => 0) 0 (-1)))), (le, .inl (cT 0, 800, .inl (fun _ => 0))), (b, .inl (cT 0, 2048, .inl (upd (fun _ => 0) 101 1)))]) (va_runV (As := [.int 0]) (rest := []) ⟨hx, hb, hml, hown, hts⟩ (c_K_keyAt_800_45 l g cT H.size k a b) (cwV 1 hts gX0_renew_X2_keyAt rfl rfl rfl yd_X2_keyAt ⟨(Nat.le_of_ble_eq_true rfl), (Nat.le_of_ble_eq_true rfl)⟩) (preV (wc := [(k, .inr (2, [.ref a, .ref b, .int 1])), (a, .inl (cT 1, 800, .inr (.inl (vp_updL (fun _ => 0) 0 45))))]) rfl hP hD hK hN hZ hS hA [9, 10] rfl (by decide) (ci := 2) (q0 := 9) rfl rfl) rfl rfl hl.1 rfl (lv_room (Nat.le_of_ble_eq_true rfl)) dX0_renew_88 ⟨(Nat.le_of_ble_eq_true rfl), (Nat.le_of_ble_eq_true rfl)⟩) hP hD hS hA [9, 10] [0, 1, 2, 3, 4, 5, 6, 7, 8, 11] rfl rfl (by decide) (by decide) (Nat.le_of_ble_eq_true rfl) (Nat.le_of_ble_eq_true rfl) (fun r_7 u H locs h_8 hP hD hS => ?_)
    have hP : va_P g vwCl [(nx, .inl (cT 0, 2400, .inl (fun _ => 0))), (en, .inl (cT 0, 800, .inl (fun _ => 0))), (o, .inr (0, [.ref o6, .ref fi, .ref nx, .ref en, .int 0])), (o6, .inr (6, [.int 1, .int 0, .int 0, .int 0, .ref a6])), (a6, .inl (cT 0, 25, .inl (fun _ => (-1)))), (fi, .inr (1, [.ref k, .ref pa, .ref la, .ref le, .int 0])), (pa, .inl (cT 0, 800, .inl (upd (fun _ => 0) 0 (-1)))), (la, .inl (cT 0, 800, .inl (upd (fun _ => 0) 0 (-1)))), (le, .inl (cT 0, 800, .inl (fun _ => 0))), (b, .inl (cT 0, 2048, .inl (upd (fun _ => 0) 101 1))), (k, .inr (2, [.ref a, .ref b, .int 1])), (a, .inl (cT 1, 800, .inr (.inl (vp_updL (fun _ => 0) 0 45))))] H := hP
    have hD : va_D A [(nx, .inl (cT 0, 2400, .inl (fun _ => 0))), (en, .inl (cT 0, 800, .inl (fun _ => 0))), (o, .inr (0, [.ref o6, .ref fi, .ref nx, .ref en, .int 0])), (o6, .inr (6, [.int 1, .int 0, .int 0, .int 0, .ref a6])), (a6, .inl (cT 0, 25, .inl (fun _ => (-1)))), (fi, .inr (1, [.ref k, .ref pa, .ref la, .ref le, .int 0])), (pa, .inl (cT 0, 800, .inl (upd (fun _ => 0) 0 (-1)))), (la, .inl (cT 0, 800, .inl (upd (fun _ => 0) 0 (-1)))), (le, .inl (cT 0, 800, .inl (fun _ => 0))), (b, .inl (cT 0, 2048, .inl (upd (fun _ => 0) 101 1))), (k, .inr (2, [.ref a, .ref b, .int 1])), (a, .inl (cT 1, 800, .inr (.inl (vp_updL (fun _ => 0) 0 45))))] := hD
    subst h_8
    refine lv_lstore_n (lv' := [(2, .long 45), (1, .int 0), (0, .ref o)]) hx hb dX0_renew_91 rfl hl (by decide) rfl (fun ls hl => ?_)
    refine lv_aload_n hx hb dX0_renew_92 rfl (lv_at hl 2 rfl) ?_
    refine va_get (C := RX0) (T := TX0) (N := 5) (v := .ref en) hx hb hts hi_X0_renew_X0 hown hK hP 2 rfl rfl 3 (by decide) (hts (.fieldLink RX0 24 "BothWays$Beginnings" "ends" "[I") (by decide +kernel)) (fun _ h => h) rfl dX0_renew_93 ?_
    refine lv_iload_n hx hb dX0_renew_96 rfl (lv_at hl 1 rfl) ?_
    refine lv_aload_n hx hb dX0_renew_97 rfl (lv_at hl 2 rfl) ?_
    refine lv_lload_n hx hb dX0_renew_98 rfl (lv_at hl 0 rfl) ?_
    refine cj_i 0 0 (wr := [(nx, .inl (cT 0, 2400, .inl (fun _ => 0))), (en, .inl (cT 0, 800, .inl (fun _ => 0))), (fi, .inr (1, [.ref k, .ref pa, .ref la, .ref le, .int 0])), (pa, .inl (cT 0, 800, .inl (upd (fun _ => 0) 0 (-1)))), (la, .inl (cT 0, 800, .inl (upd (fun _ => 0) 0 (-1)))), (le, .inl (cT 0, 800, .inl (fun _ => 0))), (b, .inl (cT 0, 2048, .inl (upd (fun _ => 0) 101 1))), (k, .inr (2, [.ref a, .ref b, .int 1])), (a, .inl (cT 1, 800, .inr (.inl (vp_updL (fun _ => 0) 0 45))))]) (va_runV (As := [.long 45]) (rest := [.int 0, .ref en]) ⟨hx, hb, hml, hown, hts⟩ (c_B_endOf l g cT H.size o o6 a6 fi nx en) (cwV 1 hts gX0_renew_X0_endOf rfl rfl rfl yd_X0_endOf ⟨(Nat.le_of_ble_eq_true rfl), (Nat.le_of_ble_eq_true rfl)⟩) (preV (wc := [(o, .inr (0, [.ref o6, .ref fi, .ref nx, .ref en, .int 0])), (o6, .inr (6, [.int 1, .int 0, .int 0, .int 0, .ref a6])), (a6, .inl (cT 0, 25, .inl (fun _ => (-1))))]) rfl hP hD hK hN hZ hS hA [2, 3, 4] rfl (by decide) (ci := 0) (q0 := 2) rfl rfl) rfl rfl hl.1 rfl (lv_room (Nat.le_of_ble_eq_true rfl)) dX0_renew_99 ⟨(Nat.le_of_ble_eq_true rfl), (Nat.le_of_ble_eq_true rfl)⟩) hP hD hS hA [2, 3, 4] [0, 1, 5, 6, 7, 8, 9, 10, 11] rfl rfl (by decide) (by decide) (Nat.le_of_ble_eq_true rfl) (Nat.le_of_ble_eq_true rfl) (fun r_9 u H locs h_10 hP hD hS => ?_)
    have hP : va_P g vwCl [(nx, .inl (cT 0, 2400, .inl (fun _ => 0))), (en, .inl (cT 0, 800, .inl (fun _ => 0))), (fi, .inr (1, [.ref k, .ref pa, .ref la, .ref le, .int 0])), (pa, .inl (cT 0, 800, .inl (upd (fun _ => 0) 0 (-1)))), (la, .inl (cT 0, 800, .inl (upd (fun _ => 0) 0 (-1)))), (le, .inl (cT 0, 800, .inl (fun _ => 0))), (b, .inl (cT 0, 2048, .inl (upd (fun _ => 0) 101 1))), (k, .inr (2, [.ref a, .ref b, .int 1])), (a, .inl (cT 1, 800, .inr (.inl (vp_updL (fun _ => 0) 0 45)))), (o, .inr (0, [.ref o6, .ref fi, .ref nx, .ref en, .int 0])), (o6, .inr (6, [.int 1, .int 0, .int 0, .int 0, .ref a6])), (a6, .inl (cT 0, 25, .inl (fun _ => (-1))))] H := hP
    have hD : va_D A [(nx, .inl (cT 0, 2400, .inl (fun _ => 0))), (en, .inl (cT 0, 800, .inl (fun _ => 0))), (fi, .inr (1, [.ref k, .ref pa, .ref la, .ref le, .int 0])), (pa, .inl (cT 0, 800, .inl (upd (fun _ => 0) 0 (-1)))), (la, .inl (cT 0, 800, .inl (upd (fun _ => 0) 0 (-1)))), (le, .inl (cT 0, 800, .inl (fun _ => 0))), (b, .inl (cT 0, 2048, .inl (upd (fun _ => 0) 101 1))), (k, .inr (2, [.ref a, .ref b, .int 1])), (a, .inl (cT 1, 800, .inr (.inl (vp_updL (fun _ => 0) 0 45)))), (o, .inr (0, [.ref o6, .ref fi, .ref nx, .ref en, .int 0])), (o6, .inr (6, [.int 1, .int 0, .int 0, .int 0, .ref a6])), (a6, .inl (cT 0, 25, .inl (fun _ => (-1))))] := hD
    subst h_10
    refine w_iast (f' := (fun _ => 0)) hx hb hK hP hD hS 1 rfl dX0_renew_102 (inC (by decide)) (upd_c _ _) (fun H locs hP hD hS => ?_)
    have hP : va_P g vwCl [(nx, .inl (cT 0, 2400, .inl (fun _ => 0))), (en, .inl (cT 0, 800, .inl (fun _ => 0))), (fi, .inr (1, [.ref k, .ref pa, .ref la, .ref le, .int 0])), (pa, .inl (cT 0, 800, .inl (upd (fun _ => 0) 0 (-1)))), (la, .inl (cT 0, 800, .inl (upd (fun _ => 0) 0 (-1)))), (le, .inl (cT 0, 800, .inl (fun _ => 0))), (b, .inl (cT 0, 2048, .inl (upd (fun _ => 0) 101 1))), (k, .inr (2, [.ref a, .ref b, .int 1])), (a, .inl (cT 1, 800, .inr (.inl (vp_updL (fun _ => 0) 0 45)))), (o, .inr (0, [.ref o6, .ref fi, .ref nx, .ref en, .int 0])), (o6, .inr (6, [.int 1, .int 0, .int 0, .int 0, .ref a6])), (a6, .inl (cT 0, 25, .inl (fun _ => (-1))))] H := hP
    have hD : va_D A [(nx, .inl (cT 0, 2400, .inl (fun _ => 0))), (en, .inl (cT 0, 800, .inl (fun _ => 0))), (fi, .inr (1, [.ref k, .ref pa, .ref la, .ref le, .int 0])), (pa, .inl (cT 0, 800, .inl (upd (fun _ => 0) 0 (-1)))), (la, .inl (cT 0, 800, .inl (upd (fun _ => 0) 0 (-1)))), (le, .inl (cT 0, 800, .inl (fun _ => 0))), (b, .inl (cT 0, 2048, .inl (upd (fun _ => 0) 101 1))), (k, .inr (2, [.ref a, .ref b, .int 1])), (a, .inl (cT 1, 800, .inr (.inl (vp_updL (fun _ => 0) 0 45)))), (o, .inr (0, [.ref o6, .ref fi, .ref nx, .ref en, .int 0])), (o6, .inr (6, [.int 1, .int 0, .int 0, .int 0, .ref a6])), (a6, .inl (cT 0, 25, .inl (fun _ => (-1))))] := hD
    refine lv_iconst (v := 0) hx hb dX0_renew_103 (by decide) ?_
    refine lv_istore (lv' := [(4, .int 0), (2, .long 45), (1, .int 0), (0, .ref o)]) hx hb dX0_renew_104 hl (by decide) rfl (fun ls hl => ?_)
    refine lv_iload hx hb dX0_renew_106 (lv_at hl 0 rfl) ?_
    refine lv_iconst (v := 3) hx hb dX0_renew_108 (by decide) ?_
    refine icmp_ge_f hx hb dX0_renew_109 146 (by decide) (by decide) ?_
    refine lv_aload_n hx hb dX0_renew_112 rfl (lv_at hl 3 rfl) ?_
    refine va_get (C := RX0) (T := TX0) (N := 5) (v := .ref nx) hx hb hts hi_X0_renew_X0 hown hK hP 9 rfl rfl 2 (by decide) (hts (.fieldLink RX0 20 "BothWays$Beginnings" "nexts" "[I") (by decide +kernel)) (fun _ h => h) rfl dX0_renew_113 ?_
    refine lv_iload_n hx hb dX0_renew_116 rfl (lv_at hl 2 rfl) ?_
    refine lv_iconst (v := 3) hx hb dX0_renew_117 (by decide) ?_
    refine w_imul (v := 0) hx hb dX0_renew_118 (by decide) ?_
    refine lv_iload hx hb dX0_renew_119 (lv_at hl 0 rfl) ?_
    refine w_iadd (v := 0) hx hb dX0_renew_121 (by decide) ?_
    refine lv_aload_n hx hb dX0_renew_122 rfl (lv_at hl 3 rfl) ?_
    refine va_get (C := RX0) (T := TX0) (N := 5) (v := .ref fi) hx hb hts hi_X0_renew_X0 hown hK hP 9 rfl rfl 1 (by decide) (hts (.fieldLink RX0 14 "BothWays$Beginnings" "finds" "LBothWays$Finds;") (by decide +kernel)) (fun _ h => h) rfl dX0_renew_123 ?_
    refine lv_aload_n hx hb dX0_renew_126 rfl (lv_at hl 3 rfl) ?_
    refine lv_lload_n hx hb dX0_renew_127 rfl (lv_at hl 1 rfl) ?_
    refine lv_iload hx hb dX0_renew_128 (lv_at hl 0 rfl) ?_
    refine cj_l 0 0 (wr := [(nx, .inl (cT 0, 2400, .inl (fun _ => 0))), (en, .inl (cT 0, 800, .inl (fun _ => 0))), (fi, .inr (1, [.ref k, .ref pa, .ref la, .ref le, .int 0])), (pa, .inl (cT 0, 800, .inl (upd (fun _ => 0) 0 (-1)))), (la, .inl (cT 0, 800, .inl (upd (fun _ => 0) 0 (-1)))), (le, .inl (cT 0, 800, .inl (fun _ => 0))), (b, .inl (cT 0, 2048, .inl (upd (fun _ => 0) 101 1))), (k, .inr (2, [.ref a, .ref b, .int 1])), (a, .inl (cT 1, 800, .inr (.inl (vp_updL (fun _ => 0) 0 45))))]) (va_runV (As := [.long 45, .int 0]) (rest := [.ref fi, .int 0, .ref nx]) ⟨hx, hb, hml, hown, hts⟩ (c_B_longer l g cT H.size o o6 a6 fi nx en 0) (cwV 2 hts gX0_renew_X0_longer rfl rfl rfl yd_X0_longer ⟨(Nat.le_of_ble_eq_true rfl), (Nat.le_of_ble_eq_true rfl)⟩) (preV (wc := [(o, .inr (0, [.ref o6, .ref fi, .ref nx, .ref en, .int 0])), (o6, .inr (6, [.int 1, .int 0, .int 0, .int 0, .ref a6])), (a6, .inl (cT 0, 25, .inl (fun _ => (-1))))]) rfl hP hD hK hN hZ hS hA [9, 10, 11] rfl (by decide) (ci := 0) (q0 := 9) rfl rfl) rfl rfl hl.1 rfl (lv_room (Nat.le_of_ble_eq_true rfl)) dX0_renew_130 ⟨(Nat.le_of_ble_eq_true rfl), (Nat.le_of_ble_eq_true rfl)⟩) hP hD hS hA [9, 10, 11] [0, 1, 2, 3, 4, 5, 6, 7, 8] rfl rfl (by decide) (by decide) (Nat.le_of_ble_eq_true rfl) (Nat.le_of_ble_eq_true rfl) (fun r_11 u H locs h_12 hP hD hS => ?_)
    have hP : va_P g vwCl [(nx, .inl (cT 0, 2400, .inl (fun _ => 0))), (en, .inl (cT 0, 800, .inl (fun _ => 0))), (fi, .inr (1, [.ref k, .ref pa, .ref la, .ref le, .int 0])), (pa, .inl (cT 0, 800, .inl (upd (fun _ => 0) 0 (-1)))), (la, .inl (cT 0, 800, .inl (upd (fun _ => 0) 0 (-1)))), (le, .inl (cT 0, 800, .inl (fun _ => 0))), (b, .inl (cT 0, 2048, .inl (upd (fun _ => 0) 101 1))), (k, .inr (2, [.ref a, .ref b, .int 1])), (a, .inl (cT 1, 800, .inr (.inl (vp_updL (fun _ => 0) 0 45)))), (o, .inr (0, [.ref o6, .ref fi, .ref nx, .ref en, .int 0])), (o6, .inr (6, [.int 1, .int 0, .int 0, .int 0, .ref a6])), (a6, .inl (cT 0, 25, .inl (fun _ => (-1))))] H := hP
    have hD : va_D A [(nx, .inl (cT 0, 2400, .inl (fun _ => 0))), (en, .inl (cT 0, 800, .inl (fun _ => 0))), (fi, .inr (1, [.ref k, .ref pa, .ref la, .ref le, .int 0])), (pa, .inl (cT 0, 800, .inl (upd (fun _ => 0) 0 (-1)))), (la, .inl (cT 0, 800, .inl (upd (fun _ => 0) 0 (-1)))), (le, .inl (cT 0, 800, .inl (fun _ => 0))), (b, .inl (cT 0, 2048, .inl (upd (fun _ => 0) 101 1))), (k, .inr (2, [.ref a, .ref b, .int 1])), (a, .inl (cT 1, 800, .inr (.inl (vp_updL (fun _ => 0) 0 45)))), (o, .inr (0, [.ref o6, .ref fi, .ref nx, .ref en, .int 0])), (o6, .inr (6, [.int 1, .int 0, .int 0, .int 0, .ref a6])), (a6, .inl (cT 0, 25, .inl (fun _ => (-1))))] := hD
    subst h_12
    refine lv_iload_n hx hb dX0_renew_133 rfl (lv_at hl 2 rfl) ?_
    refine lv_iload hx hb dX0_renew_134 (lv_at hl 0 rfl) ?_
    refine cj_i 0 0 (wr := [(nx, .inl (cT 0, 2400, .inl (fun _ => 0))), (en, .inl (cT 0, 800, .inl (fun _ => 0))), (o, .inr (0, [.ref o6, .ref fi, .ref nx, .ref en, .int 0])), (o6, .inr (6, [.int 1, .int 0, .int 0, .int 0, .ref a6])), (a6, .inl (cT 0, 25, .inl (fun _ => (-1))))]) (va_runV (As := [.long 45, .int 0, .int 0]) (rest := [.int 0, .ref nx]) ⟨hx, hb, hml, hown, hts⟩ (c_F_reach_800_45p l g cT H.size fi k a b pa la le 0 0) (cwV 3 hts gX0_renew_X1_reach rfl rfl rfl yd_X1_reach ⟨(Nat.le_of_ble_eq_true rfl), (Nat.le_of_ble_eq_true rfl)⟩) (preV (wc := [(fi, .inr (1, [.ref k, .ref pa, .ref la, .ref le, .int 0])), (pa, .inl (cT 0, 800, .inl (upd (fun _ => 0) 0 (-1)))), (la, .inl (cT 0, 800, .inl (upd (fun _ => 0) 0 (-1)))), (le, .inl (cT 0, 800, .inl (fun _ => 0))), (k, .inr (2, [.ref a, .ref b, .int 1])), (a, .inl (cT 1, 800, .inr (.inl (vp_updL (fun _ => 0) 0 45)))), (b, .inl (cT 0, 2048, .inl (upd (fun _ => 0) 101 1)))]) rfl hP hD hK hN hZ hS hA [2, 3, 4, 5, 7, 8, 6] rfl (by decide) (ci := 1) (q0 := 2) rfl rfl) rfl rfl hl.1 rfl (lv_room (Nat.le_of_ble_eq_true rfl)) dX0_renew_136 ⟨(Nat.le_of_ble_eq_true rfl), (Nat.le_of_ble_eq_true rfl)⟩) hP hD hS hA [2, 3, 4, 5, 7, 8, 6] [0, 1, 9, 10, 11] rfl rfl (by decide) (by decide) (Nat.le_of_ble_eq_true rfl) (Nat.le_of_ble_eq_true rfl) (fun r_13 u H locs h_14 hP hD hS => ?_)
    have hP : va_P g vwCl [(nx, .inl (cT 0, 2400, .inl (fun _ => 0))), (en, .inl (cT 0, 800, .inl (fun _ => 0))), (o, .inr (0, [.ref o6, .ref fi, .ref nx, .ref en, .int 0])), (o6, .inr (6, [.int 1, .int 0, .int 0, .int 0, .ref a6])), (a6, .inl (cT 0, 25, .inl (fun _ => (-1)))), (fi, .inr (1, [.ref k, .ref pa, .ref la, .ref le, .int 0])), (pa, .inl (cT 0, 800, .inl (upd (fun _ => 0) 0 (-1)))), (la, .inl (cT 0, 800, .inl (upd (fun _ => 0) 0 (-1)))), (le, .inl (cT 0, 800, .inl (fun _ => 0))), (k, .inr (2, [.ref a, .ref b, .int 1])), (a, .inl (cT 1, 800, .inr (.inl (vp_updL (fun _ => 0) 0 45)))), (b, .inl (cT 0, 2048, .inl (upd (fun _ => 0) 101 1)))] H := hP
    have hD : va_D A [(nx, .inl (cT 0, 2400, .inl (fun _ => 0))), (en, .inl (cT 0, 800, .inl (fun _ => 0))), (o, .inr (0, [.ref o6, .ref fi, .ref nx, .ref en, .int 0])), (o6, .inr (6, [.int 1, .int 0, .int 0, .int 0, .ref a6])), (a6, .inl (cT 0, 25, .inl (fun _ => (-1)))), (fi, .inr (1, [.ref k, .ref pa, .ref la, .ref le, .int 0])), (pa, .inl (cT 0, 800, .inl (upd (fun _ => 0) 0 (-1)))), (la, .inl (cT 0, 800, .inl (upd (fun _ => 0) 0 (-1)))), (le, .inl (cT 0, 800, .inl (fun _ => 0))), (k, .inr (2, [.ref a, .ref b, .int 1])), (a, .inl (cT 1, 800, .inr (.inl (vp_updL (fun _ => 0) 0 45)))), (b, .inl (cT 0, 2048, .inl (upd (fun _ => 0) 101 1)))] := hD
    subst h_14
    refine w_iast (f' := (fun _ => 0)) hx hb hK hP hD hS 0 rfl dX0_renew_139 (inC (by decide)) (upd_c _ _) (fun H locs hP hD hS => ?_)
    have hP : va_P g vwCl [(nx, .inl (cT 0, 2400, .inl (fun _ => 0))), (en, .inl (cT 0, 800, .inl (fun _ => 0))), (o, .inr (0, [.ref o6, .ref fi, .ref nx, .ref en, .int 0])), (o6, .inr (6, [.int 1, .int 0, .int 0, .int 0, .ref a6])), (a6, .inl (cT 0, 25, .inl (fun _ => (-1)))), (fi, .inr (1, [.ref k, .ref pa, .ref la, .ref le, .int 0])), (pa, .inl (cT 0, 800, .inl (upd (fun _ => 0) 0 (-1)))), (la, .inl (cT 0, 800, .inl (upd (fun _ => 0) 0 (-1)))), (le, .inl (cT 0, 800, .inl (fun _ => 0))), (k, .inr (2, [.ref a, .ref b, .int 1])), (a, .inl (cT 1, 800, .inr (.inl (vp_updL (fun _ => 0) 0 45)))), (b, .inl (cT 0, 2048, .inl (upd (fun _ => 0) 101 1)))] H := hP
    have hD : va_D A [(nx, .inl (cT 0, 2400, .inl (fun _ => 0))), (en, .inl (cT 0, 800, .inl (fun _ => 0))), (o, .inr (0, [.ref o6, .ref fi, .ref nx, .ref en, .int 0])), (o6, .inr (6, [.int 1, .int 0, .int 0, .int 0, .ref a6])), (a6, .inl (cT 0, 25, .inl (fun _ => (-1)))), (fi, .inr (1, [.ref k, .ref pa, .ref la, .ref le, .int 0])), (pa, .inl (cT 0, 800, .inl (upd (fun _ => 0) 0 (-1)))), (la, .inl (cT 0, 800, .inl (upd (fun _ => 0) 0 (-1)))), (le, .inl (cT 0, 800, .inl (fun _ => 0))), (k, .inr (2, [.ref a, .ref b, .int 1])), (a, .inl (cT 1, 800, .inr (.inl (vp_updL (fun _ => 0) 0 45)))), (b, .inl (cT 0, 2048, .inl (upd (fun _ => 0) 101 1)))] := hD
    refine lv_iinc (v := 1) (lv' := [(4, .int 1), (2, .long 45), (1, .int 0), (0, .ref o)]) hx hb dX0_renew_140 hl (k := 0) rfl (by decide) (by decide) rfl (fun ls hl => ?_)
    refine lv_goto (tgt := 106) hx hb dX0_renew_143 (by decide) ?_
    refine lv_iload hx hb dX0_renew_106 (lv_at hl 0 rfl) ?_
    refine lv_iconst (v := 3) hx hb dX0_renew_108 (by decide) ?_
    refine icmp_ge_f hx hb dX0_renew_109 146 (by decide) (by decide) ?_
    refine lv_aload_n hx hb dX0_renew_112 rfl (lv_at hl 3 rfl) ?_
    refine va_get (C := RX0) (T := TX0) (N := 5) (v := .ref nx) hx hb hts hi_X0_renew_X0 hown hK hP 2 rfl rfl 2 (by decide) (hts (.fieldLink RX0 20 "BothWays$Beginnings" "nexts" "[I") (by decide +kernel)) (fun _ h => h) rfl dX0_renew_113 ?_
    refine lv_iload_n hx hb dX0_renew_116 rfl (lv_at hl 2 rfl) ?_
    refine lv_iconst (v := 3) hx hb dX0_renew_117 (by decide) ?_
    refine w_imul (v := 0) hx hb dX0_renew_118 (by decide) ?_
    refine lv_iload hx hb dX0_renew_119 (lv_at hl 0 rfl) ?_
    refine w_iadd (v := 1) hx hb dX0_renew_121 (by decide) ?_
    refine lv_aload_n hx hb dX0_renew_122 rfl (lv_at hl 3 rfl) ?_
    refine va_get (C := RX0) (T := TX0) (N := 5) (v := .ref fi) hx hb hts hi_X0_renew_X0 hown hK hP 2 rfl rfl 1 (by decide) (hts (.fieldLink RX0 14 "BothWays$Beginnings" "finds" "LBothWays$Finds;") (by decide +kernel)) (fun _ h => h) rfl dX0_renew_123 ?_
    refine lv_aload_n hx hb dX0_renew_126 rfl (lv_at hl 3 rfl) ?_
    refine lv_lload_n hx hb dX0_renew_127 rfl (lv_at hl 1 rfl) ?_
    refine lv_iload hx hb dX0_renew_128 (lv_at hl 0 rfl) ?_
    refine cj_l 0 0 (wr := [(nx, .inl (cT 0, 2400, .inl (fun _ => 0))), (en, .inl (cT 0, 800, .inl (fun _ => 0))), (fi, .inr (1, [.ref k, .ref pa, .ref la, .ref le, .int 0])), (pa, .inl (cT 0, 800, .inl (upd (fun _ => 0) 0 (-1)))), (la, .inl (cT 0, 800, .inl (upd (fun _ => 0) 0 (-1)))), (le, .inl (cT 0, 800, .inl (fun _ => 0))), (k, .inr (2, [.ref a, .ref b, .int 1])), (a, .inl (cT 1, 800, .inr (.inl (vp_updL (fun _ => 0) 0 45)))), (b, .inl (cT 0, 2048, .inl (upd (fun _ => 0) 101 1)))]) (va_runV (As := [.long 45, .int 1]) (rest := [.ref fi, .int 1, .ref nx]) ⟨hx, hb, hml, hown, hts⟩ (c_B_longer l g cT H.size o o6 a6 fi nx en 1) (cwV 2 hts gX0_renew_X0_longer rfl rfl rfl yd_X0_longer ⟨(Nat.le_of_ble_eq_true rfl), (Nat.le_of_ble_eq_true rfl)⟩) (preV (wc := [(o, .inr (0, [.ref o6, .ref fi, .ref nx, .ref en, .int 0])), (o6, .inr (6, [.int 1, .int 0, .int 0, .int 0, .ref a6])), (a6, .inl (cT 0, 25, .inl (fun _ => (-1))))]) rfl hP hD hK hN hZ hS hA [2, 3, 4] rfl (by decide) (ci := 0) (q0 := 2) rfl rfl) rfl rfl hl.1 rfl (lv_room (Nat.le_of_ble_eq_true rfl)) dX0_renew_130 ⟨(Nat.le_of_ble_eq_true rfl), (Nat.le_of_ble_eq_true rfl)⟩) hP hD hS hA [2, 3, 4] [0, 1, 5, 6, 7, 8, 9, 10, 11] rfl rfl (by decide) (by decide) (Nat.le_of_ble_eq_true rfl) (Nat.le_of_ble_eq_true rfl) (fun r_15 u H locs h_16 hP hD hS => ?_)
    have hP : va_P g vwCl [(nx, .inl (cT 0, 2400, .inl (fun _ => 0))), (en, .inl (cT 0, 800, .inl (fun _ => 0))), (fi, .inr (1, [.ref k, .ref pa, .ref la, .ref le, .int 0])), (pa, .inl (cT 0, 800, .inl (upd (fun _ => 0) 0 (-1)))), (la, .inl (cT 0, 800, .inl (upd (fun _ => 0) 0 (-1)))), (le, .inl (cT 0, 800, .inl (fun _ => 0))), (k, .inr (2, [.ref a, .ref b, .int 1])), (a, .inl (cT 1, 800, .inr (.inl (vp_updL (fun _ => 0) 0 45)))), (b, .inl (cT 0, 2048, .inl (upd (fun _ => 0) 101 1))), (o, .inr (0, [.ref o6, .ref fi, .ref nx, .ref en, .int 0])), (o6, .inr (6, [.int 1, .int 0, .int 0, .int 0, .ref a6])), (a6, .inl (cT 0, 25, .inl (fun _ => (-1))))] H := hP
    have hD : va_D A [(nx, .inl (cT 0, 2400, .inl (fun _ => 0))), (en, .inl (cT 0, 800, .inl (fun _ => 0))), (fi, .inr (1, [.ref k, .ref pa, .ref la, .ref le, .int 0])), (pa, .inl (cT 0, 800, .inl (upd (fun _ => 0) 0 (-1)))), (la, .inl (cT 0, 800, .inl (upd (fun _ => 0) 0 (-1)))), (le, .inl (cT 0, 800, .inl (fun _ => 0))), (k, .inr (2, [.ref a, .ref b, .int 1])), (a, .inl (cT 1, 800, .inr (.inl (vp_updL (fun _ => 0) 0 45)))), (b, .inl (cT 0, 2048, .inl (upd (fun _ => 0) 101 1))), (o, .inr (0, [.ref o6, .ref fi, .ref nx, .ref en, .int 0])), (o6, .inr (6, [.int 1, .int 0, .int 0, .int 0, .ref a6])), (a6, .inl (cT 0, 25, .inl (fun _ => (-1))))] := hD
    subst h_16
    refine lv_iload_n hx hb dX0_renew_133 rfl (lv_at hl 2 rfl) ?_
    refine lv_iload hx hb dX0_renew_134 (lv_at hl 0 rfl) ?_
    refine cj_i 0 0 (wr := [(nx, .inl (cT 0, 2400, .inl (fun _ => 0))), (en, .inl (cT 0, 800, .inl (fun _ => 0))), (o, .inr (0, [.ref o6, .ref fi, .ref nx, .ref en, .int 0])), (o6, .inr (6, [.int 1, .int 0, .int 0, .int 0, .ref a6])), (a6, .inl (cT 0, 25, .inl (fun _ => (-1))))]) (va_runV (As := [.long 45, .int 0, .int 1]) (rest := [.int 1, .ref nx]) ⟨hx, hb, hml, hown, hts⟩ (c_F_reach_800_45p l g cT H.size fi k a b pa la le 0 1) (cwV 3 hts gX0_renew_X1_reach rfl rfl rfl yd_X1_reach ⟨(Nat.le_of_ble_eq_true rfl), (Nat.le_of_ble_eq_true rfl)⟩) (preV (wc := [(fi, .inr (1, [.ref k, .ref pa, .ref la, .ref le, .int 0])), (pa, .inl (cT 0, 800, .inl (upd (fun _ => 0) 0 (-1)))), (la, .inl (cT 0, 800, .inl (upd (fun _ => 0) 0 (-1)))), (le, .inl (cT 0, 800, .inl (fun _ => 0))), (k, .inr (2, [.ref a, .ref b, .int 1])), (a, .inl (cT 1, 800, .inr (.inl (vp_updL (fun _ => 0) 0 45)))), (b, .inl (cT 0, 2048, .inl (upd (fun _ => 0) 101 1)))]) rfl hP hD hK hN hZ hS hA [2, 3, 4, 5, 6, 7, 8] rfl (by decide) (ci := 1) (q0 := 2) rfl rfl) rfl rfl hl.1 rfl (lv_room (Nat.le_of_ble_eq_true rfl)) dX0_renew_136 ⟨(Nat.le_of_ble_eq_true rfl), (Nat.le_of_ble_eq_true rfl)⟩) hP hD hS hA [2, 3, 4, 5, 6, 7, 8] [0, 1, 9, 10, 11] rfl rfl (by decide) (by decide) (Nat.le_of_ble_eq_true rfl) (Nat.le_of_ble_eq_true rfl) (fun r_17 u H locs h_18 hP hD hS => ?_)
    have hP : va_P g vwCl [(nx, .inl (cT 0, 2400, .inl (fun _ => 0))), (en, .inl (cT 0, 800, .inl (fun _ => 0))), (o, .inr (0, [.ref o6, .ref fi, .ref nx, .ref en, .int 0])), (o6, .inr (6, [.int 1, .int 0, .int 0, .int 0, .ref a6])), (a6, .inl (cT 0, 25, .inl (fun _ => (-1)))), (fi, .inr (1, [.ref k, .ref pa, .ref la, .ref le, .int 0])), (pa, .inl (cT 0, 800, .inl (upd (fun _ => 0) 0 (-1)))), (la, .inl (cT 0, 800, .inl (upd (fun _ => 0) 0 (-1)))), (le, .inl (cT 0, 800, .inl (fun _ => 0))), (k, .inr (2, [.ref a, .ref b, .int 1])), (a, .inl (cT 1, 800, .inr (.inl (vp_updL (fun _ => 0) 0 45)))), (b, .inl (cT 0, 2048, .inl (upd (fun _ => 0) 101 1)))] H := hP
    have hD : va_D A [(nx, .inl (cT 0, 2400, .inl (fun _ => 0))), (en, .inl (cT 0, 800, .inl (fun _ => 0))), (o, .inr (0, [.ref o6, .ref fi, .ref nx, .ref en, .int 0])), (o6, .inr (6, [.int 1, .int 0, .int 0, .int 0, .ref a6])), (a6, .inl (cT 0, 25, .inl (fun _ => (-1)))), (fi, .inr (1, [.ref k, .ref pa, .ref la, .ref le, .int 0])), (pa, .inl (cT 0, 800, .inl (upd (fun _ => 0) 0 (-1)))), (la, .inl (cT 0, 800, .inl (upd (fun _ => 0) 0 (-1)))), (le, .inl (cT 0, 800, .inl (fun _ => 0))), (k, .inr (2, [.ref a, .ref b, .int 1])), (a, .inl (cT 1, 800, .inr (.inl (vp_updL (fun _ => 0) 0 45)))), (b, .inl (cT 0, 2048, .inl (upd (fun _ => 0) 101 1)))] := hD
    subst h_18
    refine w_iast (f' := (fun _ => 0)) hx hb hK hP hD hS 0 rfl dX0_renew_139 (inC (by decide)) (upd_c _ _) (fun H locs hP hD hS => ?_)
    have hP : va_P g vwCl [(nx, .inl (cT 0, 2400, .inl (fun _ => 0))), (en, .inl (cT 0, 800, .inl (fun _ => 0))), (o, .inr (0, [.ref o6, .ref fi, .ref nx, .ref en, .int 0])), (o6, .inr (6, [.int 1, .int 0, .int 0, .int 0, .ref a6])), (a6, .inl (cT 0, 25, .inl (fun _ => (-1)))), (fi, .inr (1, [.ref k, .ref pa, .ref la, .ref le, .int 0])), (pa, .inl (cT 0, 800, .inl (upd (fun _ => 0) 0 (-1)))), (la, .inl (cT 0, 800, .inl (upd (fun _ => 0) 0 (-1)))), (le, .inl (cT 0, 800, .inl (fun _ => 0))), (k, .inr (2, [.ref a, .ref b, .int 1])), (a, .inl (cT 1, 800, .inr (.inl (vp_updL (fun _ => 0) 0 45)))), (b, .inl (cT 0, 2048, .inl (upd (fun _ => 0) 101 1)))] H := hP
    have hD : va_D A [(nx, .inl (cT 0, 2400, .inl (fun _ => 0))), (en, .inl (cT 0, 800, .inl (fun _ => 0))), (o, .inr (0, [.ref o6, .ref fi, .ref nx, .ref en, .int 0])), (o6, .inr (6, [.int 1, .int 0, .int 0, .int 0, .ref a6])), (a6, .inl (cT 0, 25, .inl (fun _ => (-1)))), (fi, .inr (1, [.ref k, .ref pa, .ref la, .ref le, .int 0])), (pa, .inl (cT 0, 800, .inl (upd (fun _ => 0) 0 (-1)))), (la, .inl (cT 0, 800, .inl (upd (fun _ => 0) 0 (-1)))), (le, .inl (cT 0, 800, .inl (fun _ => 0))), (k, .inr (2, [.ref a, .ref b, .int 1])), (a, .inl (cT 1, 800, .inr (.inl (vp_updL (fun _ => 0) 0 45)))), (b, .inl (cT 0, 2048, .inl (upd (fun _ => 0) 101 1)))] := hD
    refine lv_iinc (v := 2) (lv' := [(4, .int 2), (2, .long 45), (1, .int 0), (0, .ref o)]) hx hb dX0_renew_140 hl (k := 0) rfl (by decide) (by decide) rfl (fun ls hl => ?_)
    refine lv_goto (tgt := 106) hx hb dX0_renew_143 (by decide) ?_
    refine lv_iload hx hb dX0_renew_106 (lv_at hl 0 rfl) ?_
    refine lv_iconst (v := 3) hx hb dX0_renew_108 (by decide) ?_
    refine icmp_ge_f hx hb dX0_renew_109 146 (by decide) (by decide) ?_
    refine lv_aload_n hx hb dX0_renew_112 rfl (lv_at hl 3 rfl) ?_
    refine va_get (C := RX0) (T := TX0) (N := 5) (v := .ref nx) hx hb hts hi_X0_renew_X0 hown hK hP 2 rfl rfl 2 (by decide) (hts (.fieldLink RX0 20 "BothWays$Beginnings" "nexts" "[I") (by decide +kernel)) (fun _ h => h) rfl dX0_renew_113 ?_
    refine lv_iload_n hx hb dX0_renew_116 rfl (lv_at hl 2 rfl) ?_
    refine lv_iconst (v := 3) hx hb dX0_renew_117 (by decide) ?_
    refine w_imul (v := 0) hx hb dX0_renew_118 (by decide) ?_
    refine lv_iload hx hb dX0_renew_119 (lv_at hl 0 rfl) ?_
    refine w_iadd (v := 2) hx hb dX0_renew_121 (by decide) ?_
    refine lv_aload_n hx hb dX0_renew_122 rfl (lv_at hl 3 rfl) ?_
    refine va_get (C := RX0) (T := TX0) (N := 5) (v := .ref fi) hx hb hts hi_X0_renew_X0 hown hK hP 2 rfl rfl 1 (by decide) (hts (.fieldLink RX0 14 "BothWays$Beginnings" "finds" "LBothWays$Finds;") (by decide +kernel)) (fun _ h => h) rfl dX0_renew_123 ?_
    refine lv_aload_n hx hb dX0_renew_126 rfl (lv_at hl 3 rfl) ?_
    refine lv_lload_n hx hb dX0_renew_127 rfl (lv_at hl 1 rfl) ?_
    refine lv_iload hx hb dX0_renew_128 (lv_at hl 0 rfl) ?_
    refine cj_l 0 0 (wr := [(nx, .inl (cT 0, 2400, .inl (fun _ => 0))), (en, .inl (cT 0, 800, .inl (fun _ => 0))), (fi, .inr (1, [.ref k, .ref pa, .ref la, .ref le, .int 0])), (pa, .inl (cT 0, 800, .inl (upd (fun _ => 0) 0 (-1)))), (la, .inl (cT 0, 800, .inl (upd (fun _ => 0) 0 (-1)))), (le, .inl (cT 0, 800, .inl (fun _ => 0))), (k, .inr (2, [.ref a, .ref b, .int 1])), (a, .inl (cT 1, 800, .inr (.inl (vp_updL (fun _ => 0) 0 45)))), (b, .inl (cT 0, 2048, .inl (upd (fun _ => 0) 101 1)))]) (va_runV (As := [.long 45, .int 2]) (rest := [.ref fi, .int 2, .ref nx]) ⟨hx, hb, hml, hown, hts⟩ (c_B_longer l g cT H.size o o6 a6 fi nx en 2) (cwV 2 hts gX0_renew_X0_longer rfl rfl rfl yd_X0_longer ⟨(Nat.le_of_ble_eq_true rfl), (Nat.le_of_ble_eq_true rfl)⟩) (preV (wc := [(o, .inr (0, [.ref o6, .ref fi, .ref nx, .ref en, .int 0])), (o6, .inr (6, [.int 1, .int 0, .int 0, .int 0, .ref a6])), (a6, .inl (cT 0, 25, .inl (fun _ => (-1))))]) rfl hP hD hK hN hZ hS hA [2, 3, 4] rfl (by decide) (ci := 0) (q0 := 2) rfl rfl) rfl rfl hl.1 rfl (lv_room (Nat.le_of_ble_eq_true rfl)) dX0_renew_130 ⟨(Nat.le_of_ble_eq_true rfl), (Nat.le_of_ble_eq_true rfl)⟩) hP hD hS hA [2, 3, 4] [0, 1, 5, 6, 7, 8, 9, 10, 11] rfl rfl (by decide) (by decide) (Nat.le_of_ble_eq_true rfl) (Nat.le_of_ble_eq_true rfl) (fun r_19 u H locs h_20 hP hD hS => ?_)
    have hP : va_P g vwCl [(nx, .inl (cT 0, 2400, .inl (fun _ => 0))), (en, .inl (cT 0, 800, .inl (fun _ => 0))), (fi, .inr (1, [.ref k, .ref pa, .ref la, .ref le, .int 0])), (pa, .inl (cT 0, 800, .inl (upd (fun _ => 0) 0 (-1)))), (la, .inl (cT 0, 800, .inl (upd (fun _ => 0) 0 (-1)))), (le, .inl (cT 0, 800, .inl (fun _ => 0))), (k, .inr (2, [.ref a, .ref b, .int 1])), (a, .inl (cT 1, 800, .inr (.inl (vp_updL (fun _ => 0) 0 45)))), (b, .inl (cT 0, 2048, .inl (upd (fun _ => 0) 101 1))), (o, .inr (0, [.ref o6, .ref fi, .ref nx, .ref en, .int 0])), (o6, .inr (6, [.int 1, .int 0, .int 0, .int 0, .ref a6])), (a6, .inl (cT 0, 25, .inl (fun _ => (-1))))] H := hP
    have hD : va_D A [(nx, .inl (cT 0, 2400, .inl (fun _ => 0))), (en, .inl (cT 0, 800, .inl (fun _ => 0))), (fi, .inr (1, [.ref k, .ref pa, .ref la, .ref le, .int 0])), (pa, .inl (cT 0, 800, .inl (upd (fun _ => 0) 0 (-1)))), (la, .inl (cT 0, 800, .inl (upd (fun _ => 0) 0 (-1)))), (le, .inl (cT 0, 800, .inl (fun _ => 0))), (k, .inr (2, [.ref a, .ref b, .int 1])), (a, .inl (cT 1, 800, .inr (.inl (vp_updL (fun _ => 0) 0 45)))), (b, .inl (cT 0, 2048, .inl (upd (fun _ => 0) 101 1))), (o, .inr (0, [.ref o6, .ref fi, .ref nx, .ref en, .int 0])), (o6, .inr (6, [.int 1, .int 0, .int 0, .int 0, .ref a6])), (a6, .inl (cT 0, 25, .inl (fun _ => (-1))))] := hD
    subst h_20
    refine lv_iload_n hx hb dX0_renew_133 rfl (lv_at hl 2 rfl) ?_
    refine lv_iload hx hb dX0_renew_134 (lv_at hl 0 rfl) ?_
    refine cj_i 0 0 (wr := [(nx, .inl (cT 0, 2400, .inl (fun _ => 0))), (en, .inl (cT 0, 800, .inl (fun _ => 0))), (o, .inr (0, [.ref o6, .ref fi, .ref nx, .ref en, .int 0])), (o6, .inr (6, [.int 1, .int 0, .int 0, .int 0, .ref a6])), (a6, .inl (cT 0, 25, .inl (fun _ => (-1))))]) (va_runV (As := [.long 45, .int 0, .int 2]) (rest := [.int 2, .ref nx]) ⟨hx, hb, hml, hown, hts⟩ (c_F_reach_800_45p l g cT H.size fi k a b pa la le 0 2) (cwV 3 hts gX0_renew_X1_reach rfl rfl rfl yd_X1_reach ⟨(Nat.le_of_ble_eq_true rfl), (Nat.le_of_ble_eq_true rfl)⟩) (preV (wc := [(fi, .inr (1, [.ref k, .ref pa, .ref la, .ref le, .int 0])), (pa, .inl (cT 0, 800, .inl (upd (fun _ => 0) 0 (-1)))), (la, .inl (cT 0, 800, .inl (upd (fun _ => 0) 0 (-1)))), (le, .inl (cT 0, 800, .inl (fun _ => 0))), (k, .inr (2, [.ref a, .ref b, .int 1])), (a, .inl (cT 1, 800, .inr (.inl (vp_updL (fun _ => 0) 0 45)))), (b, .inl (cT 0, 2048, .inl (upd (fun _ => 0) 101 1)))]) rfl hP hD hK hN hZ hS hA [2, 3, 4, 5, 6, 7, 8] rfl (by decide) (ci := 1) (q0 := 2) rfl rfl) rfl rfl hl.1 rfl (lv_room (Nat.le_of_ble_eq_true rfl)) dX0_renew_136 ⟨(Nat.le_of_ble_eq_true rfl), (Nat.le_of_ble_eq_true rfl)⟩) hP hD hS hA [2, 3, 4, 5, 6, 7, 8] [0, 1, 9, 10, 11] rfl rfl (by decide) (by decide) (Nat.le_of_ble_eq_true rfl) (Nat.le_of_ble_eq_true rfl) (fun r_21 u H locs h_22 hP hD hS => ?_)
    have hP : va_P g vwCl [(nx, .inl (cT 0, 2400, .inl (fun _ => 0))), (en, .inl (cT 0, 800, .inl (fun _ => 0))), (o, .inr (0, [.ref o6, .ref fi, .ref nx, .ref en, .int 0])), (o6, .inr (6, [.int 1, .int 0, .int 0, .int 0, .ref a6])), (a6, .inl (cT 0, 25, .inl (fun _ => (-1)))), (fi, .inr (1, [.ref k, .ref pa, .ref la, .ref le, .int 0])), (pa, .inl (cT 0, 800, .inl (upd (fun _ => 0) 0 (-1)))), (la, .inl (cT 0, 800, .inl (upd (fun _ => 0) 0 (-1)))), (le, .inl (cT 0, 800, .inl (fun _ => 0))), (k, .inr (2, [.ref a, .ref b, .int 1])), (a, .inl (cT 1, 800, .inr (.inl (vp_updL (fun _ => 0) 0 45)))), (b, .inl (cT 0, 2048, .inl (upd (fun _ => 0) 101 1)))] H := hP
    have hD : va_D A [(nx, .inl (cT 0, 2400, .inl (fun _ => 0))), (en, .inl (cT 0, 800, .inl (fun _ => 0))), (o, .inr (0, [.ref o6, .ref fi, .ref nx, .ref en, .int 0])), (o6, .inr (6, [.int 1, .int 0, .int 0, .int 0, .ref a6])), (a6, .inl (cT 0, 25, .inl (fun _ => (-1)))), (fi, .inr (1, [.ref k, .ref pa, .ref la, .ref le, .int 0])), (pa, .inl (cT 0, 800, .inl (upd (fun _ => 0) 0 (-1)))), (la, .inl (cT 0, 800, .inl (upd (fun _ => 0) 0 (-1)))), (le, .inl (cT 0, 800, .inl (fun _ => 0))), (k, .inr (2, [.ref a, .ref b, .int 1])), (a, .inl (cT 1, 800, .inr (.inl (vp_updL (fun _ => 0) 0 45)))), (b, .inl (cT 0, 2048, .inl (upd (fun _ => 0) 101 1)))] := hD
    subst h_22
    refine w_iast (f' := (fun _ => 0)) hx hb hK hP hD hS 0 rfl dX0_renew_139 (inC (by decide)) (upd_c _ _) (fun H locs hP hD hS => ?_)
    have hP : va_P g vwCl [(nx, .inl (cT 0, 2400, .inl (fun _ => 0))), (en, .inl (cT 0, 800, .inl (fun _ => 0))), (o, .inr (0, [.ref o6, .ref fi, .ref nx, .ref en, .int 0])), (o6, .inr (6, [.int 1, .int 0, .int 0, .int 0, .ref a6])), (a6, .inl (cT 0, 25, .inl (fun _ => (-1)))), (fi, .inr (1, [.ref k, .ref pa, .ref la, .ref le, .int 0])), (pa, .inl (cT 0, 800, .inl (upd (fun _ => 0) 0 (-1)))), (la, .inl (cT 0, 800, .inl (upd (fun _ => 0) 0 (-1)))), (le, .inl (cT 0, 800, .inl (fun _ => 0))), (k, .inr (2, [.ref a, .ref b, .int 1])), (a, .inl (cT 1, 800, .inr (.inl (vp_updL (fun _ => 0) 0 45)))), (b, .inl (cT 0, 2048, .inl (upd (fun _ => 0) 101 1)))] H := hP
    have hD : va_D A [(nx, .inl (cT 0, 2400, .inl (fun _ => 0))), (en, .inl (cT 0, 800, .inl (fun _ => 0))), (o, .inr (0, [.ref o6, .ref fi, .ref nx, .ref en, .int 0])), (o6, .inr (6, [.int 1, .int 0, .int 0, .int 0, .ref a6])), (a6, .inl (cT 0, 25, .inl (fun _ => (-1)))), (fi, .inr (1, [.ref k, .ref pa, .ref la, .ref le, .int 0])), (pa, .inl (cT 0, 800, .inl (upd (fun _ => 0) 0 (-1)))), (la, .inl (cT 0, 800, .inl (upd (fun _ => 0) 0 (-1)))), (le, .inl (cT 0, 800, .inl (fun _ => 0))), (k, .inr (2, [.ref a, .ref b, .int 1])), (a, .inl (cT 1, 800, .inr (.inl (vp_updL (fun _ => 0) 0 45)))), (b, .inl (cT 0, 2048, .inl (upd (fun _ => 0) 101 1)))] := hD
    refine lv_iinc (v := 3) (lv' := [(4, .int 3), (2, .long 45), (1, .int 0), (0, .ref o)]) hx hb dX0_renew_140 hl (k := 0) rfl (by decide) (by decide) rfl (fun ls hl => ?_)
    refine lv_goto (tgt := 106) hx hb dX0_renew_143 (by decide) ?_
    refine lv_iload hx hb dX0_renew_106 (lv_at hl 0 rfl) ?_
    refine lv_iconst (v := 3) hx hb dX0_renew_108 (by decide) ?_
    refine icmp_ge_t hx hb 146 dX0_renew_109 (by decide) (by decide) ?_
    refine lv_iinc (v := 1) (lv' := [(1, .int 1), (4, .int 3), (2, .long 45), (0, .ref o)]) hx hb dX0_renew_146 hl (k := 2) rfl (by decide) (by decide) rfl (fun ls hl => ?_)
    refine lv_goto (tgt := 49) hx hb dX0_renew_149 (by decide) ?_
    refine lv_iload_n hx hb dX0_renew_49 rfl (lv_at hl 0 rfl) ?_
    refine lv_sipush (v := 800) hx hb dX0_renew_50 (by decide) ?_
    refine icmp_ge_f hx hb dX0_renew_53 152 (by decide) (by decide) ?_
    refine lv_iload_n hx hb dX0_renew_56 rfl (lv_at hl 0 rfl) ?_
    refine lv_aload_n hx hb dX0_renew_57 rfl (lv_at hl 3 rfl) ?_
    refine va_get (C := RX0) (T := TX0) (N := 5) (v := .ref fi) hx hb hts hi_X0_renew_X0 hown hK hP 2 rfl rfl 1 (by decide) (hts (.fieldLink RX0 14 "BothWays$Beginnings" "finds" "LBothWays$Finds;") (by decide +kernel)) (fun _ h => h) rfl dX0_renew_58 ?_
    refine va_getN (C := RX1) (T := TX1) (N := 5) (v := .ref k) hx hb hts hi_X0_renew_X1 hown hK hP 5 rfl rfl 0 (by decide) (nf_23 hN) (fun _ h => h) rfl dX0_renew_61 ?_
    refine va_getN (C := RX2) (T := TX2) (N := 3) (v := .int 1) hx hb hts hi_X0_renew_X2 hown hK hP 9 rfl rfl 2 (by decide) (nf_17 hN) (fun _ h => h) rfl dX0_renew_64 ?_
    refine icmp_ge_t hx hb 152 dX0_renew_67 (by decide) (by decide) ?_
    exact rt_v hx hb hr hlocks hQ hP hD hS () [2, 0, 1, 5, 9, 3, 4] dX0_renew_152 (Nat.le_of_ble_eq_true rfl) (Nat.le_of_ble_eq_true rfl) rfl (by decide) trivial
  rw [hH, hlo] at hgo
  exact hgo
theorem hi_X0_takes_X0 : ∀ w ∈ wsX00, w ∈ wsX0_takes := fun _ h => List.mem_cons_of_mem _ (List.mem_append_right _ h)
abbrev rm_c_B_takes : Room := { frames := 0, cells := 0, slots := 0, locals := 0 }
set_option maxHeartbeats 4000000 in
set_option maxRecDepth 100000 in
theorem c_B_takes (l : Launch) (g : va_G) (cT : Nat → ClassId) (sz : Nat) (o : Nat) (o6 : Nat) (fi : Nat) (nx : Nat) (en : Nat)  : Ctr l g cT sz yX0_takes wsX0_takes rm_c_B_takes [.ref o, .int 0] [(o, .inr (0, [.ref o6, .ref fi, .ref nx, .ref en, .int 0])), (en, .inl (cT 0, 800, .inl (fun _ => 0)))] (QI g (fun (r : Int32) (u : Unit) => r = 0) (fun (u : Unit) => [(o, .inr (0, [.ref o6, .ref fi, .ref nx, .ref en, .int 0])), (en, .inl (cT 0, 800, .inl (fun _ => 0)))])) 0 0 := by
  refine mk_ctr (cc := cX0_takes) (maxL := 2) (ret := (some .boolean)) (by decide) rfl (Nat.le_of_ble_eq_true rfl) ?_
  intro p e s m args below meth c A Q hx hb hr hts hown hlocks hin hml hP hK hD hN hZ hA hS hQ ls hl
  have hl : lv_has ls 2 [(0, .ref o), (1, .int 0)] := hl
  obtain ⟨H, hH⟩ : ∃ H : Heap, H = s.heap := ⟨_, rfl⟩
  obtain ⟨locs, hlo⟩ : ∃ x : List Loc, x = [] := ⟨_, rfl⟩
  rw [← hH] at hP
  have hS : va_S A s.heap H locs := by rw [hH, hlo]; exact hS
  have hgo : W p l e rm_c_B_takes s m args below meth c H locs 0 0 Q (F0 m 0 ls []) := by
    clear hH hlo
    refine lv_iload_n hx hb dX0_takes_0 rfl (lv_at hl 1 rfl) ?_
    refine if_lt_f hx hb dX0_takes_1 25 (by decide) (by decide) ?_
    refine lv_iload_n hx hb dX0_takes_4 rfl (lv_at hl 1 rfl) ?_
    refine lv_sipush (v := 800) hx hb dX0_takes_5 (by decide) ?_
    refine icmp_ge_f hx hb dX0_takes_8 25 (by decide) (by decide) ?_
    refine lv_aload_n hx hb dX0_takes_11 rfl (lv_at hl 0 rfl) ?_
    refine va_get (C := RX0) (T := TX0) (N := 5) (v := .ref en) hx hb hts hi_X0_takes_X0 hown hK hP 0 rfl rfl 3 (by decide) (hts (.fieldLink RX0 24 "BothWays$Beginnings" "ends" "[I") (by decide +kernel)) (fun _ h => h) rfl dX0_takes_12 ?_
    refine lv_iload_n hx hb dX0_takes_15 rfl (lv_at hl 1 rfl) ?_
    refine w_iald (v := 0) hx hb hK hP 1 rfl dX0_takes_16 (inC (by decide)) rfl ?_
    refine lv_iconst (v := 1) hx hb dX0_takes_17 (by decide) ?_
    refine icmp_ne_t hx hb 25 dX0_takes_18 (by decide) (by decide) ?_
    refine lv_iconst (v := 0) hx hb dX0_takes_25 (by decide) ?_
    exact rt_i hx hb hr hlocks hQ hP hD hS () [0, 1] dX0_takes_26 rfl (Nat.le_of_ble_eq_true rfl) (Nat.le_of_ble_eq_true rfl) rfl (by decide) rfl
  rw [hH, hlo] at hgo
  exact hgo
theorem hi_X0_next_X0 : ∀ w ∈ wsX00, w ∈ wsX0_next := fun _ h => List.mem_cons_of_mem _ (List.mem_append_right _ h)
abbrev rm_c_B_next_0 : Room := { frames := 1, cells := 0, slots := 0, locals := 21 }
set_option maxHeartbeats 4000000 in
set_option maxRecDepth 100000 in
theorem c_B_next_0 (l : Launch) (g : va_G) (cT : Nat → ClassId) (sz : Nat) (o : Nat) (o6 : Nat) (fi : Nat) (nx : Nat) (en : Nat)  : Ctr l g cT sz yX0_next wsX0_next rm_c_B_next_0 [.ref o, .int 0, .int 0] [(o, .inr (0, [.ref o6, .ref fi, .ref nx, .ref en, .int 0])), (nx, .inl (cT 0, 2400, .inl (fun _ => 0)))] (QI g (fun (r : Int32) (u : Unit) => r = 0) (fun (u : Unit) => [(o, .inr (0, [.ref o6, .ref fi, .ref nx, .ref en, .int 0])), (nx, .inl (cT 0, 2400, .inl (fun _ => 0)))])) 0 0 := by
  refine mk_ctr (cc := cX0_next) (maxL := 4) (ret := (some .int)) (by decide) rfl (Nat.le_of_ble_eq_true rfl) ?_
  intro p e s m args below meth c A Q hx hb hr hts hown hlocks hin hml hP hK hD hN hZ hA hS hQ ls hl
  have hl : lv_has ls 4 [(0, .ref o), (1, .int 0), (2, .int 0)] := hl
  obtain ⟨H, hH⟩ : ∃ H : Heap, H = s.heap := ⟨_, rfl⟩
  obtain ⟨locs, hlo⟩ : ∃ x : List Loc, x = [] := ⟨_, rfl⟩
  rw [← hH] at hP
  have hS : va_S A s.heap H locs := by rw [hH, hlo]; exact hS
  have hgo : W p l e rm_c_B_next_0 s m args below meth c H locs 0 0 Q (F0 m 0 ls []) := by
    clear hH hlo
    refine lv_iload_n hx hb dX0_next_0 rfl (lv_at hl 1 rfl) ?_
    refine if_lt_f hx hb dX0_next_1 24 (by decide) (by decide) ?_
    refine lv_iload_n hx hb dX0_next_4 rfl (lv_at hl 1 rfl) ?_
    refine lv_sipush (v := 800) hx hb dX0_next_5 (by decide) ?_
    refine icmp_ge_f hx hb dX0_next_8 24 (by decide) (by decide) ?_
    refine lv_iload_n hx hb dX0_next_11 rfl (lv_at hl 2 rfl) ?_
    refine if_lt_f hx hb dX0_next_12 24 (by decide) (by decide) ?_
    refine lv_iload_n hx hb dX0_next_15 rfl (lv_at hl 2 rfl) ?_
    refine lv_iconst (v := 3) hx hb dX0_next_16 (by decide) ?_
    refine icmp_ge_f hx hb dX0_next_17 24 (by decide) (by decide) ?_
    refine lv_iconst (v := 1) hx hb dX0_next_20 (by decide) ?_
    refine lv_goto (tgt := 25) hx hb dX0_next_21 (by decide) ?_
    refine lv_istore_n (lv' := [(3, .int 1), (0, .ref o), (1, .int 0), (2, .int 0)]) hx hb dX0_next_25 rfl hl (by decide) rfl (fun ls hl => ?_)
    refine lv_iload_n hx hb dX0_next_26 rfl (lv_at hl 0 rfl) ?_
    refine if_eq_f hx hb dX0_next_27 47 (by decide) (by decide) ?_
    refine lv_iconst (v := 0) hx hb dX0_next_30 (by decide) ?_
    refine lv_aload_n hx hb dX0_next_31 rfl (lv_at hl 1 rfl) ?_
    refine va_get (C := RX0) (T := TX0) (N := 5) (v := .ref nx) hx hb hts hi_X0_next_X0 hown hK hP 0 rfl rfl 2 (by decide) (hts (.fieldLink RX0 20 "BothWays$Beginnings" "nexts" "[I") (by decide +kernel)) (fun _ h => h) rfl dX0_next_32 ?_
    refine lv_iload_n hx hb dX0_next_35 rfl (lv_at hl 2 rfl) ?_
    refine lv_iconst (v := 3) hx hb dX0_next_36 (by decide) ?_
    refine w_imul (v := 0) hx hb dX0_next_37 (by decide) ?_
    refine lv_iload_n hx hb dX0_next_38 rfl (lv_at hl 3 rfl) ?_
    refine w_iadd (v := 0) hx hb dX0_next_39 (by decide) ?_
    refine w_iald (v := 0) hx hb hK hP 1 rfl dX0_next_40 (inC (by decide)) rfl ?_
    refine va_mmax hx hb (hml.trans hl.1.symm) hown (hts (.methodLink RX0 74 Lib.Math.max.name) (by decide +kernel)) (hts (.static Lib.Math.max.name) (by decide +kernel)) (hts (.initialized "java/lang/Math") (by decide +kernel)) (hts (.code Lib.Math.max.name Lib.Math.max.code 2 (some .int)) (by decide +kernel)) (Nat.le_of_ble_eq_true rfl) (Nat.le_of_ble_eq_true rfl) (Nat.le_of_ble_eq_true rfl) (Nat.le_of_ble_eq_true rfl) dX0_next_41 ?_
    refine tI 0 (by decide) ?_
    refine lv_goto (tgt := 48) hx hb dX0_next_44 (by decide) ?_
    exact rt_i hx hb hr hlocks hQ hP hD hS () [0, 1] dX0_next_48 rfl (Nat.le_of_ble_eq_true rfl) (Nat.le_of_ble_eq_true rfl) rfl (by decide) rfl
  rw [hH, hlo] at hgo
  exact hgo
abbrev rm_c_B_next_1 : Room := { frames := 1, cells := 0, slots := 0, locals := 21 }
set_option maxHeartbeats 4000000 in
set_option maxRecDepth 100000 in
theorem c_B_next_1 (l : Launch) (g : va_G) (cT : Nat → ClassId) (sz : Nat) (o : Nat) (o6 : Nat) (fi : Nat) (nx : Nat) (en : Nat)  : Ctr l g cT sz yX0_next wsX0_next rm_c_B_next_1 [.ref o, .int 0, .int 1] [(o, .inr (0, [.ref o6, .ref fi, .ref nx, .ref en, .int 0])), (nx, .inl (cT 0, 2400, .inl (fun _ => 0)))] (QI g (fun (r : Int32) (u : Unit) => r = 0) (fun (u : Unit) => [(o, .inr (0, [.ref o6, .ref fi, .ref nx, .ref en, .int 0])), (nx, .inl (cT 0, 2400, .inl (fun _ => 0)))])) 0 0 := by
  refine mk_ctr (cc := cX0_next) (maxL := 4) (ret := (some .int)) (by decide) rfl (Nat.le_of_ble_eq_true rfl) ?_
  intro p e s m args below meth c A Q hx hb hr hts hown hlocks hin hml hP hK hD hN hZ hA hS hQ ls hl
  have hl : lv_has ls 4 [(0, .ref o), (1, .int 0), (2, .int 1)] := hl
  obtain ⟨H, hH⟩ : ∃ H : Heap, H = s.heap := ⟨_, rfl⟩
  obtain ⟨locs, hlo⟩ : ∃ x : List Loc, x = [] := ⟨_, rfl⟩
  rw [← hH] at hP
  have hS : va_S A s.heap H locs := by rw [hH, hlo]; exact hS
  have hgo : W p l e rm_c_B_next_1 s m args below meth c H locs 0 0 Q (F0 m 0 ls []) := by
    clear hH hlo
    refine lv_iload_n hx hb dX0_next_0 rfl (lv_at hl 1 rfl) ?_
    refine if_lt_f hx hb dX0_next_1 24 (by decide) (by decide) ?_
    refine lv_iload_n hx hb dX0_next_4 rfl (lv_at hl 1 rfl) ?_
    refine lv_sipush (v := 800) hx hb dX0_next_5 (by decide) ?_
    refine icmp_ge_f hx hb dX0_next_8 24 (by decide) (by decide) ?_
    refine lv_iload_n hx hb dX0_next_11 rfl (lv_at hl 2 rfl) ?_
    refine if_lt_f hx hb dX0_next_12 24 (by decide) (by decide) ?_
    refine lv_iload_n hx hb dX0_next_15 rfl (lv_at hl 2 rfl) ?_
    refine lv_iconst (v := 3) hx hb dX0_next_16 (by decide) ?_
    refine icmp_ge_f hx hb dX0_next_17 24 (by decide) (by decide) ?_
    refine lv_iconst (v := 1) hx hb dX0_next_20 (by decide) ?_
    refine lv_goto (tgt := 25) hx hb dX0_next_21 (by decide) ?_
    refine lv_istore_n (lv' := [(3, .int 1), (0, .ref o), (1, .int 0), (2, .int 1)]) hx hb dX0_next_25 rfl hl (by decide) rfl (fun ls hl => ?_)
    refine lv_iload_n hx hb dX0_next_26 rfl (lv_at hl 0 rfl) ?_
    refine if_eq_f hx hb dX0_next_27 47 (by decide) (by decide) ?_
    refine lv_iconst (v := 0) hx hb dX0_next_30 (by decide) ?_
    refine lv_aload_n hx hb dX0_next_31 rfl (lv_at hl 1 rfl) ?_
    refine va_get (C := RX0) (T := TX0) (N := 5) (v := .ref nx) hx hb hts hi_X0_next_X0 hown hK hP 0 rfl rfl 2 (by decide) (hts (.fieldLink RX0 20 "BothWays$Beginnings" "nexts" "[I") (by decide +kernel)) (fun _ h => h) rfl dX0_next_32 ?_
    refine lv_iload_n hx hb dX0_next_35 rfl (lv_at hl 2 rfl) ?_
    refine lv_iconst (v := 3) hx hb dX0_next_36 (by decide) ?_
    refine w_imul (v := 0) hx hb dX0_next_37 (by decide) ?_
    refine lv_iload_n hx hb dX0_next_38 rfl (lv_at hl 3 rfl) ?_
    refine w_iadd (v := 1) hx hb dX0_next_39 (by decide) ?_
    refine w_iald (v := 0) hx hb hK hP 1 rfl dX0_next_40 (inC (by decide)) rfl ?_
    refine va_mmax hx hb (hml.trans hl.1.symm) hown (hts (.methodLink RX0 74 Lib.Math.max.name) (by decide +kernel)) (hts (.static Lib.Math.max.name) (by decide +kernel)) (hts (.initialized "java/lang/Math") (by decide +kernel)) (hts (.code Lib.Math.max.name Lib.Math.max.code 2 (some .int)) (by decide +kernel)) (Nat.le_of_ble_eq_true rfl) (Nat.le_of_ble_eq_true rfl) (Nat.le_of_ble_eq_true rfl) (Nat.le_of_ble_eq_true rfl) dX0_next_41 ?_
    refine tI 0 (by decide) ?_
    refine lv_goto (tgt := 48) hx hb dX0_next_44 (by decide) ?_
    exact rt_i hx hb hr hlocks hQ hP hD hS () [0, 1] dX0_next_48 rfl (Nat.le_of_ble_eq_true rfl) (Nat.le_of_ble_eq_true rfl) rfl (by decide) rfl
  rw [hH, hlo] at hgo
  exact hgo
abbrev rm_c_B_next_2 : Room := { frames := 1, cells := 0, slots := 0, locals := 21 }
set_option maxHeartbeats 4000000 in
set_option maxRecDepth 100000 in
theorem c_B_next_2 (l : Launch) (g : va_G) (cT : Nat → ClassId) (sz : Nat) (o : Nat) (o6 : Nat) (fi : Nat) (nx : Nat) (en : Nat)  : Ctr l g cT sz yX0_next wsX0_next rm_c_B_next_2 [.ref o, .int 0, .int 2] [(o, .inr (0, [.ref o6, .ref fi, .ref nx, .ref en, .int 0])), (nx, .inl (cT 0, 2400, .inl (fun _ => 0)))] (QI g (fun (r : Int32) (u : Unit) => r = 0) (fun (u : Unit) => [(o, .inr (0, [.ref o6, .ref fi, .ref nx, .ref en, .int 0])), (nx, .inl (cT 0, 2400, .inl (fun _ => 0)))])) 0 0 := by
  refine mk_ctr (cc := cX0_next) (maxL := 4) (ret := (some .int)) (by decide) rfl (Nat.le_of_ble_eq_true rfl) ?_
  intro p e s m args below meth c A Q hx hb hr hts hown hlocks hin hml hP hK hD hN hZ hA hS hQ ls hl
  have hl : lv_has ls 4 [(0, .ref o), (1, .int 0), (2, .int 2)] := hl
  obtain ⟨H, hH⟩ : ∃ H : Heap, H = s.heap := ⟨_, rfl⟩
  obtain ⟨locs, hlo⟩ : ∃ x : List Loc, x = [] := ⟨_, rfl⟩
  rw [← hH] at hP
  have hS : va_S A s.heap H locs := by rw [hH, hlo]; exact hS
  have hgo : W p l e rm_c_B_next_2 s m args below meth c H locs 0 0 Q (F0 m 0 ls []) := by
    clear hH hlo
    refine lv_iload_n hx hb dX0_next_0 rfl (lv_at hl 1 rfl) ?_
    refine if_lt_f hx hb dX0_next_1 24 (by decide) (by decide) ?_
    refine lv_iload_n hx hb dX0_next_4 rfl (lv_at hl 1 rfl) ?_
    refine lv_sipush (v := 800) hx hb dX0_next_5 (by decide) ?_
    refine icmp_ge_f hx hb dX0_next_8 24 (by decide) (by decide) ?_
    refine lv_iload_n hx hb dX0_next_11 rfl (lv_at hl 2 rfl) ?_
    refine if_lt_f hx hb dX0_next_12 24 (by decide) (by decide) ?_
    refine lv_iload_n hx hb dX0_next_15 rfl (lv_at hl 2 rfl) ?_
    refine lv_iconst (v := 3) hx hb dX0_next_16 (by decide) ?_
    refine icmp_ge_f hx hb dX0_next_17 24 (by decide) (by decide) ?_
    refine lv_iconst (v := 1) hx hb dX0_next_20 (by decide) ?_
    refine lv_goto (tgt := 25) hx hb dX0_next_21 (by decide) ?_
    refine lv_istore_n (lv' := [(3, .int 1), (0, .ref o), (1, .int 0), (2, .int 2)]) hx hb dX0_next_25 rfl hl (by decide) rfl (fun ls hl => ?_)
    refine lv_iload_n hx hb dX0_next_26 rfl (lv_at hl 0 rfl) ?_
    refine if_eq_f hx hb dX0_next_27 47 (by decide) (by decide) ?_
    refine lv_iconst (v := 0) hx hb dX0_next_30 (by decide) ?_
    refine lv_aload_n hx hb dX0_next_31 rfl (lv_at hl 1 rfl) ?_
    refine va_get (C := RX0) (T := TX0) (N := 5) (v := .ref nx) hx hb hts hi_X0_next_X0 hown hK hP 0 rfl rfl 2 (by decide) (hts (.fieldLink RX0 20 "BothWays$Beginnings" "nexts" "[I") (by decide +kernel)) (fun _ h => h) rfl dX0_next_32 ?_
    refine lv_iload_n hx hb dX0_next_35 rfl (lv_at hl 2 rfl) ?_
    refine lv_iconst (v := 3) hx hb dX0_next_36 (by decide) ?_
    refine w_imul (v := 0) hx hb dX0_next_37 (by decide) ?_
    refine lv_iload_n hx hb dX0_next_38 rfl (lv_at hl 3 rfl) ?_
    refine w_iadd (v := 2) hx hb dX0_next_39 (by decide) ?_
    refine w_iald (v := 0) hx hb hK hP 1 rfl dX0_next_40 (inC (by decide)) rfl ?_
    refine va_mmax hx hb (hml.trans hl.1.symm) hown (hts (.methodLink RX0 74 Lib.Math.max.name) (by decide +kernel)) (hts (.static Lib.Math.max.name) (by decide +kernel)) (hts (.initialized "java/lang/Math") (by decide +kernel)) (hts (.code Lib.Math.max.name Lib.Math.max.code 2 (some .int)) (by decide +kernel)) (Nat.le_of_ble_eq_true rfl) (Nat.le_of_ble_eq_true rfl) (Nat.le_of_ble_eq_true rfl) (Nat.le_of_ble_eq_true rfl) dX0_next_41 ?_
    refine tI 0 (by decide) ?_
    refine lv_goto (tgt := 48) hx hb dX0_next_44 (by decide) ?_
    exact rt_i hx hb hr hlocks hQ hP hD hS () [0, 1] dX0_next_48 rfl (Nat.le_of_ble_eq_true rfl) (Nat.le_of_ble_eq_true rfl) rfl (by decide) rfl
  rw [hH, hlo] at hgo
  exact hgo
theorem hi_X0_firstEnding_X0 : ∀ w ∈ wsX00, w ∈ wsX0_firstEnding := fun _ h => List.mem_cons_of_mem _ (List.mem_append_left _ (List.mem_append_left _ (List.mem_append_right _ h)))
theorem hi_X0_firstEnding_X1 : ∀ w ∈ wsX10, w ∈ wsX0_firstEnding := fun _ h => List.mem_cons_of_mem _ (List.mem_append_left _ (List.mem_append_right _ h))
theorem hi_X0_firstEnding_X2 : ∀ w ∈ wsX20, w ∈ wsX0_firstEnding := fun _ h => List.mem_cons_of_mem _ (List.mem_append_right _ h)
abbrev rm_c_B_firstEnding_1 : Room := { frames := 0, cells := 0, slots := 0, locals := 0 }
set_option maxHeartbeats 4000000 in
set_option maxRecDepth 100000 in
theorem c_B_firstEnding_1 (l : Launch) (g : va_G) (cT : Nat → ClassId) (sz : Nat) (o : Nat) (o6 : Nat) (fi : Nat) (nx : Nat) (en : Nat) (k : Nat) (a : Nat) (b : Nat) (pa : Nat) (la : Nat) (le : Nat)  : Ctr l g cT sz yX0_firstEnding wsX0_firstEnding rm_c_B_firstEnding_1 [.ref o, .int 1] [(o, .inr (0, [.ref o6, .ref fi, .ref nx, .ref en, .int 0])), (en, .inl (cT 0, 800, .inl (fun _ => 0))), (fi, .inr (1, [.ref k, .ref pa, .ref la, .ref le, .int 0])), (k, .inr (2, [.ref a, .ref b, .int 1]))] (QI g (fun (r : Int32) (u : Unit) => r = (-1)) (fun (u : Unit) => [(fi, .inr (1, [.ref k, .ref pa, .ref la, .ref le, .int 0]))])) 0 0 := by
  refine mk_ctr (cc := cX0_firstEnding) (maxL := 3) (ret := (some .int)) (by decide) rfl (Nat.le_of_ble_eq_true rfl) ?_
  intro p e s m args below meth c A Q hx hb hr hts hown hlocks hin hml hP hK hD hN hZ hA hS hQ ls hl
  have hl : lv_has ls 3 [(0, .ref o), (1, .int 1)] := hl
  obtain ⟨H, hH⟩ : ∃ H : Heap, H = s.heap := ⟨_, rfl⟩
  obtain ⟨locs, hlo⟩ : ∃ x : List Loc, x = [] := ⟨_, rfl⟩
  rw [← hH] at hP
  have hS : va_S A s.heap H locs := by rw [hH, hlo]; exact hS
  have hgo : W p l e rm_c_B_firstEnding_1 s m args below meth c H locs 0 0 Q (F0 m 0 ls []) := by
    clear hH hlo
    refine lv_iconst (v := 0) hx hb dX0_firstEnding_0 (by decide) ?_
    refine lv_istore_n (lv' := [(2, .int 0), (0, .ref o), (1, .int 1)]) hx hb dX0_firstEnding_1 rfl hl (by decide) rfl (fun ls hl => ?_)
    refine lv_iload_n hx hb dX0_firstEnding_2 rfl (lv_at hl 0 rfl) ?_
    refine lv_sipush (v := 800) hx hb dX0_firstEnding_3 (by decide) ?_
    refine icmp_ge_f hx hb dX0_firstEnding_6 41 (by decide) (by decide) ?_
    refine lv_iload_n hx hb dX0_firstEnding_9 rfl (lv_at hl 0 rfl) ?_
    refine lv_aload_n hx hb dX0_firstEnding_10 rfl (lv_at hl 1 rfl) ?_
    refine va_get (C := RX0) (T := TX0) (N := 5) (v := .ref fi) hx hb hts hi_X0_firstEnding_X0 hown hK hP 0 rfl rfl 1 (by decide) (hts (.fieldLink RX0 14 "BothWays$Beginnings" "finds" "LBothWays$Finds;") (by decide +kernel)) (fun _ h => h) rfl dX0_firstEnding_11 ?_
    refine va_getN (C := RX1) (T := TX1) (N := 5) (v := .ref k) hx hb hts hi_X0_firstEnding_X1 hown hK hP 2 rfl rfl 0 (by decide) (nf_23 hN) (fun _ h => h) rfl dX0_firstEnding_14 ?_
    refine va_getN (C := RX2) (T := TX2) (N := 3) (v := .int 1) hx hb hts hi_X0_firstEnding_X2 hown hK hP 3 rfl rfl 2 (by decide) (nf_17 hN) (fun _ h => h) rfl dX0_firstEnding_17 ?_
    refine icmp_ge_f hx hb dX0_firstEnding_20 41 (by decide) (by decide) ?_
    refine lv_aload_n hx hb dX0_firstEnding_23 rfl (lv_at hl 1 rfl) ?_
    refine va_get (C := RX0) (T := TX0) (N := 5) (v := .ref en) hx hb hts hi_X0_firstEnding_X0 hown hK hP 0 rfl rfl 3 (by decide) (hts (.fieldLink RX0 24 "BothWays$Beginnings" "ends" "[I") (by decide +kernel)) (fun _ h => h) rfl dX0_firstEnding_24 ?_
    refine lv_iload_n hx hb dX0_firstEnding_27 rfl (lv_at hl 0 rfl) ?_
    refine w_iald (v := 0) hx hb hK hP 1 rfl dX0_firstEnding_28 (inC (by decide)) rfl ?_
    refine lv_iload_n hx hb dX0_firstEnding_29 rfl (lv_at hl 2 rfl) ?_
    refine icmp_ne_t hx hb 35 dX0_firstEnding_30 (by decide) (by decide) ?_
    refine lv_iinc (v := 1) (lv' := [(2, .int 1), (0, .ref o), (1, .int 1)]) hx hb dX0_firstEnding_35 hl (k := 0) rfl (by decide) (by decide) rfl (fun ls hl => ?_)
    refine lv_goto (tgt := 2) hx hb dX0_firstEnding_38 (by decide) ?_
    refine lv_iload_n hx hb dX0_firstEnding_2 rfl (lv_at hl 0 rfl) ?_
    refine lv_sipush (v := 800) hx hb dX0_firstEnding_3 (by decide) ?_
    refine icmp_ge_f hx hb dX0_firstEnding_6 41 (by decide) (by decide) ?_
    refine lv_iload_n hx hb dX0_firstEnding_9 rfl (lv_at hl 0 rfl) ?_
    refine lv_aload_n hx hb dX0_firstEnding_10 rfl (lv_at hl 1 rfl) ?_
    refine va_get (C := RX0) (T := TX0) (N := 5) (v := .ref fi) hx hb hts hi_X0_firstEnding_X0 hown hK hP 0 rfl rfl 1 (by decide) (hts (.fieldLink RX0 14 "BothWays$Beginnings" "finds" "LBothWays$Finds;") (by decide +kernel)) (fun _ h => h) rfl dX0_firstEnding_11 ?_
    refine va_getN (C := RX1) (T := TX1) (N := 5) (v := .ref k) hx hb hts hi_X0_firstEnding_X1 hown hK hP 2 rfl rfl 0 (by decide) (nf_23 hN) (fun _ h => h) rfl dX0_firstEnding_14 ?_
    refine va_getN (C := RX2) (T := TX2) (N := 3) (v := .int 1) hx hb hts hi_X0_firstEnding_X2 hown hK hP 3 rfl rfl 2 (by decide) (nf_17 hN) (fun _ h => h) rfl dX0_firstEnding_17 ?_
    refine icmp_ge_t hx hb 41 dX0_firstEnding_20 (by decide) (by decide) ?_
    refine lv_iconst (v := (-1)) hx hb dX0_firstEnding_41 (by decide) ?_
    exact rt_i hx hb hr hlocks hQ hP hD hS () [2] dX0_firstEnding_42 rfl (Nat.le_of_ble_eq_true rfl) (Nat.le_of_ble_eq_true rfl) rfl (by decide) rfl
  rw [hH, hlo] at hgo
  exact hgo
abbrev rm_c_B_firstEnding_2 : Room := { frames := 0, cells := 0, slots := 0, locals := 0 }
set_option maxHeartbeats 4000000 in
set_option maxRecDepth 100000 in
theorem c_B_firstEnding_2 (l : Launch) (g : va_G) (cT : Nat → ClassId) (sz : Nat) (o : Nat) (o6 : Nat) (fi : Nat) (nx : Nat) (en : Nat) (k : Nat) (a : Nat) (b : Nat) (pa : Nat) (la : Nat) (le : Nat)  : Ctr l g cT sz yX0_firstEnding wsX0_firstEnding rm_c_B_firstEnding_2 [.ref o, .int 2] [(o, .inr (0, [.ref o6, .ref fi, .ref nx, .ref en, .int 0])), (en, .inl (cT 0, 800, .inl (fun _ => 0))), (fi, .inr (1, [.ref k, .ref pa, .ref la, .ref le, .int 0])), (k, .inr (2, [.ref a, .ref b, .int 1]))] (QI g (fun (r : Int32) (u : Unit) => r = (-1)) (fun (u : Unit) => [(fi, .inr (1, [.ref k, .ref pa, .ref la, .ref le, .int 0]))])) 0 0 := by
  refine mk_ctr (cc := cX0_firstEnding) (maxL := 3) (ret := (some .int)) (by decide) rfl (Nat.le_of_ble_eq_true rfl) ?_
  intro p e s m args below meth c A Q hx hb hr hts hown hlocks hin hml hP hK hD hN hZ hA hS hQ ls hl
  have hl : lv_has ls 3 [(0, .ref o), (1, .int 2)] := hl
  obtain ⟨H, hH⟩ : ∃ H : Heap, H = s.heap := ⟨_, rfl⟩
  obtain ⟨locs, hlo⟩ : ∃ x : List Loc, x = [] := ⟨_, rfl⟩
  rw [← hH] at hP
  have hS : va_S A s.heap H locs := by rw [hH, hlo]; exact hS
  have hgo : W p l e rm_c_B_firstEnding_2 s m args below meth c H locs 0 0 Q (F0 m 0 ls []) := by
    clear hH hlo
    refine lv_iconst (v := 0) hx hb dX0_firstEnding_0 (by decide) ?_
    refine lv_istore_n (lv' := [(2, .int 0), (0, .ref o), (1, .int 2)]) hx hb dX0_firstEnding_1 rfl hl (by decide) rfl (fun ls hl => ?_)
    refine lv_iload_n hx hb dX0_firstEnding_2 rfl (lv_at hl 0 rfl) ?_
    refine lv_sipush (v := 800) hx hb dX0_firstEnding_3 (by decide) ?_
    refine icmp_ge_f hx hb dX0_firstEnding_6 41 (by decide) (by decide) ?_
    refine lv_iload_n hx hb dX0_firstEnding_9 rfl (lv_at hl 0 rfl) ?_
    refine lv_aload_n hx hb dX0_firstEnding_10 rfl (lv_at hl 1 rfl) ?_
    refine va_get (C := RX0) (T := TX0) (N := 5) (v := .ref fi) hx hb hts hi_X0_firstEnding_X0 hown hK hP 0 rfl rfl 1 (by decide) (hts (.fieldLink RX0 14 "BothWays$Beginnings" "finds" "LBothWays$Finds;") (by decide +kernel)) (fun _ h => h) rfl dX0_firstEnding_11 ?_
    refine va_getN (C := RX1) (T := TX1) (N := 5) (v := .ref k) hx hb hts hi_X0_firstEnding_X1 hown hK hP 2 rfl rfl 0 (by decide) (nf_23 hN) (fun _ h => h) rfl dX0_firstEnding_14 ?_
    refine va_getN (C := RX2) (T := TX2) (N := 3) (v := .int 1) hx hb hts hi_X0_firstEnding_X2 hown hK hP 3 rfl rfl 2 (by decide) (nf_17 hN) (fun _ h => h) rfl dX0_firstEnding_17 ?_
    refine icmp_ge_f hx hb dX0_firstEnding_20 41 (by decide) (by decide) ?_
    refine lv_aload_n hx hb dX0_firstEnding_23 rfl (lv_at hl 1 rfl) ?_
    refine va_get (C := RX0) (T := TX0) (N := 5) (v := .ref en) hx hb hts hi_X0_firstEnding_X0 hown hK hP 0 rfl rfl 3 (by decide) (hts (.fieldLink RX0 24 "BothWays$Beginnings" "ends" "[I") (by decide +kernel)) (fun _ h => h) rfl dX0_firstEnding_24 ?_
    refine lv_iload_n hx hb dX0_firstEnding_27 rfl (lv_at hl 0 rfl) ?_
    refine w_iald (v := 0) hx hb hK hP 1 rfl dX0_firstEnding_28 (inC (by decide)) rfl ?_
    refine lv_iload_n hx hb dX0_firstEnding_29 rfl (lv_at hl 2 rfl) ?_
    refine icmp_ne_t hx hb 35 dX0_firstEnding_30 (by decide) (by decide) ?_
    refine lv_iinc (v := 1) (lv' := [(2, .int 1), (0, .ref o), (1, .int 2)]) hx hb dX0_firstEnding_35 hl (k := 0) rfl (by decide) (by decide) rfl (fun ls hl => ?_)
    refine lv_goto (tgt := 2) hx hb dX0_firstEnding_38 (by decide) ?_
    refine lv_iload_n hx hb dX0_firstEnding_2 rfl (lv_at hl 0 rfl) ?_
    refine lv_sipush (v := 800) hx hb dX0_firstEnding_3 (by decide) ?_
    refine icmp_ge_f hx hb dX0_firstEnding_6 41 (by decide) (by decide) ?_
    refine lv_iload_n hx hb dX0_firstEnding_9 rfl (lv_at hl 0 rfl) ?_
    refine lv_aload_n hx hb dX0_firstEnding_10 rfl (lv_at hl 1 rfl) ?_
    refine va_get (C := RX0) (T := TX0) (N := 5) (v := .ref fi) hx hb hts hi_X0_firstEnding_X0 hown hK hP 0 rfl rfl 1 (by decide) (hts (.fieldLink RX0 14 "BothWays$Beginnings" "finds" "LBothWays$Finds;") (by decide +kernel)) (fun _ h => h) rfl dX0_firstEnding_11 ?_
    refine va_getN (C := RX1) (T := TX1) (N := 5) (v := .ref k) hx hb hts hi_X0_firstEnding_X1 hown hK hP 2 rfl rfl 0 (by decide) (nf_23 hN) (fun _ h => h) rfl dX0_firstEnding_14 ?_
    refine va_getN (C := RX2) (T := TX2) (N := 3) (v := .int 1) hx hb hts hi_X0_firstEnding_X2 hown hK hP 3 rfl rfl 2 (by decide) (nf_17 hN) (fun _ h => h) rfl dX0_firstEnding_17 ?_
    refine icmp_ge_t hx hb 41 dX0_firstEnding_20 (by decide) (by decide) ?_
    refine lv_iconst (v := (-1)) hx hb dX0_firstEnding_41 (by decide) ?_
    exact rt_i hx hb hr hlocks hQ hP hD hS () [2] dX0_firstEnding_42 rfl (Nat.le_of_ble_eq_true rfl) (Nat.le_of_ble_eq_true rfl) rfl (by decide) rfl
  rw [hH, hlo] at hgo
  exact hgo
